theorem inIX2_init : ∀ w ∈ u_ws RX2 TX2 14, w ∈ wsX2_init := uX2_init__wsX20
theorem hdI_X2_reset : yX2_reset.cls = RX2 ∧ yX2_reset.cls ≠ "java/lang/invoke/MethodHandle" ∧ yX2_reset.cls ≠ "java/lang/invoke/VarHandle" ∧ (parseMethodDescriptor yX2_reset.desc).map (fun d => d.parameters.length) = some 0 := by decide +kernel
set_option maxHeartbeats 4000000 in
set_option maxRecDepth 100000 in
theorem ciX2_init_1 (l : Launch) (g : GG) : CI g l yX2_init wsX2_init ({ frames := 3, cells := 8, slots := 369, locals := 101 } : Room) (.inr (2, [.null, .null, .null, .null, .null, .null, .null, .null, .int 0, .int 0, .int 0, .int 0, .int 0, .int 0])) 1 [1, 2, 3, 4, 5, 6, 7, 8, 9] (tpP 1) 8 369 := by
  refine mk_CI (cc := cX2_init) (maxL := 1) (by decide) rfl rfl (by decide) ?_
  intro z Qf h0 sz A hC hIn hR
  refine y_aload_n hC dX2_init_0 0 rfl 1 rfl ?_
  refine y_oinit hC (uX2_init__o _ (List.mem_of_getElem? (l := owX2_init) (i := 1) rfl)) (uX2_init__o _ (List.mem_of_getElem? (l := owX2_init) (i := 2) rfl)) (uX2_init__o _ (List.mem_of_getElem? (l := owX2_init) (i := 3) rfl)) (Nat.le_of_ble_eq_true rfl) (Nat.le_of_ble_eq_true rfl) dX2_init_1 4 rfl ?_
  refine y_aload_n hC dX2_init_4 0 rfl 5 rfl ?_
  refine y_bipush (v := 9) hC dX2_init_5 (by decide) 7 rfl ?_
  refine y_newa (ty := .int) (cT := gI g) (N := 9) (a0 := (9, .inl (fun _ => 0))) hC 0 rfl rfl (Or.inl rfl) (uX2_init__o _ (List.mem_of_getElem? (l := owX2_init) (i := 4) rfl)) (fun _ => rfl) (by decide) (by decide) (Nat.le_of_ble_eq_true rfl) (Nat.le_of_ble_eq_true rfl) (Nat.le_of_ble_eq_true rfl) dX2_init_7 9 rfl (fun q2 => ?_)
  refine y_put (C := RX2) (T := TX2) (N := 14) (ci := 2) (ty := .array .int) (v := .ref q2) (fs' := [.ref q2, .null, .null, .null, .null, .null, .null, .null, .int 0, .int 0, .int 0, .int 0, .int 0, .int 0]) hC hIn inIX2_init tyX2 tyX2_ok nmX2 rfl 0 (by decide) (uX2_init__X2_reset _ (List.mem_of_getElem? (l := owX2_reset) (i := 1) rfl)) rfl (by decide +kernel) rfl rfl (Nat.le_of_ble_eq_true rfl) rfl dX2_init_9 12 rfl ?_
  refine y_aload_n hC dX2_init_12 0 rfl 13 rfl ?_
  refine y_bipush (v := 12) hC dX2_init_13 (by decide) 15 rfl ?_
  refine y_newa (ty := .int) (cT := gI g) (N := 12) (a0 := (12, .inl (fun _ => 0))) hC 0 rfl rfl (Or.inl rfl) (uX2_init__o _ (List.mem_of_getElem? (l := owX2_init) (i := 4) rfl)) (fun _ => rfl) (by decide) (by decide) (Nat.le_of_ble_eq_true rfl) (Nat.le_of_ble_eq_true rfl) (Nat.le_of_ble_eq_true rfl) dX2_init_15 17 rfl (fun q3 => ?_)
  refine y_put (C := RX2) (T := TX2) (N := 14) (ci := 2) (ty := .array .int) (v := .ref q3) (fs' := [.ref q2, .ref q3, .null, .null, .null, .null, .null, .null, .int 0, .int 0, .int 0, .int 0, .int 0, .int 0]) hC hIn inIX2_init tyX2 tyX2_ok nmX2 rfl 1 (by decide) (uX2_init__o _ (List.mem_of_getElem? (l := owX2_init) (i := 5) rfl)) rfl (by decide +kernel) rfl rfl (Nat.le_of_ble_eq_true rfl) rfl dX2_init_17 20 rfl ?_
  refine y_aload_n hC dX2_init_20 0 rfl 21 rfl ?_
  refine y_bipush (v := 12) hC dX2_init_21 (by decide) 23 rfl ?_
  refine y_newa (ty := .int) (cT := gI g) (N := 12) (a0 := (12, .inl (fun _ => 0))) hC 0 rfl rfl (Or.inl rfl) (uX2_init__o _ (List.mem_of_getElem? (l := owX2_init) (i := 4) rfl)) (fun _ => rfl) (by decide) (by decide) (Nat.le_of_ble_eq_true rfl) (Nat.le_of_ble_eq_true rfl) (Nat.le_of_ble_eq_true rfl) dX2_init_23 25 rfl (fun q4 => ?_)
  refine y_put (C := RX2) (T := TX2) (N := 14) (ci := 2) (ty := .array .int) (v := .ref q4) (fs' := [.ref q2, .ref q3, .ref q4, .null, .null, .null, .null, .null, .int 0, .int 0, .int 0, .int 0, .int 0, .int 0]) hC hIn inIX2_init tyX2 tyX2_ok nmX2 rfl 2 (by decide) (uX2_init__o _ (List.mem_of_getElem? (l := owX2_init) (i := 6) rfl)) rfl (by decide +kernel) rfl rfl (Nat.le_of_ble_eq_true rfl) rfl dX2_init_25 28 rfl ?_
  refine y_aload_n hC dX2_init_28 0 rfl 29 rfl ?_
  refine y_sipush (v := 156) hC dX2_init_29 (by decide) 32 rfl ?_
  refine y_newa (ty := .int) (cT := gI g) (N := 156) (a0 := (156, .inl (fun _ => 0))) hC 0 rfl rfl (Or.inl rfl) (uX2_init__o _ (List.mem_of_getElem? (l := owX2_init) (i := 4) rfl)) (fun _ => rfl) (by decide) (by decide) (Nat.le_of_ble_eq_true rfl) (Nat.le_of_ble_eq_true rfl) (Nat.le_of_ble_eq_true rfl) dX2_init_32 34 rfl (fun q5 => ?_)
  refine y_put (C := RX2) (T := TX2) (N := 14) (ci := 2) (ty := .array .int) (v := .ref q5) (fs' := [.ref q2, .ref q3, .ref q4, .ref q5, .null, .null, .null, .null, .int 0, .int 0, .int 0, .int 0, .int 0, .int 0]) hC hIn inIX2_init tyX2 tyX2_ok nmX2 rfl 3 (by decide) (uX2_init__o _ (List.mem_of_getElem? (l := owX2_init) (i := 7) rfl)) rfl (by decide +kernel) rfl rfl (Nat.le_of_ble_eq_true rfl) rfl dX2_init_34 37 rfl ?_
  refine y_aload_n hC dX2_init_37 0 rfl 38 rfl ?_
  refine y_sipush (v := 144) hC dX2_init_38 (by decide) 41 rfl ?_
  refine y_newa (ty := .int) (cT := gI g) (N := 144) (a0 := (144, .inl (fun _ => 0))) hC 0 rfl rfl (Or.inl rfl) (uX2_init__o _ (List.mem_of_getElem? (l := owX2_init) (i := 4) rfl)) (fun _ => rfl) (by decide) (by decide) (Nat.le_of_ble_eq_true rfl) (Nat.le_of_ble_eq_true rfl) (Nat.le_of_ble_eq_true rfl) dX2_init_41 43 rfl (fun q6 => ?_)
  refine y_put (C := RX2) (T := TX2) (N := 14) (ci := 2) (ty := .array .int) (v := .ref q6) (fs' := [.ref q2, .ref q3, .ref q4, .ref q5, .ref q6, .null, .null, .null, .int 0, .int 0, .int 0, .int 0, .int 0, .int 0]) hC hIn inIX2_init tyX2 tyX2_ok nmX2 rfl 4 (by decide) (uX2_init__o _ (List.mem_of_getElem? (l := owX2_init) (i := 8) rfl)) rfl (by decide +kernel) rfl rfl (Nat.le_of_ble_eq_true rfl) rfl dX2_init_43 46 rfl ?_
  refine y_aload_n hC dX2_init_46 0 rfl 47 rfl ?_
  refine y_bipush (v := 12) hC dX2_init_47 (by decide) 49 rfl ?_
  refine y_newa (ty := .int) (cT := gI g) (N := 12) (a0 := (12, .inl (fun _ => 0))) hC 0 rfl rfl (Or.inl rfl) (uX2_init__o _ (List.mem_of_getElem? (l := owX2_init) (i := 4) rfl)) (fun _ => rfl) (by decide) (by decide) (Nat.le_of_ble_eq_true rfl) (Nat.le_of_ble_eq_true rfl) (Nat.le_of_ble_eq_true rfl) dX2_init_49 51 rfl (fun q7 => ?_)
  refine y_put (C := RX2) (T := TX2) (N := 14) (ci := 2) (ty := .array .int) (v := .ref q7) (fs' := [.ref q2, .ref q3, .ref q4, .ref q5, .ref q6, .ref q7, .null, .null, .int 0, .int 0, .int 0, .int 0, .int 0, .int 0]) hC hIn inIX2_init tyX2 tyX2_ok nmX2 rfl 5 (by decide) (uX2_init__o _ (List.mem_of_getElem? (l := owX2_init) (i := 9) rfl)) rfl (by decide +kernel) rfl rfl (Nat.le_of_ble_eq_true rfl) rfl dX2_init_51 54 rfl ?_
  refine y_aload_n hC dX2_init_54 0 rfl 55 rfl ?_
  refine y_bipush (v := 12) hC dX2_init_55 (by decide) 57 rfl ?_
  refine y_newa (ty := .int) (cT := gI g) (N := 12) (a0 := (12, .inl (fun _ => 0))) hC 0 rfl rfl (Or.inl rfl) (uX2_init__o _ (List.mem_of_getElem? (l := owX2_init) (i := 4) rfl)) (fun _ => rfl) (by decide) (by decide) (Nat.le_of_ble_eq_true rfl) (Nat.le_of_ble_eq_true rfl) (Nat.le_of_ble_eq_true rfl) dX2_init_57 59 rfl (fun q8 => ?_)
  refine y_put (C := RX2) (T := TX2) (N := 14) (ci := 2) (ty := .array .int) (v := .ref q8) (fs' := [.ref q2, .ref q3, .ref q4, .ref q5, .ref q6, .ref q7, .ref q8, .null, .int 0, .int 0, .int 0, .int 0, .int 0, .int 0]) hC hIn inIX2_init tyX2 tyX2_ok nmX2 rfl 6 (by decide) (uX2_init__o _ (List.mem_of_getElem? (l := owX2_init) (i := 10) rfl)) rfl (by decide +kernel) rfl rfl (Nat.le_of_ble_eq_true rfl) rfl dX2_init_59 62 rfl ?_
  refine y_aload_n hC dX2_init_62 0 rfl 63 rfl ?_
  refine y_bipush (v := 12) hC dX2_init_63 (by decide) 65 rfl ?_
  refine y_newa (ty := .int) (cT := gI g) (N := 12) (a0 := (12, .inl (fun _ => 0))) hC 0 rfl rfl (Or.inl rfl) (uX2_init__o _ (List.mem_of_getElem? (l := owX2_init) (i := 4) rfl)) (fun _ => rfl) (by decide) (by decide) (Nat.le_of_ble_eq_true rfl) (Nat.le_of_ble_eq_true rfl) (Nat.le_of_ble_eq_true rfl) dX2_init_65 67 rfl (fun q9 => ?_)
  refine y_put (C := RX2) (T := TX2) (N := 14) (ci := 2) (ty := .array .int) (v := .ref q9) (fs' := [.ref q2, .ref q3, .ref q4, .ref q5, .ref q6, .ref q7, .ref q8, .ref q9, .int 0, .int 0, .int 0, .int 0, .int 0, .int 0]) hC hIn inIX2_init tyX2 tyX2_ok nmX2 rfl 7 (by decide) (uX2_init__o _ (List.mem_of_getElem? (l := owX2_init) (i := 11) rfl)) rfl (by decide +kernel) rfl rfl (Nat.le_of_ble_eq_true rfl) rfl dX2_init_67 70 rfl ?_
  refine y_aload_n hC dX2_init_70 0 rfl 71 rfl ?_
  obtain ⟨a, ha⟩ : ∃ a : Nat → Nat, a = fun k => cond (Nat.beq k 1) (h0) (cond (Nat.beq k 2) (q2) (cond (Nat.beq k 3) (q3) (cond (Nat.beq k 4) (q4) (cond (Nat.beq k 5) (q5) (cond (Nat.beq k 6) (q6) (cond (Nat.beq k 7) (q7) (cond (Nat.beq k 8) (q8) (cond (Nat.beq k 9) (q9) (0))))))))) := ⟨_, rfl⟩
  obtain ⟨M, hM⟩ : ∃ M : MM, M = fun k => cond (Nat.beq k 1) (fun j => 0) (cond (Nat.beq k 2) (fun _ => 0) (cond (Nat.beq k 3) (fun _ => 0) (cond (Nat.beq k 4) (fun _ => 0) (cond (Nat.beq k 5) (fun _ => 0) (cond (Nat.beq k 6) (fun _ => 0) (cond (Nat.beq k 7) (fun _ => 0) (cond (Nat.beq k 8) (fun _ => 0) (cond (Nat.beq k 9) (fun _ => 0) (fun _ => 0))))))))) := ⟨_, rfl⟩
  have ha0 : a 1 = h0 := by rw [ha]; rfl
  refine YY.to (ws' := Wp g a [1, 2, 3, 4, 5, 6, 7, 8, 9] M) (by subst ha; subst hM; rfl) ?_
  have ht : tpl (gp g a [1, 2, 3, 4, 5, 6, 7, 8, 9]) 1 := ⟨by unfold tpB; omega, by show ∀ i, i < 9 → 1 + i ∈ [1, 2, 3, 4, 5, 6, 7, 8, 9]; decide⟩
  rw [← ha0]
  refine y_callV (b := 1) (q := (RX2, TX2, 14)) (Q := tpP 1) hC (by decide) (ctX2_reset (zl z) (gp g a [1, 2, 3, 4, 5, 6, 7, 8, 9]) M 1 _ ht (s_reset0 (Or.inl rfl) (fun M' hw => hw))) gX2_init_X2_reset rfl ⟨rfl, rfl⟩ hdI_X2_reset ⟨Nat.le_of_ble_eq_true rfl, Nat.le_of_ble_eq_true rfl⟩ ht.ob rfl ⟨Nat.le_of_ble_eq_true rfl, Nat.le_of_ble_eq_true rfl⟩ (Nat.le_of_ble_eq_true rfl) dX2_init_71 74 rfl (fun N71 hw => ?_)
  exact y_ret hR hC a N71 dX2_init_74 ha0 hw rfl rfl rfl
set_option maxHeartbeats 4000000 in
set_option maxRecDepth 100000 in
theorem ciX2_init_10 (l : Launch) (g : GG) : CI g l yX2_init wsX2_init ({ frames := 3, cells := 8, slots := 369, locals := 101 } : Room) (.inr (2, [.null, .null, .null, .null, .null, .null, .null, .null, .int 0, .int 0, .int 0, .int 0, .int 0, .int 0])) 10 [10, 11, 12, 13, 14, 15, 16, 17, 18] (tpP 10) 8 369 := by
  refine mk_CI (cc := cX2_init) (maxL := 1) (by decide) rfl rfl (by decide) ?_
  intro z Qf h0 sz A hC hIn hR
  refine y_aload_n hC dX2_init_0 0 rfl 1 rfl ?_
  refine y_oinit hC (uX2_init__o _ (List.mem_of_getElem? (l := owX2_init) (i := 1) rfl)) (uX2_init__o _ (List.mem_of_getElem? (l := owX2_init) (i := 2) rfl)) (uX2_init__o _ (List.mem_of_getElem? (l := owX2_init) (i := 3) rfl)) (Nat.le_of_ble_eq_true rfl) (Nat.le_of_ble_eq_true rfl) dX2_init_1 4 rfl ?_
  refine y_aload_n hC dX2_init_4 0 rfl 5 rfl ?_
  refine y_bipush (v := 9) hC dX2_init_5 (by decide) 7 rfl ?_
  refine y_newa (ty := .int) (cT := gI g) (N := 9) (a0 := (9, .inl (fun _ => 0))) hC 0 rfl rfl (Or.inl rfl) (uX2_init__o _ (List.mem_of_getElem? (l := owX2_init) (i := 4) rfl)) (fun _ => rfl) (by decide) (by decide) (Nat.le_of_ble_eq_true rfl) (Nat.le_of_ble_eq_true rfl) (Nat.le_of_ble_eq_true rfl) dX2_init_7 9 rfl (fun q11 => ?_)
  refine y_put (C := RX2) (T := TX2) (N := 14) (ci := 2) (ty := .array .int) (v := .ref q11) (fs' := [.ref q11, .null, .null, .null, .null, .null, .null, .null, .int 0, .int 0, .int 0, .int 0, .int 0, .int 0]) hC hIn inIX2_init tyX2 tyX2_ok nmX2 rfl 0 (by decide) (uX2_init__X2_reset _ (List.mem_of_getElem? (l := owX2_reset) (i := 1) rfl)) rfl (by decide +kernel) rfl rfl (Nat.le_of_ble_eq_true rfl) rfl dX2_init_9 12 rfl ?_
  refine y_aload_n hC dX2_init_12 0 rfl 13 rfl ?_
  refine y_bipush (v := 12) hC dX2_init_13 (by decide) 15 rfl ?_
  refine y_newa (ty := .int) (cT := gI g) (N := 12) (a0 := (12, .inl (fun _ => 0))) hC 0 rfl rfl (Or.inl rfl) (uX2_init__o _ (List.mem_of_getElem? (l := owX2_init) (i := 4) rfl)) (fun _ => rfl) (by decide) (by decide) (Nat.le_of_ble_eq_true rfl) (Nat.le_of_ble_eq_true rfl) (Nat.le_of_ble_eq_true rfl) dX2_init_15 17 rfl (fun q12 => ?_)
  refine y_put (C := RX2) (T := TX2) (N := 14) (ci := 2) (ty := .array .int) (v := .ref q12) (fs' := [.ref q11, .ref q12, .null, .null, .null, .null, .null, .null, .int 0, .int 0, .int 0, .int 0, .int 0, .int 0]) hC hIn inIX2_init tyX2 tyX2_ok nmX2 rfl 1 (by decide) (uX2_init__o _ (List.mem_of_getElem? (l := owX2_init) (i := 5) rfl)) rfl (by decide +kernel) rfl rfl (Nat.le_of_ble_eq_true rfl) rfl dX2_init_17 20 rfl ?_
  refine y_aload_n hC dX2_init_20 0 rfl 21 rfl ?_
  refine y_bipush (v := 12) hC dX2_init_21 (by decide) 23 rfl ?_
  refine y_newa (ty := .int) (cT := gI g) (N := 12) (a0 := (12, .inl (fun _ => 0))) hC 0 rfl rfl (Or.inl rfl) (uX2_init__o _ (List.mem_of_getElem? (l := owX2_init) (i := 4) rfl)) (fun _ => rfl) (by decide) (by decide) (Nat.le_of_ble_eq_true rfl) (Nat.le_of_ble_eq_true rfl) (Nat.le_of_ble_eq_true rfl) dX2_init_23 25 rfl (fun q13 => ?_)
  refine y_put (C := RX2) (T := TX2) (N := 14) (ci := 2) (ty := .array .int) (v := .ref q13) (fs' := [.ref q11, .ref q12, .ref q13, .null, .null, .null, .null, .null, .int 0, .int 0, .int 0, .int 0, .int 0, .int 0]) hC hIn inIX2_init tyX2 tyX2_ok nmX2 rfl 2 (by decide) (uX2_init__o _ (List.mem_of_getElem? (l := owX2_init) (i := 6) rfl)) rfl (by decide +kernel) rfl rfl (Nat.le_of_ble_eq_true rfl) rfl dX2_init_25 28 rfl ?_
  refine y_aload_n hC dX2_init_28 0 rfl 29 rfl ?_
  refine y_sipush (v := 156) hC dX2_init_29 (by decide) 32 rfl ?_
  refine y_newa (ty := .int) (cT := gI g) (N := 156) (a0 := (156, .inl (fun _ => 0))) hC 0 rfl rfl (Or.inl rfl) (uX2_init__o _ (List.mem_of_getElem? (l := owX2_init) (i := 4) rfl)) (fun _ => rfl) (by decide) (by decide) (Nat.le_of_ble_eq_true rfl) (Nat.le_of_ble_eq_true rfl) (Nat.le_of_ble_eq_true rfl) dX2_init_32 34 rfl (fun q14 => ?_)
  refine y_put (C := RX2) (T := TX2) (N := 14) (ci := 2) (ty := .array .int) (v := .ref q14) (fs' := [.ref q11, .ref q12, .ref q13, .ref q14, .null, .null, .null, .null, .int 0, .int 0, .int 0, .int 0, .int 0, .int 0]) hC hIn inIX2_init tyX2 tyX2_ok nmX2 rfl 3 (by decide) (uX2_init__o _ (List.mem_of_getElem? (l := owX2_init) (i := 7) rfl)) rfl (by decide +kernel) rfl rfl (Nat.le_of_ble_eq_true rfl) rfl dX2_init_34 37 rfl ?_
  refine y_aload_n hC dX2_init_37 0 rfl 38 rfl ?_
  refine y_sipush (v := 144) hC dX2_init_38 (by decide) 41 rfl ?_
  refine y_newa (ty := .int) (cT := gI g) (N := 144) (a0 := (144, .inl (fun _ => 0))) hC 0 rfl rfl (Or.inl rfl) (uX2_init__o _ (List.mem_of_getElem? (l := owX2_init) (i := 4) rfl)) (fun _ => rfl) (by decide) (by decide) (Nat.le_of_ble_eq_true rfl) (Nat.le_of_ble_eq_true rfl) (Nat.le_of_ble_eq_true rfl) dX2_init_41 43 rfl (fun q15 => ?_)
  refine y_put (C := RX2) (T := TX2) (N := 14) (ci := 2) (ty := .array .int) (v := .ref q15) (fs' := [.ref q11, .ref q12, .ref q13, .ref q14, .ref q15, .null, .null, .null, .int 0, .int 0, .int 0, .int 0, .int 0, .int 0]) hC hIn inIX2_init tyX2 tyX2_ok nmX2 rfl 4 (by decide) (uX2_init__o _ (List.mem_of_getElem? (l := owX2_init) (i := 8) rfl)) rfl (by decide +kernel) rfl rfl (Nat.le_of_ble_eq_true rfl) rfl dX2_init_43 46 rfl ?_
  refine y_aload_n hC dX2_init_46 0 rfl 47 rfl ?_
  refine y_bipush (v := 12) hC dX2_init_47 (by decide) 49 rfl ?_
  refine y_newa (ty := .int) (cT := gI g) (N := 12) (a0 := (12, .inl (fun _ => 0))) hC 0 rfl rfl (Or.inl rfl) (uX2_init__o _ (List.mem_of_getElem? (l := owX2_init) (i := 4) rfl)) (fun _ => rfl) (by decide) (by decide) (Nat.le_of_ble_eq_true rfl) (Nat.le_of_ble_eq_true rfl) (Nat.le_of_ble_eq_true rfl) dX2_init_49 51 rfl (fun q16 => ?_)
  refine y_put (C := RX2) (T := TX2) (N := 14) (ci := 2) (ty := .array .int) (v := .ref q16) (fs' := [.ref q11, .ref q12, .ref q13, .ref q14, .ref q15, .ref q16, .null, .null, .int 0, .int 0, .int 0, .int 0, .int 0, .int 0]) hC hIn inIX2_init tyX2 tyX2_ok nmX2 rfl 5 (by decide) (uX2_init__o _ (List.mem_of_getElem? (l := owX2_init) (i := 9) rfl)) rfl (by decide +kernel) rfl rfl (Nat.le_of_ble_eq_true rfl) rfl dX2_init_51 54 rfl ?_
  refine y_aload_n hC dX2_init_54 0 rfl 55 rfl ?_
  refine y_bipush (v := 12) hC dX2_init_55 (by decide) 57 rfl ?_
  refine y_newa (ty := .int) (cT := gI g) (N := 12) (a0 := (12, .inl (fun _ => 0))) hC 0 rfl rfl (Or.inl rfl) (uX2_init__o _ (List.mem_of_getElem? (l := owX2_init) (i := 4) rfl)) (fun _ => rfl) (by decide) (by decide) (Nat.le_of_ble_eq_true rfl) (Nat.le_of_ble_eq_true rfl) (Nat.le_of_ble_eq_true rfl) dX2_init_57 59 rfl (fun q17 => ?_)
  refine y_put (C := RX2) (T := TX2) (N := 14) (ci := 2) (ty := .array .int) (v := .ref q17) (fs' := [.ref q11, .ref q12, .ref q13, .ref q14, .ref q15, .ref q16, .ref q17, .null, .int 0, .int 0, .int 0, .int 0, .int 0, .int 0]) hC hIn inIX2_init tyX2 tyX2_ok nmX2 rfl 6 (by decide) (uX2_init__o _ (List.mem_of_getElem? (l := owX2_init) (i := 10) rfl)) rfl (by decide +kernel) rfl rfl (Nat.le_of_ble_eq_true rfl) rfl dX2_init_59 62 rfl ?_
  refine y_aload_n hC dX2_init_62 0 rfl 63 rfl ?_
  refine y_bipush (v := 12) hC dX2_init_63 (by decide) 65 rfl ?_
  refine y_newa (ty := .int) (cT := gI g) (N := 12) (a0 := (12, .inl (fun _ => 0))) hC 0 rfl rfl (Or.inl rfl) (uX2_init__o _ (List.mem_of_getElem? (l := owX2_init) (i := 4) rfl)) (fun _ => rfl) (by decide) (by decide) (Nat.le_of_ble_eq_true rfl) (Nat.le_of_ble_eq_true rfl) (Nat.le_of_ble_eq_true rfl) dX2_init_65 67 rfl (fun q18 => ?_)
  refine y_put (C := RX2) (T := TX2) (N := 14) (ci := 2) (ty := .array .int) (v := .ref q18) (fs' := [.ref q11, .ref q12, .ref q13, .ref q14, .ref q15, .ref q16, .ref q17, .ref q18, .int 0, .int 0, .int 0, .int 0, .int 0, .int 0]) hC hIn inIX2_init tyX2 tyX2_ok nmX2 rfl 7 (by decide) (uX2_init__o _ (List.mem_of_getElem? (l := owX2_init) (i := 11) rfl)) rfl (by decide +kernel) rfl rfl (Nat.le_of_ble_eq_true rfl) rfl dX2_init_67 70 rfl ?_
  refine y_aload_n hC dX2_init_70 0 rfl 71 rfl ?_
  obtain ⟨a, ha⟩ : ∃ a : Nat → Nat, a = fun k => cond (Nat.beq k 10) (h0) (cond (Nat.beq k 11) (q11) (cond (Nat.beq k 12) (q12) (cond (Nat.beq k 13) (q13) (cond (Nat.beq k 14) (q14) (cond (Nat.beq k 15) (q15) (cond (Nat.beq k 16) (q16) (cond (Nat.beq k 17) (q17) (cond (Nat.beq k 18) (q18) (0))))))))) := ⟨_, rfl⟩
  obtain ⟨M, hM⟩ : ∃ M : MM, M = fun k => cond (Nat.beq k 10) (fun j => 0) (cond (Nat.beq k 11) (fun _ => 0) (cond (Nat.beq k 12) (fun _ => 0) (cond (Nat.beq k 13) (fun _ => 0) (cond (Nat.beq k 14) (fun _ => 0) (cond (Nat.beq k 15) (fun _ => 0) (cond (Nat.beq k 16) (fun _ => 0) (cond (Nat.beq k 17) (fun _ => 0) (cond (Nat.beq k 18) (fun _ => 0) (fun _ => 0))))))))) := ⟨_, rfl⟩
  have ha0 : a 10 = h0 := by rw [ha]; rfl
  refine YY.to (ws' := Wp g a [10, 11, 12, 13, 14, 15, 16, 17, 18] M) (by subst ha; subst hM; rfl) ?_
  have ht : tpl (gp g a [10, 11, 12, 13, 14, 15, 16, 17, 18]) 10 := ⟨by unfold tpB; omega, by show ∀ i, i < 9 → 10 + i ∈ [10, 11, 12, 13, 14, 15, 16, 17, 18]; decide⟩
  rw [← ha0]
  refine y_callV (b := 10) (q := (RX2, TX2, 14)) (Q := tpP 10) hC (by decide) (ctX2_reset (zl z) (gp g a [10, 11, 12, 13, 14, 15, 16, 17, 18]) M 10 _ ht (s_reset0 (Or.inr (Or.inl rfl)) (fun M' hw => hw))) gX2_init_X2_reset rfl ⟨rfl, rfl⟩ hdI_X2_reset ⟨Nat.le_of_ble_eq_true rfl, Nat.le_of_ble_eq_true rfl⟩ ht.ob rfl ⟨Nat.le_of_ble_eq_true rfl, Nat.le_of_ble_eq_true rfl⟩ (Nat.le_of_ble_eq_true rfl) dX2_init_71 74 rfl (fun N71 hw => ?_)
  exact y_ret hR hC a N71 dX2_init_74 ha0 hw rfl rfl rfl
set_option maxHeartbeats 4000000 in
set_option maxRecDepth 100000 in
theorem ciX2_init_19 (l : Launch) (g : GG) : CI g l yX2_init wsX2_init ({ frames := 3, cells := 8, slots := 369, locals := 101 } : Room) (.inr (2, [.null, .null, .null, .null, .null, .null, .null, .null, .int 0, .int 0, .int 0, .int 0, .int 0, .int 0])) 19 [19, 20, 21, 22, 23, 24, 25, 26, 27] (tpP 19) 8 369 := by
  refine mk_CI (cc := cX2_init) (maxL := 1) (by decide) rfl rfl (by decide) ?_
  intro z Qf h0 sz A hC hIn hR
  refine y_aload_n hC dX2_init_0 0 rfl 1 rfl ?_
  refine y_oinit hC (uX2_init__o _ (List.mem_of_getElem? (l := owX2_init) (i := 1) rfl)) (uX2_init__o _ (List.mem_of_getElem? (l := owX2_init) (i := 2) rfl)) (uX2_init__o _ (List.mem_of_getElem? (l := owX2_init) (i := 3) rfl)) (Nat.le_of_ble_eq_true rfl) (Nat.le_of_ble_eq_true rfl) dX2_init_1 4 rfl ?_
  refine y_aload_n hC dX2_init_4 0 rfl 5 rfl ?_
  refine y_bipush (v := 9) hC dX2_init_5 (by decide) 7 rfl ?_
  refine y_newa (ty := .int) (cT := gI g) (N := 9) (a0 := (9, .inl (fun _ => 0))) hC 0 rfl rfl (Or.inl rfl) (uX2_init__o _ (List.mem_of_getElem? (l := owX2_init) (i := 4) rfl)) (fun _ => rfl) (by decide) (by decide) (Nat.le_of_ble_eq_true rfl) (Nat.le_of_ble_eq_true rfl) (Nat.le_of_ble_eq_true rfl) dX2_init_7 9 rfl (fun q20 => ?_)
  refine y_put (C := RX2) (T := TX2) (N := 14) (ci := 2) (ty := .array .int) (v := .ref q20) (fs' := [.ref q20, .null, .null, .null, .null, .null, .null, .null, .int 0, .int 0, .int 0, .int 0, .int 0, .int 0]) hC hIn inIX2_init tyX2 tyX2_ok nmX2 rfl 0 (by decide) (uX2_init__X2_reset _ (List.mem_of_getElem? (l := owX2_reset) (i := 1) rfl)) rfl (by decide +kernel) rfl rfl (Nat.le_of_ble_eq_true rfl) rfl dX2_init_9 12 rfl ?_
  refine y_aload_n hC dX2_init_12 0 rfl 13 rfl ?_
  refine y_bipush (v := 12) hC dX2_init_13 (by decide) 15 rfl ?_
  refine y_newa (ty := .int) (cT := gI g) (N := 12) (a0 := (12, .inl (fun _ => 0))) hC 0 rfl rfl (Or.inl rfl) (uX2_init__o _ (List.mem_of_getElem? (l := owX2_init) (i := 4) rfl)) (fun _ => rfl) (by decide) (by decide) (Nat.le_of_ble_eq_true rfl) (Nat.le_of_ble_eq_true rfl) (Nat.le_of_ble_eq_true rfl) dX2_init_15 17 rfl (fun q21 => ?_)
  refine y_put (C := RX2) (T := TX2) (N := 14) (ci := 2) (ty := .array .int) (v := .ref q21) (fs' := [.ref q20, .ref q21, .null, .null, .null, .null, .null, .null, .int 0, .int 0, .int 0, .int 0, .int 0, .int 0]) hC hIn inIX2_init tyX2 tyX2_ok nmX2 rfl 1 (by decide) (uX2_init__o _ (List.mem_of_getElem? (l := owX2_init) (i := 5) rfl)) rfl (by decide +kernel) rfl rfl (Nat.le_of_ble_eq_true rfl) rfl dX2_init_17 20 rfl ?_
  refine y_aload_n hC dX2_init_20 0 rfl 21 rfl ?_
  refine y_bipush (v := 12) hC dX2_init_21 (by decide) 23 rfl ?_
  refine y_newa (ty := .int) (cT := gI g) (N := 12) (a0 := (12, .inl (fun _ => 0))) hC 0 rfl rfl (Or.inl rfl) (uX2_init__o _ (List.mem_of_getElem? (l := owX2_init) (i := 4) rfl)) (fun _ => rfl) (by decide) (by decide) (Nat.le_of_ble_eq_true rfl) (Nat.le_of_ble_eq_true rfl) (Nat.le_of_ble_eq_true rfl) dX2_init_23 25 rfl (fun q22 => ?_)
  refine y_put (C := RX2) (T := TX2) (N := 14) (ci := 2) (ty := .array .int) (v := .ref q22) (fs' := [.ref q20, .ref q21, .ref q22, .null, .null, .null, .null, .null, .int 0, .int 0, .int 0, .int 0, .int 0, .int 0]) hC hIn inIX2_init tyX2 tyX2_ok nmX2 rfl 2 (by decide) (uX2_init__o _ (List.mem_of_getElem? (l := owX2_init) (i := 6) rfl)) rfl (by decide +kernel) rfl rfl (Nat.le_of_ble_eq_true rfl) rfl dX2_init_25 28 rfl ?_
  refine y_aload_n hC dX2_init_28 0 rfl 29 rfl ?_
  refine y_sipush (v := 156) hC dX2_init_29 (by decide) 32 rfl ?_
  refine y_newa (ty := .int) (cT := gI g) (N := 156) (a0 := (156, .inl (fun _ => 0))) hC 0 rfl rfl (Or.inl rfl) (uX2_init__o _ (List.mem_of_getElem? (l := owX2_init) (i := 4) rfl)) (fun _ => rfl) (by decide) (by decide) (Nat.le_of_ble_eq_true rfl) (Nat.le_of_ble_eq_true rfl) (Nat.le_of_ble_eq_true rfl) dX2_init_32 34 rfl (fun q23 => ?_)
  refine y_put (C := RX2) (T := TX2) (N := 14) (ci := 2) (ty := .array .int) (v := .ref q23) (fs' := [.ref q20, .ref q21, .ref q22, .ref q23, .null, .null, .null, .null, .int 0, .int 0, .int 0, .int 0, .int 0, .int 0]) hC hIn inIX2_init tyX2 tyX2_ok nmX2 rfl 3 (by decide) (uX2_init__o _ (List.mem_of_getElem? (l := owX2_init) (i := 7) rfl)) rfl (by decide +kernel) rfl rfl (Nat.le_of_ble_eq_true rfl) rfl dX2_init_34 37 rfl ?_
  refine y_aload_n hC dX2_init_37 0 rfl 38 rfl ?_
  refine y_sipush (v := 144) hC dX2_init_38 (by decide) 41 rfl ?_
  refine y_newa (ty := .int) (cT := gI g) (N := 144) (a0 := (144, .inl (fun _ => 0))) hC 0 rfl rfl (Or.inl rfl) (uX2_init__o _ (List.mem_of_getElem? (l := owX2_init) (i := 4) rfl)) (fun _ => rfl) (by decide) (by decide) (Nat.le_of_ble_eq_true rfl) (Nat.le_of_ble_eq_true rfl) (Nat.le_of_ble_eq_true rfl) dX2_init_41 43 rfl (fun q24 => ?_)
  refine y_put (C := RX2) (T := TX2) (N := 14) (ci := 2) (ty := .array .int) (v := .ref q24) (fs' := [.ref q20, .ref q21, .ref q22, .ref q23, .ref q24, .null, .null, .null, .int 0, .int 0, .int 0, .int 0, .int 0, .int 0]) hC hIn inIX2_init tyX2 tyX2_ok nmX2 rfl 4 (by decide) (uX2_init__o _ (List.mem_of_getElem? (l := owX2_init) (i := 8) rfl)) rfl (by decide +kernel) rfl rfl (Nat.le_of_ble_eq_true rfl) rfl dX2_init_43 46 rfl ?_
  refine y_aload_n hC dX2_init_46 0 rfl 47 rfl ?_
  refine y_bipush (v := 12) hC dX2_init_47 (by decide) 49 rfl ?_
  refine y_newa (ty := .int) (cT := gI g) (N := 12) (a0 := (12, .inl (fun _ => 0))) hC 0 rfl rfl (Or.inl rfl) (uX2_init__o _ (List.mem_of_getElem? (l := owX2_init) (i := 4) rfl)) (fun _ => rfl) (by decide) (by decide) (Nat.le_of_ble_eq_true rfl) (Nat.le_of_ble_eq_true rfl) (Nat.le_of_ble_eq_true rfl) dX2_init_49 51 rfl (fun q25 => ?_)
  refine y_put (C := RX2) (T := TX2) (N := 14) (ci := 2) (ty := .array .int) (v := .ref q25) (fs' := [.ref q20, .ref q21, .ref q22, .ref q23, .ref q24, .ref q25, .null, .null, .int 0, .int 0, .int 0, .int 0, .int 0, .int 0]) hC hIn inIX2_init tyX2 tyX2_ok nmX2 rfl 5 (by decide) (uX2_init__o _ (List.mem_of_getElem? (l := owX2_init) (i := 9) rfl)) rfl (by decide +kernel) rfl rfl (Nat.le_of_ble_eq_true rfl) rfl dX2_init_51 54 rfl ?_
  refine y_aload_n hC dX2_init_54 0 rfl 55 rfl ?_
  refine y_bipush (v := 12) hC dX2_init_55 (by decide) 57 rfl ?_
  refine y_newa (ty := .int) (cT := gI g) (N := 12) (a0 := (12, .inl (fun _ => 0))) hC 0 rfl rfl (Or.inl rfl) (uX2_init__o _ (List.mem_of_getElem? (l := owX2_init) (i := 4) rfl)) (fun _ => rfl) (by decide) (by decide) (Nat.le_of_ble_eq_true rfl) (Nat.le_of_ble_eq_true rfl) (Nat.le_of_ble_eq_true rfl) dX2_init_57 59 rfl (fun q26 => ?_)
  refine y_put (C := RX2) (T := TX2) (N := 14) (ci := 2) (ty := .array .int) (v := .ref q26) (fs' := [.ref q20, .ref q21, .ref q22, .ref q23, .ref q24, .ref q25, .ref q26, .null, .int 0, .int 0, .int 0, .int 0, .int 0, .int 0]) hC hIn inIX2_init tyX2 tyX2_ok nmX2 rfl 6 (by decide) (uX2_init__o _ (List.mem_of_getElem? (l := owX2_init) (i := 10) rfl)) rfl (by decide +kernel) rfl rfl (Nat.le_of_ble_eq_true rfl) rfl dX2_init_59 62 rfl ?_
  refine y_aload_n hC dX2_init_62 0 rfl 63 rfl ?_
  refine y_bipush (v := 12) hC dX2_init_63 (by decide) 65 rfl ?_
  refine y_newa (ty := .int) (cT := gI g) (N := 12) (a0 := (12, .inl (fun _ => 0))) hC 0 rfl rfl (Or.inl rfl) (uX2_init__o _ (List.mem_of_getElem? (l := owX2_init) (i := 4) rfl)) (fun _ => rfl) (by decide) (by decide) (Nat.le_of_ble_eq_true rfl) (Nat.le_of_ble_eq_true rfl) (Nat.le_of_ble_eq_true rfl) dX2_init_65 67 rfl (fun q27 => ?_)
  refine y_put (C := RX2) (T := TX2) (N := 14) (ci := 2) (ty := .array .int) (v := .ref q27) (fs' := [.ref q20, .ref q21, .ref q22, .ref q23, .ref q24, .ref q25, .ref q26, .ref q27, .int 0, .int 0, .int 0, .int 0, .int 0, .int 0]) hC hIn inIX2_init tyX2 tyX2_ok nmX2 rfl 7 (by decide) (uX2_init__o _ (List.mem_of_getElem? (l := owX2_init) (i := 11) rfl)) rfl (by decide +kernel) rfl rfl (Nat.le_of_ble_eq_true rfl) rfl dX2_init_67 70 rfl ?_
  refine y_aload_n hC dX2_init_70 0 rfl 71 rfl ?_
  obtain ⟨a, ha⟩ : ∃ a : Nat → Nat, a = fun k => cond (Nat.beq k 19) (h0) (cond (Nat.beq k 20) (q20) (cond (Nat.beq k 21) (q21) (cond (Nat.beq k 22) (q22) (cond (Nat.beq k 23) (q23) (cond (Nat.beq k 24) (q24) (cond (Nat.beq k 25) (q25) (cond (Nat.beq k 26) (q26) (cond (Nat.beq k 27) (q27) (0))))))))) := ⟨_, rfl⟩
  obtain ⟨M, hM⟩ : ∃ M : MM, M = fun k => cond (Nat.beq k 19) (fun j => 0) (cond (Nat.beq k 20) (fun _ => 0) (cond (Nat.beq k 21) (fun _ => 0) (cond (Nat.beq k 22) (fun _ => 0) (cond (Nat.beq k 23) (fun _ => 0) (cond (Nat.beq k 24) (fun _ => 0) (cond (Nat.beq k 25) (fun _ => 0) (cond (Nat.beq k 26) (fun _ => 0) (cond (Nat.beq k 27) (fun _ => 0) (fun _ => 0))))))))) := ⟨_, rfl⟩
  have ha0 : a 19 = h0 := by rw [ha]; rfl
  refine YY.to (ws' := Wp g a [19, 20, 21, 22, 23, 24, 25, 26, 27] M) (by subst ha; subst hM; rfl) ?_
  have ht : tpl (gp g a [19, 20, 21, 22, 23, 24, 25, 26, 27]) 19 := ⟨by unfold tpB; omega, by show ∀ i, i < 9 → 19 + i ∈ [19, 20, 21, 22, 23, 24, 25, 26, 27]; decide⟩
  rw [← ha0]
  refine y_callV (b := 19) (q := (RX2, TX2, 14)) (Q := tpP 19) hC (by decide) (ctX2_reset (zl z) (gp g a [19, 20, 21, 22, 23, 24, 25, 26, 27]) M 19 _ ht (s_reset0 (Or.inr (Or.inr (Or.inl rfl))) (fun M' hw => hw))) gX2_init_X2_reset rfl ⟨rfl, rfl⟩ hdI_X2_reset ⟨Nat.le_of_ble_eq_true rfl, Nat.le_of_ble_eq_true rfl⟩ ht.ob rfl ⟨Nat.le_of_ble_eq_true rfl, Nat.le_of_ble_eq_true rfl⟩ (Nat.le_of_ble_eq_true rfl) dX2_init_71 74 rfl (fun N71 hw => ?_)
  exact y_ret hR hC a N71 dX2_init_74 ha0 hw rfl rfl rfl
set_option maxHeartbeats 4000000 in
set_option maxRecDepth 100000 in
theorem ciX2_init_28 (l : Launch) (g : GG) : CI g l yX2_init wsX2_init ({ frames := 3, cells := 8, slots := 369, locals := 101 } : Room) (.inr (2, [.null, .null, .null, .null, .null, .null, .null, .null, .int 0, .int 0, .int 0, .int 0, .int 0, .int 0])) 28 [28, 29, 30, 31, 32, 33, 34, 35, 36] (tpP 28) 8 369 := by
  refine mk_CI (cc := cX2_init) (maxL := 1) (by decide) rfl rfl (by decide) ?_
  intro z Qf h0 sz A hC hIn hR
  refine y_aload_n hC dX2_init_0 0 rfl 1 rfl ?_
  refine y_oinit hC (uX2_init__o _ (List.mem_of_getElem? (l := owX2_init) (i := 1) rfl)) (uX2_init__o _ (List.mem_of_getElem? (l := owX2_init) (i := 2) rfl)) (uX2_init__o _ (List.mem_of_getElem? (l := owX2_init) (i := 3) rfl)) (Nat.le_of_ble_eq_true rfl) (Nat.le_of_ble_eq_true rfl) dX2_init_1 4 rfl ?_
  refine y_aload_n hC dX2_init_4 0 rfl 5 rfl ?_
  refine y_bipush (v := 9) hC dX2_init_5 (by decide) 7 rfl ?_
  refine y_newa (ty := .int) (cT := gI g) (N := 9) (a0 := (9, .inl (fun _ => 0))) hC 0 rfl rfl (Or.inl rfl) (uX2_init__o _ (List.mem_of_getElem? (l := owX2_init) (i := 4) rfl)) (fun _ => rfl) (by decide) (by decide) (Nat.le_of_ble_eq_true rfl) (Nat.le_of_ble_eq_true rfl) (Nat.le_of_ble_eq_true rfl) dX2_init_7 9 rfl (fun q29 => ?_)
  refine y_put (C := RX2) (T := TX2) (N := 14) (ci := 2) (ty := .array .int) (v := .ref q29) (fs' := [.ref q29, .null, .null, .null, .null, .null, .null, .null, .int 0, .int 0, .int 0, .int 0, .int 0, .int 0]) hC hIn inIX2_init tyX2 tyX2_ok nmX2 rfl 0 (by decide) (uX2_init__X2_reset _ (List.mem_of_getElem? (l := owX2_reset) (i := 1) rfl)) rfl (by decide +kernel) rfl rfl (Nat.le_of_ble_eq_true rfl) rfl dX2_init_9 12 rfl ?_
  refine y_aload_n hC dX2_init_12 0 rfl 13 rfl ?_
  refine y_bipush (v := 12) hC dX2_init_13 (by decide) 15 rfl ?_
  refine y_newa (ty := .int) (cT := gI g) (N := 12) (a0 := (12, .inl (fun _ => 0))) hC 0 rfl rfl (Or.inl rfl) (uX2_init__o _ (List.mem_of_getElem? (l := owX2_init) (i := 4) rfl)) (fun _ => rfl) (by decide) (by decide) (Nat.le_of_ble_eq_true rfl) (Nat.le_of_ble_eq_true rfl) (Nat.le_of_ble_eq_true rfl) dX2_init_15 17 rfl (fun q30 => ?_)
  refine y_put (C := RX2) (T := TX2) (N := 14) (ci := 2) (ty := .array .int) (v := .ref q30) (fs' := [.ref q29, .ref q30, .null, .null, .null, .null, .null, .null, .int 0, .int 0, .int 0, .int 0, .int 0, .int 0]) hC hIn inIX2_init tyX2 tyX2_ok nmX2 rfl 1 (by decide) (uX2_init__o _ (List.mem_of_getElem? (l := owX2_init) (i := 5) rfl)) rfl (by decide +kernel) rfl rfl (Nat.le_of_ble_eq_true rfl) rfl dX2_init_17 20 rfl ?_
  refine y_aload_n hC dX2_init_20 0 rfl 21 rfl ?_
  refine y_bipush (v := 12) hC dX2_init_21 (by decide) 23 rfl ?_
  refine y_newa (ty := .int) (cT := gI g) (N := 12) (a0 := (12, .inl (fun _ => 0))) hC 0 rfl rfl (Or.inl rfl) (uX2_init__o _ (List.mem_of_getElem? (l := owX2_init) (i := 4) rfl)) (fun _ => rfl) (by decide) (by decide) (Nat.le_of_ble_eq_true rfl) (Nat.le_of_ble_eq_true rfl) (Nat.le_of_ble_eq_true rfl) dX2_init_23 25 rfl (fun q31 => ?_)
  refine y_put (C := RX2) (T := TX2) (N := 14) (ci := 2) (ty := .array .int) (v := .ref q31) (fs' := [.ref q29, .ref q30, .ref q31, .null, .null, .null, .null, .null, .int 0, .int 0, .int 0, .int 0, .int 0, .int 0]) hC hIn inIX2_init tyX2 tyX2_ok nmX2 rfl 2 (by decide) (uX2_init__o _ (List.mem_of_getElem? (l := owX2_init) (i := 6) rfl)) rfl (by decide +kernel) rfl rfl (Nat.le_of_ble_eq_true rfl) rfl dX2_init_25 28 rfl ?_
  refine y_aload_n hC dX2_init_28 0 rfl 29 rfl ?_
  refine y_sipush (v := 156) hC dX2_init_29 (by decide) 32 rfl ?_
  refine y_newa (ty := .int) (cT := gI g) (N := 156) (a0 := (156, .inl (fun _ => 0))) hC 0 rfl rfl (Or.inl rfl) (uX2_init__o _ (List.mem_of_getElem? (l := owX2_init) (i := 4) rfl)) (fun _ => rfl) (by decide) (by decide) (Nat.le_of_ble_eq_true rfl) (Nat.le_of_ble_eq_true rfl) (Nat.le_of_ble_eq_true rfl) dX2_init_32 34 rfl (fun q32 => ?_)
  refine y_put (C := RX2) (T := TX2) (N := 14) (ci := 2) (ty := .array .int) (v := .ref q32) (fs' := [.ref q29, .ref q30, .ref q31, .ref q32, .null, .null, .null, .null, .int 0, .int 0, .int 0, .int 0, .int 0, .int 0]) hC hIn inIX2_init tyX2 tyX2_ok nmX2 rfl 3 (by decide) (uX2_init__o _ (List.mem_of_getElem? (l := owX2_init) (i := 7) rfl)) rfl (by decide +kernel) rfl rfl (Nat.le_of_ble_eq_true rfl) rfl dX2_init_34 37 rfl ?_
  refine y_aload_n hC dX2_init_37 0 rfl 38 rfl ?_
  refine y_sipush (v := 144) hC dX2_init_38 (by decide) 41 rfl ?_
  refine y_newa (ty := .int) (cT := gI g) (N := 144) (a0 := (144, .inl (fun _ => 0))) hC 0 rfl rfl (Or.inl rfl) (uX2_init__o _ (List.mem_of_getElem? (l := owX2_init) (i := 4) rfl)) (fun _ => rfl) (by decide) (by decide) (Nat.le_of_ble_eq_true rfl) (Nat.le_of_ble_eq_true rfl) (Nat.le_of_ble_eq_true rfl) dX2_init_41 43 rfl (fun q33 => ?_)
  refine y_put (C := RX2) (T := TX2) (N := 14) (ci := 2) (ty := .array .int) (v := .ref q33) (fs' := [.ref q29, .ref q30, .ref q31, .ref q32, .ref q33, .null, .null, .null, .int 0, .int 0, .int 0, .int 0, .int 0, .int 0]) hC hIn inIX2_init tyX2 tyX2_ok nmX2 rfl 4 (by decide) (uX2_init__o _ (List.mem_of_getElem? (l := owX2_init) (i := 8) rfl)) rfl (by decide +kernel) rfl rfl (Nat.le_of_ble_eq_true rfl) rfl dX2_init_43 46 rfl ?_
  refine y_aload_n hC dX2_init_46 0 rfl 47 rfl ?_
  refine y_bipush (v := 12) hC dX2_init_47 (by decide) 49 rfl ?_
  refine y_newa (ty := .int) (cT := gI g) (N := 12) (a0 := (12, .inl (fun _ => 0))) hC 0 rfl rfl (Or.inl rfl) (uX2_init__o _ (List.mem_of_getElem? (l := owX2_init) (i := 4) rfl)) (fun _ => rfl) (by decide) (by decide) (Nat.le_of_ble_eq_true rfl) (Nat.le_of_ble_eq_true rfl) (Nat.le_of_ble_eq_true rfl) dX2_init_49 51 rfl (fun q34 => ?_)
  refine y_put (C := RX2) (T := TX2) (N := 14) (ci := 2) (ty := .array .int) (v := .ref q34) (fs' := [.ref q29, .ref q30, .ref q31, .ref q32, .ref q33, .ref q34, .null, .null, .int 0, .int 0, .int 0, .int 0, .int 0, .int 0]) hC hIn inIX2_init tyX2 tyX2_ok nmX2 rfl 5 (by decide) (uX2_init__o _ (List.mem_of_getElem? (l := owX2_init) (i := 9) rfl)) rfl (by decide +kernel) rfl rfl (Nat.le_of_ble_eq_true rfl) rfl dX2_init_51 54 rfl ?_
  refine y_aload_n hC dX2_init_54 0 rfl 55 rfl ?_
  refine y_bipush (v := 12) hC dX2_init_55 (by decide) 57 rfl ?_
  refine y_newa (ty := .int) (cT := gI g) (N := 12) (a0 := (12, .inl (fun _ => 0))) hC 0 rfl rfl (Or.inl rfl) (uX2_init__o _ (List.mem_of_getElem? (l := owX2_init) (i := 4) rfl)) (fun _ => rfl) (by decide) (by decide) (Nat.le_of_ble_eq_true rfl) (Nat.le_of_ble_eq_true rfl) (Nat.le_of_ble_eq_true rfl) dX2_init_57 59 rfl (fun q35 => ?_)
  refine y_put (C := RX2) (T := TX2) (N := 14) (ci := 2) (ty := .array .int) (v := .ref q35) (fs' := [.ref q29, .ref q30, .ref q31, .ref q32, .ref q33, .ref q34, .ref q35, .null, .int 0, .int 0, .int 0, .int 0, .int 0, .int 0]) hC hIn inIX2_init tyX2 tyX2_ok nmX2 rfl 6 (by decide) (uX2_init__o _ (List.mem_of_getElem? (l := owX2_init) (i := 10) rfl)) rfl (by decide +kernel) rfl rfl (Nat.le_of_ble_eq_true rfl) rfl dX2_init_59 62 rfl ?_
  refine y_aload_n hC dX2_init_62 0 rfl 63 rfl ?_
  refine y_bipush (v := 12) hC dX2_init_63 (by decide) 65 rfl ?_
  refine y_newa (ty := .int) (cT := gI g) (N := 12) (a0 := (12, .inl (fun _ => 0))) hC 0 rfl rfl (Or.inl rfl) (uX2_init__o _ (List.mem_of_getElem? (l := owX2_init) (i := 4) rfl)) (fun _ => rfl) (by decide) (by decide) (Nat.le_of_ble_eq_true rfl) (Nat.le_of_ble_eq_true rfl) (Nat.le_of_ble_eq_true rfl) dX2_init_65 67 rfl (fun q36 => ?_)
  refine y_put (C := RX2) (T := TX2) (N := 14) (ci := 2) (ty := .array .int) (v := .ref q36) (fs' := [.ref q29, .ref q30, .ref q31, .ref q32, .ref q33, .ref q34, .ref q35, .ref q36, .int 0, .int 0, .int 0, .int 0, .int 0, .int 0]) hC hIn inIX2_init tyX2 tyX2_ok nmX2 rfl 7 (by decide) (uX2_init__o _ (List.mem_of_getElem? (l := owX2_init) (i := 11) rfl)) rfl (by decide +kernel) rfl rfl (Nat.le_of_ble_eq_true rfl) rfl dX2_init_67 70 rfl ?_
  refine y_aload_n hC dX2_init_70 0 rfl 71 rfl ?_
  obtain ⟨a, ha⟩ : ∃ a : Nat → Nat, a = fun k => cond (Nat.beq k 28) (h0) (cond (Nat.beq k 29) (q29) (cond (Nat.beq k 30) (q30) (cond (Nat.beq k 31) (q31) (cond (Nat.beq k 32) (q32) (cond (Nat.beq k 33) (q33) (cond (Nat.beq k 34) (q34) (cond (Nat.beq k 35) (q35) (cond (Nat.beq k 36) (q36) (0))))))))) := ⟨_, rfl⟩
  obtain ⟨M, hM⟩ : ∃ M : MM, M = fun k => cond (Nat.beq k 28) (fun j => 0) (cond (Nat.beq k 29) (fun _ => 0) (cond (Nat.beq k 30) (fun _ => 0) (cond (Nat.beq k 31) (fun _ => 0) (cond (Nat.beq k 32) (fun _ => 0) (cond (Nat.beq k 33) (fun _ => 0) (cond (Nat.beq k 34) (fun _ => 0) (cond (Nat.beq k 35) (fun _ => 0) (cond (Nat.beq k 36) (fun _ => 0) (fun _ => 0))))))))) := ⟨_, rfl⟩
  have ha0 : a 28 = h0 := by rw [ha]; rfl
  refine YY.to (ws' := Wp g a [28, 29, 30, 31, 32, 33, 34, 35, 36] M) (by subst ha; subst hM; rfl) ?_
  have ht : tpl (gp g a [28, 29, 30, 31, 32, 33, 34, 35, 36]) 28 := ⟨by unfold tpB; omega, by show ∀ i, i < 9 → 28 + i ∈ [28, 29, 30, 31, 32, 33, 34, 35, 36]; decide⟩
  rw [← ha0]
  refine y_callV (b := 28) (q := (RX2, TX2, 14)) (Q := tpP 28) hC (by decide) (ctX2_reset (zl z) (gp g a [28, 29, 30, 31, 32, 33, 34, 35, 36]) M 28 _ ht (s_reset0 (Or.inr (Or.inr (Or.inr rfl))) (fun M' hw => hw))) gX2_init_X2_reset rfl ⟨rfl, rfl⟩ hdI_X2_reset ⟨Nat.le_of_ble_eq_true rfl, Nat.le_of_ble_eq_true rfl⟩ ht.ob rfl ⟨Nat.le_of_ble_eq_true rfl, Nat.le_of_ble_eq_true rfl⟩ (Nat.le_of_ble_eq_true rfl) dX2_init_71 74 rfl (fun N71 hw => ?_)
  exact y_ret hR hC a N71 dX2_init_74 ha0 hw rfl rfl rfl
