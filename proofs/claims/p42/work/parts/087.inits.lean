theorem inIX2_init : ∀ w ∈ u_ws RX2 TX2 14, w ∈ wsX2_init := uX2_init__wsX20
theorem hdI_X2_reset : yX2_reset.cls = RX2 ∧ yX2_reset.cls ≠ "java/lang/invoke/MethodHandle" ∧ yX2_reset.cls ≠ "java/lang/invoke/VarHandle" ∧ (parseMethodDescriptor yX2_reset.desc).map (fun d => d.parameters.length) = some 0 := by decide +kernel
set_option maxHeartbeats 4000000 in
set_option maxRecDepth 100000 in
theorem ciX2_init_1 (l : Launch) (g : GG) : CI g l yX2_init wsX2_init ({ frames := 3, cells := 8, slots := 369, locals := 101 } : Room) (.inr (2, [.null, .null, .null, .null, .null, .null, .null, .null, .int 0, .int 0, .int 0, .int 0, .int 0, .int 0])) 1 [1, 2, 3, 4, 5, 6, 7, 8, 9] (tpP 1) 8 369 := by
  refine mk_CI (cc := cX2_init) (maxL := 1) (by decide) rfl rfl (by decide) ?_
  intro z Qf h0 sz A hC hIn hR
  refine y_aload_n hC dX2_init_0 0 rfl 1 rfl ?_
  refine y_oinit hC (uX2_init__o _ (List.mem_of_getElem? (l := owX2_init) (i := 1) rfl)) (uX2_init__o _ (List.mem_of_getElem? (l := owX2_init) (i := 2) rfl)) (uX2_init__o _ (List.mem_of_getElem? (l := owX2_init) (i := 3) rfl)) (Nat.le_of_ble_eq_true rfl) (Nat.le_of_ble_eq_true rfl) dX2_init_1 4 rfl ?_
  refine y_aload_n hC dX2_init_4 0 rfl 5 rfl ?_
  refine y_bipush (v := 9) hC dX2_init_5 (by decide) 7 rfl ?_
  refine y_newa (ty := .int) (cT := gI g) (N := 9) (a0 := (9, .inl (fun _ => 0))) hC 0 rfl rfl (Or.inl rfl) (uX2_init__o _ (List.mem_of_getElem? (l := owX2_init) (i := 4) rfl)) (fun _ => rfl) (by decide) (by decide) (Nat.le_of_ble_eq_true rfl) (Nat.le_of_ble_eq_true rfl) (Nat.le_of_ble_eq_true rfl) dX2_init_7 9 rfl (fun q2 => ?_)
  refine y_put (C := RX2) (T := TX2) (N := 14) (ci := 2) (ty := .array .int) (v := .ref q2) (fs' := [.ref q2, .null, .null, .null, .null, .null, .null, .null, .int 0, .int 0, .int 0, .int 0, .int 0, .int 0]) hC hIn inIX2_init tyX2 tyX2_ok nmX2 rfl 0 (by decide) (uX2_init__X2_reset _ (List.mem_of_getElem? (l := owX2_reset) (i := 1) rfl)) rfl (by decide +kernel) rfl rfl (Nat.le_of_ble_eq_true rfl) rfl dX2_init_9 12 rfl ?_
  refine y_aload_n hC dX2_init_12 0 rfl 13 rfl ?_
  refine y_bipush (v := 12) hC dX2_init_13 (by decide) 15 rfl ?_
  refine y_newa (ty := .int) (cT := gI g) (N := 12) (a0 := (12, .inl (fun _ => 0))) hC 0 rfl rfl (Or.inl rfl) (uX2_init__o _ (List.mem_of_getElem? (l := owX2_init) (i := 4) rfl)) (fun _ => rfl) (by decide) (by decide) (Nat.le_of_ble_eq_true rfl) (Nat.le_of_ble_eq_true rfl) (Nat.le_of_ble_eq_true rfl) dX2_init_15 17 rfl (fun q3 => ?_)
  refine y_put (C := RX2) (T := TX2) (N := 14) (ci := 2) (ty := .array .int) (v := .ref q3) (fs' := [.ref q2, .ref q3, .null, .null, .null, .null, .null, .null, .int 0, .int 0, .int 0, .int 0, .int 0, .int 0]) hC hIn inIX2_init tyX2 tyX2_ok nmX2 rfl 1 (by decide) (uX2_init__o _ (List.mem_of_getElem? (l := owX2_init) (i := 5) rfl)) rfl (by decide +kernel) rfl rfl (Nat.le_of_ble_eq_true rfl) rfl dX2_init_17 20 rfl ?_
  refine y_aload_n hC dX2_init_20 0 rfl 21 rfl ?_
  refine y_bipush (v := 12) hC dX2_init_21 (by decide) 23 rfl ?_
  refine y_newa (ty := .int) (cT := gI g) (N := 12) (a0 := (12, .inl (fun _ => 0))) hC 0 rfl rfl (Or.inl rfl) (uX2_init__o _ (List.mem_of_getElem? (l := owX2_init) (i := 4) rfl)) (fun _ => rfl) (by decide) (by decide) (Nat.le_of_ble_eq_true rfl) (Nat.le_of_ble_eq_true rfl) (Nat.le_of_ble_eq_true rfl) dX2_init_23 25 rfl (fun q4 => ?_)
  refine y_put (C := RX2) (T := TX2) (N := 14) (ci := 2) (ty := .array .int) (v := .ref q4) (fs' := [.ref q2, .ref q3, .ref q4, .null, .null, .null, .null, .null, .int 0, .int 0, .int 0, .int 0, .int 0, .int 0]) hC hIn inIX2_init tyX2 tyX2_ok nmX2 rfl 2 (by decide) (uX2_init__o _ (List.mem_of_getElem? (l := owX2_init) (i := 6) rfl)) rfl (by decide +kernel) rfl rfl (Nat.le_of_ble_eq_true rfl) rfl dX2_init_25 28 rfl ?_
  refine y_aload_n hC dX2_init_28 0 rfl 29 rfl ?_
  refine y_sipush (v := 156) hC dX2_init_29 (by decide) 32 rfl ?_
  refine y_newa (ty := .int) (cT := gI g) (N := 156) (a0 := (156, .inl (fun _ => 0))) hC 0 rfl rfl (Or.inl rfl) (uX2_init__o _ (List.mem_of_getElem? (l := owX2_init) (i := 4) rfl)) (fun _ => rfl) (by decide) (by decide) (Nat.le_of_ble_eq_true rfl) (Nat.le_of_ble_eq_true rfl) (Nat.le_of_ble_eq_true rfl) dX2_init_32 34 rfl (fun q5 => ?_)
  refine y_put (C := RX2) (T := TX2) (N := 14) (ci := 2) (ty := .array .int) (v := .ref q5) (fs' := [.ref q2, .ref q3, .ref q4, .ref q5, .null, .null, .null, .null, .int 0, .int 0, .int 0, .int 0, .int 0, .int 0]) hC hIn inIX2_init tyX2 tyX2_ok nmX2 rfl 3 (by decide) (uX2_init__o _ (List.mem_of_getElem? (l := owX2_init) (i := 7) rfl)) rfl (by decide +kernel) rfl rfl (Nat.le_of_ble_eq_true rfl) rfl dX2_init_34 37 rfl ?_
  refine y_aload_n hC dX2_init_37 0 rfl 38 rfl ?_
  refine y_sipush (v := 144) hC dX2_init_38 (by decide) 41 rfl ?_
  refine y_newa (ty := .int) (cT := gI g) (N := 144) (a0 := (144, .inl (fun _ => 0))) hC 0 rfl rfl (Or.inl rfl) (uX2_init__o _ (List.mem_of_getElem? (l := owX2_init) (i := 4) rfl)) (fun _ => rfl) (by decide) (by decide) (Nat.le_of_ble_eq_true rfl) (Nat.le_of_ble_eq_true rfl) (Nat.le_of_ble_eq_true rfl) dX2_init_41 43 rfl (fun q6 => ?_)
  refine y_put (C := RX2) (T := TX2) (N := 14) (ci := 2) (ty := .array .int) (v := .ref q6) (fs' := [.ref q2, .ref q3, .ref q4, .ref q5, .ref q6, .null, .null, .null, .int 0, .int 0, .int 0, .int 0, .int 0, .int 0]) hC hIn inIX2_init tyX2 tyX2_ok nmX2 rfl 4 (by decide) (uX2_init__o _ (List.mem_of_getElem? (l := owX2_init) (i := 8) rfl)) rfl (by decide +kernel) rfl rfl (Nat.le_of_ble_eq_true rfl) rfl dX2_init_43 46 rfl ?_
  refine y_aload_n hC dX2_init_46 0 rfl 47 rfl ?_
  refine y_bipush (v := 12) hC dX2_init_47 (by decide) 49 rfl ?_
  refine y_newa (ty := .int) (cT := gI g) (N := 12) (a0 := (12, .inl (fun _ => 0))) hC 0 rfl rfl (Or.inl rfl) (uX2_init__o _ (List.mem_of_getElem? (l := owX2_init) (i := 4) rfl)) (fun _ => rfl) (by decide) (by decide) (Nat.le_of_ble_eq_true rfl) (Nat.le_of_ble_eq_true rfl) (Nat.le_of_ble_eq_true rfl) dX2_init_49 51 rfl (fun q7 => ?_)
  refine y_put (C := RX2) (T := TX2) (N := 14) (ci := 2) (ty := .array .int) (v := .ref q7) (fs' := [.ref q2, .ref q3, .ref q4, .ref q5, .ref q6, .ref q7, .null, .null, .int 0, .int 0, .int 0, .int 0, .int 0, .int 0]) hC hIn inIX2_init tyX2 tyX2_ok nmX2 rfl 5 (by decide) (uX2_init__o _ (List.mem_of_getElem? (l := owX2_init) (i := 9) rfl)) rfl (by decide +kernel) rfl rfl (Nat.le_of_ble_eq_true rfl) rfl dX2_init_51 54 rfl ?_
  refine y_aload_n hC dX2_init_54 0 rfl 55 rfl ?_
  refine y_bipush (v := 12) hC dX2_init_55 (by decide) 57 rfl ?_
  refine y_newa (ty := .int) (cT := gI g) (N := 12) (a0 := (12, .inl (fun _ => 0))) hC 0 rfl rfl (Or.inl rfl) (uX2_init__o _ (List.mem_of_getElem? (l := owX2_init) (i := 4) rfl)) (fun _ => rfl) (by decide) (by decide) (Nat.le_of_ble_eq_true rfl) (Nat.le_of_ble_eq_true rfl) (Nat.le_of_ble_eq_true rfl) dX2_init_57 59 rfl (fun q8 => ?_)
  refine y_put (C := RX2) (T := TX2) (N := 14) (ci := 2) (ty := .array .int) (v := .ref q8) (fs' := [.ref q2, .ref q3, .ref q4, .ref q5, .ref q6, .ref q7, .ref q8, .null, .int 0, .int 0, .int 0, .int 0, .int 0, .int 0]) hC hIn inIX2_init tyX2 tyX2_ok nmX2 rfl 6 (by decide) (uX2_init__o _ (List.mem_of_getElem? (l := owX2_init) (i := 10) rfl)) rfl (by decide +kernel) rfl rfl (Nat.le_of_ble_eq_true rfl) rfl dX2_init_59 62 rfl ?_
  refine y_aload_n hC dX2_init_62 0 rfl 63 rfl ?_
  refine y_bipush (v := 12) hC dX2_init_63 (by decide) 65 rfl ?_
  refine y_newa (ty := .int) (cT := gI g) (N := 12) (a0 := (12, .inl (fun _ => 0))) hC 0 rfl rfl (Or.inl rfl) (uX2_init__o _ (List.mem_of_getElem? (l := owX2_init) (i := 4) rfl)) (fun _ => rfl) (by decide) (by decide) (Nat.le_of_ble_eq_true rfl) (Nat.le_of_ble_eq_true rfl) (Nat.le_of_ble_eq_true rfl) dX2_init_65 67 rfl (fun q9 => ?_)
  refine y_put (C := RX2) (T := TX2) (N := 14) (ci := 2) (ty := .array .int) (v := .ref q9) (fs' := [.ref q2, .ref q3, .ref q4, .ref q5, .ref q6, .ref q7, .ref q8, .ref q9, .int 0, .int 0, .int 0, .int 0, .int 0, .int 0]) hC hIn inIX2_init tyX2 tyX2_ok nmX2 rfl 7 (by decide) (uX2_init__o _ (List.mem_of_getElem? (l := owX2_init) (i := 11) rfl)) rfl (by decide +kernel) rfl rfl (Nat.le_of_ble_eq_true rfl) rfl dX2_init_67 70 rfl ?_
  refine y_aload_n hC dX2_init_70 0 rfl 71 rfl ?_
  obtain ⟨a, ha⟩ : ∃ a : Nat → Nat, a = fun k => cond (Nat.beq k 1) (h0) (cond (Nat.beq k 2) (q2) (cond (Nat.beq k 3) (q3) (cond (Nat.beq k 4) (q4) (cond (Nat.beq k 5) (q5) (cond (Nat.beq k 6) (q6) (cond (Nat.beq k 7) (q7) (cond (Nat.beq k 8) (q8) (cond (Nat.beq k 9) (q9) (0))))))))) := ⟨_, rfl⟩
  obtain ⟨M, hM⟩ : ∃ M : MM, M = fun k => cond (Nat.beq k 1) (fun j => 0) (cond (Nat.beq k 2) (fun _ => 0) (cond (Nat.beq k 3) (fun _ => 0) (cond (Nat.beq k 4) (fun _ => 0) (cond (Nat.beq k 5) (fun _ => 0) (cond (Nat.beq k 6) (fun _ => 0) (cond (Nat.beq k 7) (fun _ => 0) (cond (Nat.beq k 8) (fun _ => 0) (cond (Nat.beq k 9) (fun _ => 0) (fun _ => 0))))))))) := ⟨_, rfl⟩
  have ha0 : a 1 = h0 := by rw [ha]; rfl
  refine YY.to (ws' := Wp g a [1, 2, 3, 4, 5, 6, 7, 8, 9] M) (by subst ha; subst hM; rfl) ?_
  have ht : tpl (gp g a [1, 2, 3, 4, 5, 6, 7, 8, 9]) 1 := ⟨by unfold tpB; omega, by show ∀ i, i < 9 → 1 + i ∈ [1, 2, 3, 4, 5, 6, 7, 8, 9]; decide⟩
  rw [← ha0]
  refine y_callV (b := 1) (q := (RX2, TX2, 14)) (Q := tpP 1) hC (by decide) (ctX2_reset (zl z) (gp g a [1, 2, 3, 4, 5, 6, 7, 8, 9]) M 1 _ ht (s_reset0 (Or.inl rfl) (fun M' hw => hw))) gX2_init_X2_reset rfl ⟨rfl, rfl⟩ hdI_X2_reset ⟨Nat.le_of_ble_eq_true rfl, Nat.le_of_ble_eq_true rfl⟩ ht.ob rfl ⟨Nat.le_of_ble_eq_true rfl, Nat.le_of_ble_eq_true rfl⟩ (Nat.le_of_ble_eq_true rfl) dX2_init_71 74 rfl (fun N71 hw => ?_)
  exact y_ret hR hC a N71 dX2_init_74 ha0 hw rfl rfl rfl
set_option maxHeartbeats 4000000 in
set_option maxRecDepth 100000 in
theorem ciX2_init_10 (l : Launch) (g : GG) : CI g l yX2_init wsX2_init ({ frames := 3, cells := 8, slots := 369, locals := 101 } : Room) (.inr (2, [.null, .null, .null, .null, .null, .null, .null, .null, .int 0, .int 0, .int 0, .int 0, .int 0, .int 0])) 10 [10, 11, 12, 13, 14, 15, 16, 17, 18] (tpP 10) 8 369 := by
  refine mk_CI (cc := cX2_init) (maxL := 1) (by decide) rfl rfl (by decide) ?_
  intro z Qf h0 sz A hC hIn hR
  refine y_aload_n hC dX2_init_0 0 rfl 1 rfl ?_
  refine y_oinit hC (uX2_init__o _ (List.mem_of_getElem? (l := owX2_init) (i := 1) rfl)) (uX2_init__o _ (List.mem_of_getElem? (l := owX2_init) (i := 2) rfl)) (uX2_init__o _ (List.mem_of_getElem? (l := owX2_init) (i := 3) rfl)) (Nat.le_of_ble_eq_true rfl) (Nat.le_of_ble_eq_true rfl) dX2_init_1 4 rfl ?_
  refine y_aload_n hC dX2_init_4 0 rfl 5 rfl ?_
  refine y_bipush (v := 9) hC dX2_init_5 (by decide) 7 rfl ?_
  refine y_newa (ty := .int) (cT := gI g) (N := 9) (a0 := (9, .inl (fun _ => 0))) hC 0 rfl rfl (Or.inl rfl) (uX2_init__o _ (List.mem_of_getElem? (l := owX2_init) (i := 4) rfl)) (fun _ => rfl) (by decide) (by decide) (Nat.le_of_ble_eq_true rfl) (Nat.le_of_ble_eq_true rfl) (Nat.le_of_ble_eq_true rfl) dX2_init_7 9 rfl (fun q11 => ?_)
  refine y_put (C := RX2) (T := TX2) (N := 14) (ci := 2) (ty := .array .int) (v := .ref q11) (fs' := [.ref q11, .null, .null, .null, .null, .null, .null, .null, .int 0, .int 0, .int 0, .int 0, .int 0, .int 0]) hC hIn inIX2_init tyX2 tyX2_ok nmX2 rfl 0 (by decide) (uX2_init__X2_reset _ (List.mem_of_getElem? (l := owX2_reset) (i := 1) rfl)) rfl (by decide +kernel) rfl rfl (Nat.le_of_ble_eq_true rfl) rfl dX2_init_9 12 rfl ?_
  refine y_aload_n hC dX2_init_12 0 rfl 13 rfl ?_
  refine y_bipush (v := 12) hC dX2_init_13 (by decide) 15 rfl ?_
  refine y_newa (ty := .int) (cT := gI g) (N := 12) (a0 := (12, .inl (fun _ => 0))) hC 0 rfl rfl (Or.inl rfl) (uX2_init__o _ (List.mem_of_getElem? (l := owX2_init) (i := 4) rfl)) (fun _ => rfl) (by decide) (by decide) (Nat.le_of_ble_eq_true rfl) (Nat.le_of_ble_eq_true rfl) (Nat.le_of_ble_eq_true rfl) dX2_init_15 17 rfl (fun q12 => ?_)
  refine y_put (C := RX2) (T := TX2) (N := 14) (ci := 2) (ty := .array .int) (v := .ref q12) (fs' := [.ref q11, .ref q12, .null, .null, .null, .null, .null, .null, .int 0, .int 0, .int 0, .int 0, .int 0, .int 0]) hC hIn inIX2_init tyX2 tyX2_ok nmX2 rfl 1 (by decide) (uX2_init__o _ (List.mem_of_getElem? (l := owX2_init) (i := 5) rfl)) rfl (by decide +kernel) rfl rfl (Nat.le_of_ble_eq_true rfl) rfl dX2_init_17 20 rfl ?_
  refine y_aload_n hC dX2_init_20 0 rfl 21 rfl ?_
  refine y_bipush (v := 12) hC dX2_init_21 (by decide) 23 rfl ?_
  refine y_newa (ty := .int) (cT := gI g) (N := 12) (a0 := (12, .inl (fun _ => 0))) hC 0 rfl rfl (Or.inl rfl) (uX2_init__o _ (List.mem_of_getElem? (l := owX2_init) (i := 4) rfl)) (fun _ => rfl) (by decide) (by decide) (Nat.le_of_ble_eq_true rfl) (Nat.le_of_ble_eq_true rfl) (Nat.le_of_ble_eq_true rfl) dX2_init_23 25 rfl (fun q13 => ?_)
  refine y_put (C := RX2) (T := TX2) (N := 14) (ci := 2) (ty := .array .int) (v := .ref q13) (fs' := [.ref q11, .ref q12, .ref q13, .null, .null, .null, .null, .null, .int 0, .int 0, .int 0, .int 0, .int 0, .int 0]) hC hIn inIX2_init tyX2 tyX2_ok nmX2 rfl 2 (by decide) (uX2_init__o _ (List.mem_of_getElem? (l := owX2_init) (i := 6) rfl)) rfl (by decide +kernel) rfl rfl (Nat.le_of_ble_eq_true rfl) rfl dX2_init_25 28 rfl ?_
  refine y_aload_n hC dX2_init_28 0 rfl 29 rfl ?_
  refine y_sipush (v := 156) hC dX2_init_29 (by decide) 32 rfl ?_
  refine y_newa (ty := .int) (cT := gI g) (N := 156) (a0 := (156, .inl (fun _ => 0))) hC 0 rfl rfl (Or.inl rfl) (uX2_init__o _ (List.mem_of_getElem? (l := owX2_init) (i := 4) rfl)) (fun _ => rfl) (by decide) (by decide) (Nat.le_of_ble_eq_true rfl) (Nat.le_of_ble_eq_true rfl) (Nat.le_of_ble_eq_true rfl) dX2_init_32 34 rfl (fun q14 => ?_)
  refine y_put (C := RX2) (T := TX2) (N := 14) (ci := 2) (ty := .array .int) (v := .ref q14) (fs' := [.ref q11, .ref q12, .ref q13, .ref q14, .null, .null, .null, .null, .int 0, .int 0, .int 0, .int 0, .int 0, .int 0]) hC hIn inIX2_init tyX2 tyX2_ok nmX2 rfl 3 (by decide) (uX2_init__o _ (List.mem_of_getElem? (l := owX2_init) (i := 7) rfl)) rfl (by decide +kernel) rfl rfl (Nat.le_of_ble_eq_true rfl) rfl dX2_init_34 37 rfl ?_
  refine y_aload_n hC dX2_init_37 0 rfl 38 rfl ?_
  refine y_sipush (v := 144) hC dX2_init_38 (by decide) 41 rfl ?_
  refine y_newa (ty := .int) (cT := gI g) (N := 144) (a0 := (144, .inl (fun _ => 0))) hC 0 rfl rfl (Or.inl rfl) (uX2_init__o _ (List.mem_of_getElem? (l := owX2_init) (i := 4) rfl)) (fun _ => rfl) (by decide) (by decide) (Nat.le_of_ble_eq_true rfl) (Nat.le_of_ble_eq_true rfl) (Nat.le_of_ble_eq_true rfl) dX2_init_41 43 rfl (fun q15 => ?_)
  refine y_put (C := RX2) (T := TX2) (N := 14) (ci := 2) (ty := .array .int) (v := .ref q15) (fs' := [.ref q11, .ref q12, .ref q13, .ref q14, .ref q15, .null, .null, .null, .int 0, .int 0, .int 0, .int 0, .int 0, .int 0]) hC hIn inIX2_init tyX2 tyX2_ok nmX2 rfl 4 (by decide) (uX2_init__o _ (List.mem_of_getElem? (l := owX2_init) (i := 8) rfl)) rfl (by decide +kernel) rfl rfl (Nat.le_of_ble_eq_true rfl) rfl dX2_init_43 46 rfl ?_
  refine y_aload_n hC dX2_init_46 0 rfl 47 rfl ?_
  refine y_bipush (v := 12) hC dX2_init_47 (by decide) 49 rfl ?_
  refine y_newa (ty := .int) (cT := gI g) (N := 12) (a0 := (12, .inl (fun _ => 0))) hC 0 rfl rfl (Or.inl rfl) (uX2_init__o _ (List.mem_of_getElem? (l := owX2_init) (i := 4) rfl)) (fun _ => rfl) (by decide) (by decide) (Nat.le_of_ble_eq_true rfl) (Nat.le_of_ble_eq_true rfl) (Nat.le_of_ble_eq_true rfl) dX2_init_49 51 rfl (fun q16 => ?_)
  refine y_put (C := RX2) (T := TX2) (N := 14) (ci := 2) (ty := .array .int) (v := .ref q16) (fs' := [.ref q11, .ref q12, .ref q13, .ref q14, .ref q15, .ref q16, .null, .null, .int 0, .int 0, .int 0, .int 0, .int 0, .int 0]) hC hIn inIX2_init tyX2 tyX2_ok nmX2 rfl 5 (by decide) (uX2_init__o _ (List.mem_of_getElem? (l := owX2_init) (i := 9) rfl)) rfl (by decide +kernel) rfl rfl (Nat.le_of_ble_eq_true rfl) rfl dX2_init_51 54 rfl ?_
  refine y_aload_n hC dX2_init_54 0 rfl 55 rfl ?_
  refine y_bipush (v := 12) hC dX2_init_55 (by decide) 57 rfl ?_
  refine y_newa (ty := .int) (cT := gI g) (N := 12) (a0 := (12, .inl (fun _ => 0))) hC 0 rfl rfl (Or.inl rfl) (uX2_init__o _ (List.mem_of_getElem? (l := owX2_init) (i := 4) rfl)) (fun _ => rfl) (by decide) (by decide) (Nat.le_of_ble_eq_true rfl) (Nat.le_of_ble_eq_true rfl) (Nat.le_of_ble_eq_true rfl) dX2_init_57 59 rfl (fun q17 => ?_)
  refine y_put (C := RX2) (T := TX2) (N := 14) (ci := 2) (ty := .array .int) (v := .ref q17) (fs' := [.ref q11, .ref q12, .ref q13, .ref q14, .ref q15, .ref q16, .ref q17, .null, .int 0, .int 0, .int 0, .int 0, .int 0, .int 0]) hC hIn inIX2_init tyX2 tyX2_ok nmX2 rfl 6 (by decide) (uX2_init__o _ (List.mem_of_getElem? (l := owX2_init) (i := 10) rfl)) rfl (by decide +kernel) rfl rfl (Nat.le_of_ble_eq_true rfl) rfl dX2_init_59 62 rfl ?_
  refine y_aload_n hC dX2_init_62 0 rfl 63 rfl ?_
  refine y_bipush (v := 12) hC dX2_init_63 (by decide) 65 rfl ?_
  refine y_newa (ty := .int) (cT := gI g) (N := 12) (a0 := (12, .inl (fun _ => 0))) hC 0 rfl rfl (Or.inl rfl) (uX2_init__o _ (List.mem_of_getElem? (l := owX2_init) (i := 4) rfl)) (fun _ => rfl) (by decide) (by decide) (Nat.le_of_ble_eq_true rfl) (Nat.le_of_ble_eq_true rfl) (Nat.le_of_ble_eq_true rfl) dX2_init_65 67 rfl (fun q18 => ?_)
  refine y_put (C := RX2) (T := TX2) (N := 14) (ci := 2) (ty := .array .int) (v := .ref q18) (fs' := [.ref q11, .ref q12, .ref q13, .ref q14, .ref q15, .ref q16, .ref q17, .ref q18, .int 0, .int 0, .int 0, .int 0, .int 0, .int 0]) hC hIn inIX2_init tyX2 tyX2_ok nmX2 rfl 7 (by decide) (uX2_init__o _ (List.mem_of_getElem? (l := owX2_init) (i := 11) rfl)) rfl (by decide +kernel) rfl rfl (Nat.le_of_ble_eq_true rfl) rfl dX2_init_67 70 rfl ?_
  refine y_aload_n hC dX2_init_70 0 rfl 71 rfl ?_
  obtain ⟨a, ha⟩ : ∃ a : Nat → Nat, a = fun k => cond (Nat.beq k 10) (h0) (cond (Nat.beq k 11) (q11) (cond (Nat.beq k 12) (q12) (cond (Nat.beq k 13) (q13) (cond (Nat.beq k 14) (q14) (cond (Nat.beq k 15) (q15) (cond (Nat.beq k 16) (q16) (cond (Nat.beq k 17) (q17) (cond (Nat.beq k 18) (q18) (0))))))))) := ⟨_, rfl⟩
  obtain ⟨M, hM⟩ : ∃ M : MM, M = fun k => cond (Nat.beq k 10) (fun j => 0) (cond (Nat.beq k 11) (fun _ => 0) (cond (Nat.beq k 12) (fun _ => 0) (cond (Nat.beq k 13) (fun _ => 0) (cond (Nat.beq k 14) (fun _ => 0) (cond (Nat.beq k 15) (fun _ => 0) (cond (Nat.beq k 16) (fun _ => 0) (cond (Nat.beq k 17) (fun _ => 0) (cond (Nat.beq k 18) (fun _ => 0) (fun _ => 0))))))))) := ⟨_, rfl⟩
  have ha0 : a 10 = h0 := by rw [ha]; rfl
  refine YY.to (ws' := Wp g a [10, 11, 12, 13, 14, 15, 16, 17, 18] M) (by subst ha; subst hM; rfl) ?_
  have ht : tpl (gp g a [10, 11, 12, 13, 14, 15, 16, 17, 18]) 10 := ⟨by unfold tpB; omega, by show ∀ i, i < 9 → 10 + i ∈ [10, 11, 12, 13, 14, 15, 16, 17, 18]; decide⟩
  rw [← ha0]
  refine y_callV (b := 10) (q := (RX2, TX2, 14)) (Q := tpP 10) hC (by decide) (ctX2_reset (zl z) (gp g a [10, 11, 12, 13, 14, 15, 16, 17, 18]) M 10 _ ht (s_reset0 (Or.inr (Or.inl rfl)) (fun M' hw => hw))) gX2_init_X2_reset rfl ⟨rfl, rfl⟩ hdI_X2_reset ⟨Nat.le_of_ble_eq_true rfl, Nat.le_of_ble_eq_true rfl⟩ ht.ob rfl ⟨Nat.le_of_ble_eq_true rfl, Nat.le_of_ble_eq_true rfl⟩ (Nat.le_of_ble_eq_true rfl) dX2_init_71 74 rfl (fun N71 hw => ?_)
  exact y_ret hR hC a N71 dX2_init_74 ha0 hw rfl rfl rfl
set_option maxHeartbeats 4000000 in
set_option maxRecDepth 100000 in
theorem ciX2_init_19 (l : Launch) (g : GG) : CI g l yX2_init wsX2_init ({ frames := 3, cells := 8, slots := 369, locals := 101 } : Room) (.inr (2, [.null, .null, .null, .null, .null, .null, .null, .null, .int 0, .int 0, .int 0, .int 0, .int 0, .int 0])) 19 [19, 20, 21, 22, 23, 24, 25, 26, 27] (tpP 19) 8 369 := by
  refine mk_CI (cc := cX2_init) (maxL := 1) (by decide) rfl rfl (by decide) ?_
  intro z Qf h0 sz A hC hIn hR
  refine y_aload_n hC dX2_init_0 0 rfl 1 rfl ?_
  refine y_oinit hC (uX2_init__o _ (List.mem_of_getElem? (l := owX2_init) (i := 1) rfl)) (uX2_init__o _ (List.mem_of_getElem? (l := owX2_init) (i := 2) rfl)) (uX2_init__o _ (List.mem_of_getElem? (l := owX2_init) (i := 3) rfl)) (Nat.le_of_ble_eq_true rfl) (Nat.le_of_ble_eq_true rfl) dX2_init_1 4 rfl ?_
  refine y_aload_n hC dX2_init_4 0 rfl 5 rfl ?_
  refine y_bipush (v := 9) hC dX2_init_5 (by decide) 7 rfl ?_
  refine y_newa (ty := .int) (cT := gI g) (N := 9) (a0 := (9, .inl (fun _ => 0))) hC 0 rfl rfl (Or.inl rfl) (uX2_init__o _ (List.mem_of_getElem? (l := owX2_init) (i := 4) rfl)) (fun _ => rfl) (by decide) (by decide) (Nat.le_of_ble_eq_true rfl) (Nat.le_of_ble_eq_true rfl) (Nat.le_of_ble_eq_true rfl) dX2_init_7 9 rfl (fun q20 => ?_)
  refine y_put (C := RX2) (T := TX2) (N := 14) (ci := 2) (ty := .array .int) (v := .ref q20) (fs' := [.ref q20, .null, .null, .null, .null, .null, .null, .null, .int 0, .int 0, .int 0, .int 0, .int 0, .int 0]) hC hIn inIX2_init tyX2 tyX2_ok nmX2 rfl 0 (by decide) (uX2_init__X2_reset _ (List.mem_of_getElem? (l := owX2_reset) (i := 1) rfl)) rfl (by decide +kernel) rfl rfl (Nat.le_of_ble_eq_true rfl) rfl dX2_init_9 12 rfl ?_
  refine y_aload_n hC dX2_init_12 0 rfl 13 rfl ?_
  refine y_bipush (v := 12) hC dX2_init_13 (by decide) 15 rfl ?_
  refine y_newa (ty := .int) (cT := gI g) (N := 12) (a0 := (12, .inl (fun _ => 0))) hC 0 rfl rfl (Or.inl rfl) (uX2_init__o _ (List.mem_of_getElem? (l := owX2_init) (i := 4) rfl)) (fun _ => rfl) (by decide) (by decide) (Nat.le_of_ble_eq_true rfl) (Nat.le_of_ble_eq_true rfl) (Nat.le_of_ble_eq_true rfl) dX2_init_15 17 rfl (fun q21 => ?_)
  refine y_put (C := RX2) (T := TX2) (N := 14) (ci := 2) (ty := .array .int) (v := .ref q21) (fs' := [.ref q20, .ref q21, .null, .null, .null, .null, .null, .null, .int 0, .int 0, .int 0, .int 0, .int 0, .int 0]) hC hIn inIX2_init tyX2 tyX2_ok nmX2 rfl 1 (by decide) (uX2_init__o _ (List.mem_of_getElem? (l := owX2_init) (i := 5) rfl)) rfl (by decide +kernel) rfl rfl (Nat.le_of_ble_eq_true rfl) rfl dX2_init_17 20 rfl ?_
  refine y_aload_n hC dX2_init_20 0 rfl 21 rfl ?_
  refine y_bipush (v := 12) hC dX2_init_21 (by decide) 23 rfl ?_
  refine y_newa (ty := .int) (cT := gI g) (N := 12) (a0 := (12, .inl (fun _ => 0))) hC 0 rfl rfl (Or.inl rfl) (uX2_init__o _ (List.mem_of_getElem? (l := owX2_init) (i := 4) rfl)) (fun _ => rfl) (by decide) (by decide) (Nat.le_of_ble_eq_true rfl) (Nat.le_of_ble_eq_true rfl) (Nat.le_of_ble_eq_true rfl) dX2_init_23 25 rfl (fun q22 => ?_)
  refine y_put (C := RX2) (T := TX2) (N := 14) (ci := 2) (ty := .array .int) (v := .ref q22) (fs' := [.ref q20, .ref q21, .ref q22, .null, .null, .null, .null, .null, .int 0, .int 0, .int 0, .int 0, .int 0, .int 0]) hC hIn inIX2_init tyX2 tyX2_ok nmX2 rfl 2 (by decide) (uX2_init__o _ (List.mem_of_getElem? (l := owX2_init) (i := 6) rfl)) rfl (by decide +kernel) rfl rfl (Nat.le_of_ble_eq_true rfl) rfl dX2_init_25 28 rfl ?_
  refine y_aload_n hC dX2_init_28 0 rfl 29 rfl ?_
  refine y_sipush (v := 156) hC dX2_init_29 (by decide) 32 rfl ?_
  refine y_newa (ty := .int) (cT := gI g) (N := 156) (a0 := (156, .inl (fun _ => 0))) hC 0 rfl rfl (Or.inl rfl) (uX2_init__o _ (List.mem_of_getElem? (l := owX2_init) (i := 4) rfl)) (fun _ => rfl) (by decide) (by decide) (Nat.le_of_ble_eq_true rfl) (Nat.le_of_ble_eq_true rfl) (Nat.le_of_ble_eq_true rfl) dX2_init_32 34 rfl (fun q23 => ?_)
  refine y_put (C := RX2) (T := TX2) (N := 14) (ci := 2) (ty := .array .int) (v := .ref q23) (fs' := [.ref q20, .ref q21, .ref q22, .ref q23, .null, .null, .null, .null, .int 0, .int 0, .int 0, .int 0, .int 0, .int 0]) hC hIn inIX2_init tyX2 tyX2_ok nmX2 rfl 3 (by decide) (uX2_init__o _ (List.mem_of_getElem? (l := owX2_init) (i := 7) rfl)) rfl (by decide +kernel) rfl rfl (Nat.le_of_ble_eq_true rfl) rfl dX2_init_34 37 rfl ?_
  refine y_aload_n hC dX2_init_37 0 rfl 38 rfl ?_
  refine y_sipush (v := 144) hC dX2_init_38 (by decide) 41 rfl ?_
  refine y_newa (ty := .int) (cT := gI g) (N := 144) (a0 := (144, .inl (fun _ => 0))) hC 0 rfl rfl (Or.inl rfl) (uX2_init__o _ (List.mem_of_getElem? (l := owX2_init) (i := 4) rfl)) (fun _ => rfl) (by decide) (by decide) (Nat.le_of_ble_eq_true rfl) (Nat.le_of_ble_eq_true rfl) (Nat.le_of_ble_eq_true rfl) dX2_init_41 43 rfl (fun q24 => ?_)
  refine y_put (C := RX2) (T := TX2) (N := 14) (ci := 2) (ty := .array .int) (v := .ref q24) (fs' := [.ref q20, .ref q21, .ref q22, .ref q23, .ref q24, .null, .null, .null, .int 0, .int 0, .int 0, .int 0, .int 0, .int 0]) hC hIn inIX2_init tyX2 tyX2_ok nmX2 rfl 4 (by decide) (uX2_init__o _ (List.mem_of_getElem? (l := owX2_init) (i := 8) rfl)) rfl (by decide +kernel) rfl rfl (Nat.le_of_ble_eq_true rfl) rfl dX2_init_43 46 rfl ?_
  refine y_aload_n hC dX2_init_46 0 rfl 47 rfl ?_
  refine y_bipush (v := 12) hC dX2_init_47 (by decide) 49 rfl ?_
  refine y_newa (ty := .int) (cT := gI g) (N := 12) (a0 := (12, .inl (fun _ => 0))) hC 0 rfl rfl (Or.inl rfl) (uX2_init__o _ (List.mem_of_getElem? (l := owX2_init) (i := 4) rfl)) (fun _ => rfl) (by decide) (by decide) (Nat.le_of_ble_eq_true rfl) (Nat.le_of_ble_eq_true rfl) (Nat.le_of_ble_eq_true rfl) dX2_init_49 51 rfl (fun q25 => ?_)
  refine y_put (C := RX2) (T := TX2) (N := 14) (ci := 2) (ty := .array .int) (v := .ref q25) (fs' := [.ref q20, .ref q21, .ref q22, .ref q23, .ref q24, .ref q25, .null, .null, .int 0, .int 0, .int 0, .int 0, .int 0, .int 0]) hC hIn inIX2_init tyX2 tyX2_ok nmX2 rfl 5 (by decide) (uX2_init__o _ (List.mem_of_getElem? (l := owX2_init) (i := 9) rfl)) rfl (by decide +kernel) rfl rfl (Nat.le_of_ble_eq_true rfl) rfl dX2_init_51 54 rfl ?_
  refine y_aload_n hC dX2_init_54 0 rfl 55 rfl ?_
  refine y_bipush (v := 12) hC dX2_init_55 (by decide) 57 rfl ?_
  refine y_newa (ty := .int) (cT := gI g) (N := 12) (a0 := (12, .inl (fun _ => 0))) hC 0 rfl rfl (Or.inl rfl) (uX2_init__o _ (List.mem_of_getElem? (l := owX2_init) (i := 4) rfl)) (fun _ => rfl) (by decide) (by decide) (Nat.le_of_ble_eq_true rfl) (Nat.le_of_ble_eq_true rfl) (Nat.le_of_ble_eq_true rfl) dX2_init_57 59 rfl (fun q26 => ?_)
  refine y_put (C := RX2) (T := TX2) (N := 14) (ci := 2) (ty := .array .int) (v := .ref q26) (fs' := [.ref q20, .ref q21, .ref q22, .ref q23, .ref q24, .ref q25, .ref q26, .null, .int 0, .int 0, .int 0, .int 0, .int 0, .int 0]) hC hIn inIX2_init tyX2 tyX2_ok nmX2 rfl 6 (by decide) (uX2_init__o _ (List.mem_of_getElem? (l := owX2_init) (i := 10) rfl)) rfl (by decide +kernel) rfl rfl (Nat.le_of_ble_eq_true rfl) rfl dX2_init_59 62 rfl ?_
  refine y_aload_n hC dX2_init_62 0 rfl 63 rfl ?_
  refine y_bipush (v := 12) hC dX2_init_63 (by decide) 65 rfl ?_
  refine y_newa (ty := .int) (cT := gI g) (N := 12) (a0 := (12, .inl (fun _ => 0))) hC 0 rfl rfl (Or.inl rfl) (uX2_init__o _ (List.mem_of_getElem? (l := owX2_init) (i := 4) rfl)) (fun _ => rfl) (by decide) (by decide) (Nat.le_of_ble_eq_true rfl) (Nat.le_of_ble_eq_true rfl) (Nat.le_of_ble_eq_true rfl) dX2_init_65 67 rfl (fun q27 => ?_)
  refine y_put (C := RX2) (T := TX2) (N := 14) (ci := 2) (ty := .array .int) (v := .ref q27) (fs' := [.ref q20, .ref q21, .ref q22, .ref q23, .ref q24, .ref q25, .ref q26, .ref q27, .int 0, .int 0, .int 0, .int 0, .int 0, .int 0]) hC hIn inIX2_init tyX2 tyX2_ok nmX2 rfl 7 (by decide) (uX2_init__o _ (List.mem_of_getElem? (l := owX2_init) (i := 11) rfl)) rfl (by decide +kernel) rfl rfl (Nat.le_of_ble_eq_true rfl) rfl dX2_init_67 70 rfl ?_
  refine y_aload_n hC dX2_init_70 0 rfl 71 rfl ?_
  obtain ⟨a, ha⟩ : ∃ a : Nat → Nat, a = fun k => cond (Nat.beq k 19) (h0) (cond (Nat.beq k 20) (q20) (cond (Nat.beq k 21) (q21) (cond (Nat.beq k 22) (q22) (cond (Nat.beq k 23) (q23) (cond (Nat.beq k 24) (q24) (cond (Nat.beq k 25) (q25) (cond (Nat.beq k 26) (q26) (cond (Nat.beq k 27) (q27) (0))))))))) := ⟨_, rfl⟩
  obtain ⟨M, hM⟩ : ∃ M : MM, M = fun k => cond (Nat.beq k 19) (fun j => 0) (cond (Nat.beq k 20) (fun _ => 0) (cond (Nat.beq k 21) (fun _ => 0) (cond (Nat.beq k 22) (fun _ => 0) (cond (Nat.beq k 23) (fun _ => 0) (cond (Nat.beq k 24) (fun _ => 0) (cond (Nat.beq k 25) (fun _ => 0) (cond (Nat.beq k 26) (fun _ => 0) (cond (Nat.beq k 27) (fun _ => 0) (fun _ => 0))))))))) := ⟨_, rfl⟩
  have ha0 : a 19 = h0 := by rw [ha]; rfl
  refine YY.to (ws' := Wp g a [19, 20, 21, 22, 23, 24, 25, 26, 27] M) (by subst ha; subst hM; rfl) ?_
  have ht : tpl (gp g a [19, 20, 21, 22, 23, 24, 25, 26, 27]) 19 := ⟨by unfold tpB; omega, by show ∀ i, i < 9 → 19 + i ∈ [19, 20, 21, 22, 23, 24, 25, 26, 27]; decide⟩
  rw [← ha0]
  refine y_callV (b := 19) (q := (RX2, TX2, 14)) (Q := tpP 19) hC (by decide) (ctX2_reset (zl z) (gp g a [19, 20, 21, 22, 23, 24, 25, 26, 27]) M 19 _ ht (s_reset0 (Or.inr (Or.inr (Or.inl rfl))) (fun M' hw => hw))) gX2_init_X2_reset rfl ⟨rfl, rfl⟩ hdI_X2_reset ⟨Nat.le_of_ble_eq_true rfl, Nat.le_of_ble_eq_true rfl⟩ ht.ob rfl ⟨Nat.le_of_ble_eq_true rfl, Nat.le_of_ble_eq_true rfl⟩ (Nat.le_of_ble_eq_true rfl) dX2_init_71 74 rfl (fun N71 hw => ?_)
  exact y_ret hR hC a N71 dX2_init_74 ha0 hw rfl rfl rfl
set_option maxHeartbeats 4000000 in
set_option maxRecDepth 100000 in
theorem ciX2_init_28 (l : Launch) (g : GG) : CI g l yX2_init wsX2_init ({ frames := 3, cells := 8, slots := 369, locals := 101 } : Room) (.inr (2, [.null, .null, .null, .null, .null, .null, .null, .null, .int 0, .int 0, .int 0, .int 0, .int 0, .int 0])) 28 [28, 29, 30, 31, 32, 33, 34, 35, 36] (tpP 28) 8 369 := by
  refine mk_CI (cc := cX2_init) (maxL := 1) (by decide) rfl rfl (by decide) ?_
  intro z Qf h0 sz A hC hIn hR
  refine y_aload_n hC dX2_init_0 0 rfl 1 rfl ?_
  refine y_oinit hC (uX2_init__o _ (List.mem_of_getElem? (l := owX2_init) (i := 1) rfl)) (uX2_init__o _ (List.mem_of_getElem? (l := owX2_init) (i := 2) rfl)) (uX2_init__o _ (List.mem_of_getElem? (l := owX2_init) (i := 3) rfl)) (Nat.le_of_ble_eq_true rfl) (Nat.le_of_ble_eq_true rfl) dX2_init_1 4 rfl ?_
  refine y_aload_n hC dX2_init_4 0 rfl 5 rfl ?_
  refine y_bipush (v := 9) hC dX2_init_5 (by decide) 7 rfl ?_
  refine y_newa (ty := .int) (cT := gI g) (N := 9) (a0 := (9, .inl (fun _ => 0))) hC 0 rfl rfl (Or.inl rfl) (uX2_init__o _ (List.mem_of_getElem? (l := owX2_init) (i := 4) rfl)) (fun _ => rfl) (by decide) (by decide) (Nat.le_of_ble_eq_true rfl) (Nat.le_of_ble_eq_true rfl) (Nat.le_of_ble_eq_true rfl) dX2_init_7 9 rfl (fun q29 => ?_)
  refine y_put (C := RX2) (T := TX2) (N := 14) (ci := 2) (ty := .array .int) (v := .ref q29) (fs' := [.ref q29, .null, .null, .null, .null, .null, .null, .null, .int 0, .int 0, .int 0, .int 0, .int 0, .int 0]) hC hIn inIX2_init tyX2 tyX2_ok nmX2 rfl 0 (by decide) (uX2_init__X2_reset _ (List.mem_of_getElem? (l := owX2_reset) (i := 1) rfl)) rfl (by decide +kernel) rfl rfl (Nat.le_of_ble_eq_true rfl) rfl dX2_init_9 12 rfl ?_
  refine y_aload_n hC dX2_init_12 0 rfl 13 rfl ?_
  refine y_bipush (v := 12) hC dX2_init_13 (by decide) 15 rfl ?_
  refine y_newa (ty := .int) (cT := gI g) (N := 12) (a0 := (12, .inl (fun _ => 0))) hC 0 rfl rfl (Or.inl rfl) (uX2_init__o _ (List.mem_of_getElem? (l := owX2_init) (i := 4) rfl)) (fun _ => rfl) (by decide) (by decide) (Nat.le_of_ble_eq_true rfl) (Nat.le_of_ble_eq_true rfl) (Nat.le_of_ble_eq_true rfl) dX2_init_15 17 rfl (fun q30 => ?_)
  refine y_put (C := RX2) (T := TX2) (N := 14) (ci := 2) (ty := .array .int) (v := .ref q30) (fs' := [.ref q29, .ref q30, .null, .null, .null, .null, .null, .null, .int 0, .int 0, .int 0, .int 0, .int 0, .int 0]) hC hIn inIX2_init tyX2 tyX2_ok nmX2 rfl 1 (by decide) (uX2_init__o _ (List.mem_of_getElem? (l := owX2_init) (i := 5) rfl)) rfl (by decide +kernel) rfl rfl (Nat.le_of_ble_eq_true rfl) rfl dX2_init_17 20 rfl ?_
  refine y_aload_n hC dX2_init_20 0 rfl 21 rfl ?_
  refine y_bipush (v := 12) hC dX2_init_21 (by decide) 23 rfl ?_
  refine y_newa (ty := .int) (cT := gI g) (N := 12) (a0 := (12, .inl (fun _ => 0))) hC 0 rfl rfl (Or.inl rfl) (uX2_init__o _ (List.mem_of_getElem? (l := owX2_init) (i := 4) rfl)) (fun _ => rfl) (by decide) (by decide) (Nat.le_of_ble_eq_true rfl) (Nat.le_of_ble_eq_true rfl) (Nat.le_of_ble_eq_true rfl) dX2_init_23 25 rfl (fun q31 => ?_)
  refine y_put (C := RX2) (T := TX2) (N := 14) (ci := 2) (ty := .array .int) (v := .ref q31) (fs' := [.ref q29, .ref q30, .ref q31, .null, .null, .null, .null, .null, .int 0, .int 0, .int 0, .int 0, .int 0, .int 0]) hC hIn inIX2_init tyX2 tyX2_ok nmX2 rfl 2 (by decide) (uX2_init__o _ (List.mem_of_getElem? (l := owX2_init) (i := 6) rfl)) rfl (by decide +kernel) rfl rfl (Nat.le_of_ble_eq_true rfl) rfl dX2_init_25 28 rfl ?_
  refine y_aload_n hC dX2_init_28 0 rfl 29 rfl ?_
  refine y_sipush (v := 156) hC dX2_init_29 (by decide) 32 rfl ?_
  refine y_newa (ty := .int) (cT := gI g) (N := 156) (a0 := (156, .inl (fun _ => 0))) hC 0 rfl rfl (Or.inl rfl) (uX2_init__o _ (List.mem_of_getElem? (l := owX2_init) (i := 4) rfl)) (fun _ => rfl) (by decide) (by decide) (Nat.le_of_ble_eq_true rfl) (Nat.le_of_ble_eq_true rfl) (Nat.le_of_ble_eq_true rfl) dX2_init_32 34 rfl (fun q32 => ?_)
  refine y_put (C := RX2) (T := TX2) (N := 14) (ci := 2) (ty := .array .int) (v := .ref q32) (fs' := [.ref q29, .ref q30, .ref q31, .ref q32, .null, .null, .null, .null, .int 0, .int 0, .int 0, .int 0, .int 0, .int 0]) hC hIn inIX2_init tyX2 tyX2_ok nmX2 rfl 3 (by decide) (uX2_init__o _ (List.mem_of_getElem? (l := owX2_init) (i := 7) rfl)) rfl (by decide +kernel) rfl rfl (Nat.le_of_ble_eq_true rfl) rfl dX2_init_34 37 rfl ?_
  refine y_aload_n hC dX2_init_37 0 rfl 38 rfl ?_
  refine y_sipush (v := 144) hC dX2_init_38 (by decide) 41 rfl ?_
  refine y_newa (ty := .int) (cT := gI g) (N := 144) (a0 := (144, .inl (fun _ => 0))) hC 0 rfl rfl (Or.inl rfl) (uX2_init__o _ (List.mem_of_getElem? (l := owX2_init) (i := 4) rfl)) (fun _ => rfl) (by decide) (by decide) (Nat.le_of_ble_eq_true rfl) (Nat.le_of_ble_eq_true rfl) (Nat.le_of_ble_eq_true rfl) dX2_init_41 43 rfl (fun q33 => ?_)
  refine y_put (C := RX2) (T := TX2) (N := 14) (ci := 2) (ty := .array .int) (v := .ref q33) (fs' := [.ref q29, .ref q30, .ref q31, .ref q32, .ref q33, .null, .null, .null, .int 0, .int 0, .int 0, .int 0, .int 0, .int 0]) hC hIn inIX2_init tyX2 tyX2_ok nmX2 rfl 4 (by decide) (uX2_init__o _ (List.mem_of_getElem? (l := owX2_init) (i := 8) rfl)) rfl (by decide +kernel) rfl rfl (Nat.le_of_ble_eq_true rfl) rfl dX2_init_43 46 rfl ?_
  refine y_aload_n hC dX2_init_46 0 rfl 47 rfl ?_
  refine y_bipush (v := 12) hC dX2_init_47 (by decide) 49 rfl ?_
  refine y_newa (ty := .int) (cT := gI g) (N := 12) (a0 := (12, .inl (fun _ => 0))) hC 0 rfl rfl (Or.inl rfl) (uX2_init__o _ (List.mem_of_getElem? (l := owX2_init) (i := 4) rfl)) (fun _ => rfl) (by decide) (by decide) (Nat.le_of_ble_eq_true rfl) (Nat.le_of_ble_eq_true rfl) (Nat.le_of_ble_eq_true rfl) dX2_init_49 51 rfl (fun q34 => ?_)
  refine y_put (C := RX2) (T := TX2) (N := 14) (ci := 2) (ty := .array .int) (v := .ref q34) (fs' := [.ref q29, .ref q30, .ref q31, .ref q32, .ref q33, .ref q34, .null, .null, .int 0, .int 0, .int 0, .int 0, .int 0, .int 0]) hC hIn inIX2_init tyX2 tyX2_ok nmX2 rfl 5 (by decide) (uX2_init__o _ (List.mem_of_getElem? (l := owX2_init) (i := 9) rfl)) rfl (by decide +kernel) rfl rfl (Nat.le_of_ble_eq_true rfl) rfl dX2_init_51 54 rfl ?_
  refine y_aload_n hC dX2_init_54 0 rfl 55 rfl ?_
  refine y_bipush (v := 12) hC dX2_init_55 (by decide) 57 rfl ?_
  refine y_newa (ty := .int) (cT := gI g) (N := 12) (a0 := (12, .inl (fun _ => 0))) hC 0 rfl rfl (Or.inl rfl) (uX2_init__o _ (List.mem_of_getElem? (l := owX2_init) (i := 4) rfl)) (fun _ => rfl) (by decide) (by decide) (Nat.le_of_ble_eq_true rfl) (Nat.le_of_ble_eq_true rfl) (Nat.le_of_ble_eq_true rfl) dX2_init_57 59 rfl (fun q35 => ?_)
  refine y_put (C := RX2) (T := TX2) (N := 14) (ci := 2) (ty := .array .int) (v := .ref q35) (fs' := [.ref q29, .ref q30, .ref q31, .ref q32, .ref q33, .ref q34, .ref q35, .null, .int 0, .int 0, .int 0, .int 0, .int 0, .int 0]) hC hIn inIX2_init tyX2 tyX2_ok nmX2 rfl 6 (by decide) (uX2_init__o _ (List.mem_of_getElem? (l := owX2_init) (i := 10) rfl)) rfl (by decide +kernel) rfl rfl (Nat.le_of_ble_eq_true rfl) rfl dX2_init_59 62 rfl ?_
  refine y_aload_n hC dX2_init_62 0 rfl 63 rfl ?_
  refine y_bipush (v := 12) hC dX2_init_63 (by decide) 65 rfl ?_
  refine y_newa (ty := .int) (cT := gI g) (N := 12) (a0 := (12, .inl (fun _ => 0))) hC 0 rfl rfl (Or.inl rfl) (uX2_init__o _ (List.mem_of_getElem? (l := owX2_init) (i := 4) rfl)) (fun _ => rfl) (by decide) (by decide) (Nat.le_of_ble_eq_true rfl) (Nat.le_of_ble_eq_true rfl) (Nat.le_of_ble_eq_true rfl) dX2_init_65 67 rfl (fun q36 => ?_)
  refine y_put (C := RX2) (T := TX2) (N := 14) (ci := 2) (ty := .array .int) (v := .ref q36) (fs' := [.ref q29, .ref q30, .ref q31, .ref q32, .ref q33, .ref q34, .ref q35, .ref q36, .int 0, .int 0, .int 0, .int 0, .int 0, .int 0]) hC hIn inIX2_init tyX2 tyX2_ok nmX2 rfl 7 (by decide) (uX2_init__o _ (List.mem_of_getElem? (l := owX2_init) (i := 11) rfl)) rfl (by decide +kernel) rfl rfl (Nat.le_of_ble_eq_true rfl) rfl dX2_init_67 70 rfl ?_
  refine y_aload_n hC dX2_init_70 0 rfl 71 rfl ?_
  obtain ⟨a, ha⟩ : ∃ a : Nat → Nat, a = fun k => cond (Nat.beq k 28) (h0) (cond (Nat.beq k 29) (q29) (cond (Nat.beq k 30) (q30) (cond (Nat.beq k 31) (q31) (cond (Nat.beq k 32) (q32) (cond (Nat.beq k 33) (q33) (cond (Nat.beq k 34) (q34) (cond (Nat.beq k 35) (q35) (cond (Nat.beq k 36) (q36) (0))))))))) := ⟨_, rfl⟩
  obtain ⟨M, hM⟩ : ∃ M : MM, M = fun k => cond (Nat.beq k 28) (fun j => 0) (cond (Nat.beq k 29) (fun _ => 0) (cond (Nat.beq k 30) (fun _ => 0) (cond (Nat.beq k 31) (fun _ => 0) (cond (Nat.beq k 32) (fun _ => 0) (cond (Nat.beq k 33) (fun _ => 0) (cond (Nat.beq k 34) (fun _ => 0) (cond (Nat.beq k 35) (fun _ => 0) (cond (Nat.beq k 36) (fun _ => 0) (fun _ => 0))))))))) := ⟨_, rfl⟩
  have ha0 : a 28 = h0 := by rw [ha]; rfl
  refine YY.to (ws' := Wp g a [28, 29, 30, 31, 32, 33, 34, 35, 36] M) (by subst ha; subst hM; rfl) ?_
  have ht : tpl (gp g a [28, 29, 30, 31, 32, 33, 34, 35, 36]) 28 := ⟨by unfold tpB; omega, by show ∀ i, i < 9 → 28 + i ∈ [28, 29, 30, 31, 32, 33, 34, 35, 36]; decide⟩
  rw [← ha0]
  refine y_callV (b := 28) (q := (RX2, TX2, 14)) (Q := tpP 28) hC (by decide) (ctX2_reset (zl z) (gp g a [28, 29, 30, 31, 32, 33, 34, 35, 36]) M 28 _ ht (s_reset0 (Or.inr (Or.inr (Or.inr rfl))) (fun M' hw => hw))) gX2_init_X2_reset rfl ⟨rfl, rfl⟩ hdI_X2_reset ⟨Nat.le_of_ble_eq_true rfl, Nat.le_of_ble_eq_true rfl⟩ ht.ob rfl ⟨Nat.le_of_ble_eq_true rfl, Nat.le_of_ble_eq_true rfl⟩ (Nat.le_of_ble_eq_true rfl) dX2_init_71 74 rfl (fun N71 hw => ?_)
  exact y_ret hR hC a N71 dX2_init_74 ha0 hw rfl rfl rfl
theorem inIX1_init : ∀ w ∈ u_ws RX1 TX1 3, w ∈ wsX1_init := uX1_init__wsX10
set_option maxHeartbeats 4000000 in
set_option maxRecDepth 100000 in
theorem ciX1_init_44 (l : Launch) (g : GG) : CI g l yX1_init wsX1_init ({ frames := 1, cells := 1, slots := 40, locals := 12 } : Room) (.inr (1, [.null, .int 0, .int 0])) 44 [44, 45] (shP 44) 1 40 := by
  refine mk_CI (cc := cX1_init) (maxL := 1) (by decide) rfl rfl (by decide) ?_
  intro z Qf h0 sz A hC hIn hR
  refine y_aload_n hC dX1_init_0 0 rfl 1 rfl ?_
  refine y_oinit hC (uX1_init__o _ (List.mem_of_getElem? (l := owX1_init) (i := 1) rfl)) (uX1_init__o _ (List.mem_of_getElem? (l := owX1_init) (i := 2) rfl)) (uX1_init__o _ (List.mem_of_getElem? (l := owX1_init) (i := 3) rfl)) (Nat.le_of_ble_eq_true rfl) (Nat.le_of_ble_eq_true rfl) dX1_init_1 4 rfl ?_
  refine y_aload_n hC dX1_init_4 0 rfl 5 rfl ?_
  refine y_bipush (v := 40) hC dX1_init_5 (by decide) 7 rfl ?_
  refine y_newa (ty := .int) (cT := gI g) (N := 40) (a0 := (40, .inl (fun _ => 0))) hC 0 rfl rfl (Or.inl rfl) (uX1_init__o _ (List.mem_of_getElem? (l := owX1_init) (i := 4) rfl)) (fun _ => rfl) (by decide) (by decide) (Nat.le_of_ble_eq_true rfl) (Nat.le_of_ble_eq_true rfl) (Nat.le_of_ble_eq_true rfl) dX1_init_7 9 rfl (fun q45 => ?_)
  refine y_put (C := RX1) (T := TX1) (N := 3) (ci := 1) (ty := .array .int) (v := .ref q45) (fs' := [.ref q45, .int 0, .int 0]) hC hIn inIX1_init tyX1 tyX1_ok nmX1 rfl 0 (by decide) (uX1_init__o _ (List.mem_of_getElem? (l := owX1_init) (i := 5) rfl)) rfl (by decide +kernel) rfl rfl (Nat.le_of_ble_eq_true rfl) rfl dX1_init_9 12 rfl ?_
  refine y_aload_n hC dX1_init_12 0 rfl 13 rfl ?_
  refine y_iconst (v := (-1)) hC dX1_init_13 (by decide) 14 rfl ?_
  refine y_put (C := RX1) (T := TX1) (N := 3) (ci := 1) (ty := .int) (v := .int (-1)) (fs' := [.ref q45, .int (-1), .int 0]) hC hIn inIX1_init tyX1 tyX1_ok nmX1 rfl 1 (by decide) (uX1_init__o _ (List.mem_of_getElem? (l := owX1_init) (i := 6) rfl)) rfl (by decide +kernel) rfl rfl (Nat.le_of_ble_eq_true rfl) rfl dX1_init_14 17 rfl ?_
  refine y_aload_n hC dX1_init_17 0 rfl 18 rfl ?_
  refine y_iconst (v := 0) hC dX1_init_18 (by decide) 19 rfl ?_
  refine y_put (C := RX1) (T := TX1) (N := 3) (ci := 1) (ty := .int) (v := .int 0) (fs' := [.ref q45, .int (-1), .int 0]) hC hIn inIX1_init tyX1 tyX1_ok nmX1 rfl 2 (by decide) (uX1_init__o _ (List.mem_of_getElem? (l := owX1_init) (i := 7) rfl)) rfl (by decide +kernel) rfl rfl (Nat.le_of_ble_eq_true rfl) rfl dX1_init_19 22 rfl ?_
  obtain ⟨a, ha⟩ : ∃ a : Nat → Nat, a = fun k => cond (Nat.beq k 44) (h0) (cond (Nat.beq k 45) (q45) (0)) := ⟨_, rfl⟩
  obtain ⟨M, hM⟩ : ∃ M : MM, M = fun k => cond (Nat.beq k 44) (fun j => cond (Nat.beq j 1) ((-1)) (0)) (cond (Nat.beq k 45) (fun _ => 0) (fun _ => 0)) := ⟨_, rfl⟩
  have ha0 : a 44 = h0 := by rw [ha]; rfl
  refine YY.to (ws' := Wp g a [44, 45] M) (by subst ha; subst hM; rfl) ?_
  exact y_ret hR hC a M dX1_init_22 ha0 (by rw [hM]; exact ⟨rfl, rfl⟩) rfl rfl rfl
set_option maxHeartbeats 4000000 in
set_option maxRecDepth 100000 in
theorem ciX1_init_46 (l : Launch) (g : GG) : CI g l yX1_init wsX1_init ({ frames := 1, cells := 1, slots := 40, locals := 12 } : Room) (.inr (1, [.null, .int 0, .int 0])) 46 [46, 47] (shP 46) 1 40 := by
  refine mk_CI (cc := cX1_init) (maxL := 1) (by decide) rfl rfl (by decide) ?_
  intro z Qf h0 sz A hC hIn hR
  refine y_aload_n hC dX1_init_0 0 rfl 1 rfl ?_
  refine y_oinit hC (uX1_init__o _ (List.mem_of_getElem? (l := owX1_init) (i := 1) rfl)) (uX1_init__o _ (List.mem_of_getElem? (l := owX1_init) (i := 2) rfl)) (uX1_init__o _ (List.mem_of_getElem? (l := owX1_init) (i := 3) rfl)) (Nat.le_of_ble_eq_true rfl) (Nat.le_of_ble_eq_true rfl) dX1_init_1 4 rfl ?_
  refine y_aload_n hC dX1_init_4 0 rfl 5 rfl ?_
  refine y_bipush (v := 40) hC dX1_init_5 (by decide) 7 rfl ?_
  refine y_newa (ty := .int) (cT := gI g) (N := 40) (a0 := (40, .inl (fun _ => 0))) hC 0 rfl rfl (Or.inl rfl) (uX1_init__o _ (List.mem_of_getElem? (l := owX1_init) (i := 4) rfl)) (fun _ => rfl) (by decide) (by decide) (Nat.le_of_ble_eq_true rfl) (Nat.le_of_ble_eq_true rfl) (Nat.le_of_ble_eq_true rfl) dX1_init_7 9 rfl (fun q47 => ?_)
  refine y_put (C := RX1) (T := TX1) (N := 3) (ci := 1) (ty := .array .int) (v := .ref q47) (fs' := [.ref q47, .int 0, .int 0]) hC hIn inIX1_init tyX1 tyX1_ok nmX1 rfl 0 (by decide) (uX1_init__o _ (List.mem_of_getElem? (l := owX1_init) (i := 5) rfl)) rfl (by decide +kernel) rfl rfl (Nat.le_of_ble_eq_true rfl) rfl dX1_init_9 12 rfl ?_
  refine y_aload_n hC dX1_init_12 0 rfl 13 rfl ?_
  refine y_iconst (v := (-1)) hC dX1_init_13 (by decide) 14 rfl ?_
  refine y_put (C := RX1) (T := TX1) (N := 3) (ci := 1) (ty := .int) (v := .int (-1)) (fs' := [.ref q47, .int (-1), .int 0]) hC hIn inIX1_init tyX1 tyX1_ok nmX1 rfl 1 (by decide) (uX1_init__o _ (List.mem_of_getElem? (l := owX1_init) (i := 6) rfl)) rfl (by decide +kernel) rfl rfl (Nat.le_of_ble_eq_true rfl) rfl dX1_init_14 17 rfl ?_
  refine y_aload_n hC dX1_init_17 0 rfl 18 rfl ?_
  refine y_iconst (v := 0) hC dX1_init_18 (by decide) 19 rfl ?_
  refine y_put (C := RX1) (T := TX1) (N := 3) (ci := 1) (ty := .int) (v := .int 0) (fs' := [.ref q47, .int (-1), .int 0]) hC hIn inIX1_init tyX1 tyX1_ok nmX1 rfl 2 (by decide) (uX1_init__o _ (List.mem_of_getElem? (l := owX1_init) (i := 7) rfl)) rfl (by decide +kernel) rfl rfl (Nat.le_of_ble_eq_true rfl) rfl dX1_init_19 22 rfl ?_
  obtain ⟨a, ha⟩ : ∃ a : Nat → Nat, a = fun k => cond (Nat.beq k 46) (h0) (cond (Nat.beq k 47) (q47) (0)) := ⟨_, rfl⟩
  obtain ⟨M, hM⟩ : ∃ M : MM, M = fun k => cond (Nat.beq k 46) (fun j => cond (Nat.beq j 1) ((-1)) (0)) (cond (Nat.beq k 47) (fun _ => 0) (fun _ => 0)) := ⟨_, rfl⟩
  have ha0 : a 46 = h0 := by rw [ha]; rfl
  refine YY.to (ws' := Wp g a [46, 47] M) (by subst ha; subst hM; rfl) ?_
  exact y_ret hR hC a M dX1_init_22 ha0 (by rw [hM]; exact ⟨rfl, rfl⟩) rfl rfl rfl
set_option maxHeartbeats 4000000 in
set_option maxRecDepth 100000 in
theorem ciX1_init_48 (l : Launch) (g : GG) : CI g l yX1_init wsX1_init ({ frames := 1, cells := 1, slots := 40, locals := 12 } : Room) (.inr (1, [.null, .int 0, .int 0])) 48 [48, 49] (shP 48) 1 40 := by
  refine mk_CI (cc := cX1_init) (maxL := 1) (by decide) rfl rfl (by decide) ?_
  intro z Qf h0 sz A hC hIn hR
  refine y_aload_n hC dX1_init_0 0 rfl 1 rfl ?_
  refine y_oinit hC (uX1_init__o _ (List.mem_of_getElem? (l := owX1_init) (i := 1) rfl)) (uX1_init__o _ (List.mem_of_getElem? (l := owX1_init) (i := 2) rfl)) (uX1_init__o _ (List.mem_of_getElem? (l := owX1_init) (i := 3) rfl)) (Nat.le_of_ble_eq_true rfl) (Nat.le_of_ble_eq_true rfl) dX1_init_1 4 rfl ?_
  refine y_aload_n hC dX1_init_4 0 rfl 5 rfl ?_
  refine y_bipush (v := 40) hC dX1_init_5 (by decide) 7 rfl ?_
  refine y_newa (ty := .int) (cT := gI g) (N := 40) (a0 := (40, .inl (fun _ => 0))) hC 0 rfl rfl (Or.inl rfl) (uX1_init__o _ (List.mem_of_getElem? (l := owX1_init) (i := 4) rfl)) (fun _ => rfl) (by decide) (by decide) (Nat.le_of_ble_eq_true rfl) (Nat.le_of_ble_eq_true rfl) (Nat.le_of_ble_eq_true rfl) dX1_init_7 9 rfl (fun q49 => ?_)
  refine y_put (C := RX1) (T := TX1) (N := 3) (ci := 1) (ty := .array .int) (v := .ref q49) (fs' := [.ref q49, .int 0, .int 0]) hC hIn inIX1_init tyX1 tyX1_ok nmX1 rfl 0 (by decide) (uX1_init__o _ (List.mem_of_getElem? (l := owX1_init) (i := 5) rfl)) rfl (by decide +kernel) rfl rfl (Nat.le_of_ble_eq_true rfl) rfl dX1_init_9 12 rfl ?_
  refine y_aload_n hC dX1_init_12 0 rfl 13 rfl ?_
  refine y_iconst (v := (-1)) hC dX1_init_13 (by decide) 14 rfl ?_
  refine y_put (C := RX1) (T := TX1) (N := 3) (ci := 1) (ty := .int) (v := .int (-1)) (fs' := [.ref q49, .int (-1), .int 0]) hC hIn inIX1_init tyX1 tyX1_ok nmX1 rfl 1 (by decide) (uX1_init__o _ (List.mem_of_getElem? (l := owX1_init) (i := 6) rfl)) rfl (by decide +kernel) rfl rfl (Nat.le_of_ble_eq_true rfl) rfl dX1_init_14 17 rfl ?_
  refine y_aload_n hC dX1_init_17 0 rfl 18 rfl ?_
  refine y_iconst (v := 0) hC dX1_init_18 (by decide) 19 rfl ?_
  refine y_put (C := RX1) (T := TX1) (N := 3) (ci := 1) (ty := .int) (v := .int 0) (fs' := [.ref q49, .int (-1), .int 0]) hC hIn inIX1_init tyX1 tyX1_ok nmX1 rfl 2 (by decide) (uX1_init__o _ (List.mem_of_getElem? (l := owX1_init) (i := 7) rfl)) rfl (by decide +kernel) rfl rfl (Nat.le_of_ble_eq_true rfl) rfl dX1_init_19 22 rfl ?_
  obtain ⟨a, ha⟩ : ∃ a : Nat → Nat, a = fun k => cond (Nat.beq k 48) (h0) (cond (Nat.beq k 49) (q49) (0)) := ⟨_, rfl⟩
  obtain ⟨M, hM⟩ : ∃ M : MM, M = fun k => cond (Nat.beq k 48) (fun j => cond (Nat.beq j 1) ((-1)) (0)) (cond (Nat.beq k 49) (fun _ => 0) (fun _ => 0)) := ⟨_, rfl⟩
  have ha0 : a 48 = h0 := by rw [ha]; rfl
  refine YY.to (ws' := Wp g a [48, 49] M) (by subst ha; subst hM; rfl) ?_
  exact y_ret hR hC a M dX1_init_22 ha0 (by rw [hM]; exact ⟨rfl, rfl⟩) rfl rfl rfl
set_option maxHeartbeats 4000000 in
set_option maxRecDepth 100000 in
theorem ciX1_init_50 (l : Launch) (g : GG) : CI g l yX1_init wsX1_init ({ frames := 1, cells := 1, slots := 40, locals := 12 } : Room) (.inr (1, [.null, .int 0, .int 0])) 50 [50, 51] (shP 50) 1 40 := by
  refine mk_CI (cc := cX1_init) (maxL := 1) (by decide) rfl rfl (by decide) ?_
  intro z Qf h0 sz A hC hIn hR
  refine y_aload_n hC dX1_init_0 0 rfl 1 rfl ?_
  refine y_oinit hC (uX1_init__o _ (List.mem_of_getElem? (l := owX1_init) (i := 1) rfl)) (uX1_init__o _ (List.mem_of_getElem? (l := owX1_init) (i := 2) rfl)) (uX1_init__o _ (List.mem_of_getElem? (l := owX1_init) (i := 3) rfl)) (Nat.le_of_ble_eq_true rfl) (Nat.le_of_ble_eq_true rfl) dX1_init_1 4 rfl ?_
  refine y_aload_n hC dX1_init_4 0 rfl 5 rfl ?_
  refine y_bipush (v := 40) hC dX1_init_5 (by decide) 7 rfl ?_
  refine y_newa (ty := .int) (cT := gI g) (N := 40) (a0 := (40, .inl (fun _ => 0))) hC 0 rfl rfl (Or.inl rfl) (uX1_init__o _ (List.mem_of_getElem? (l := owX1_init) (i := 4) rfl)) (fun _ => rfl) (by decide) (by decide) (Nat.le_of_ble_eq_true rfl) (Nat.le_of_ble_eq_true rfl) (Nat.le_of_ble_eq_true rfl) dX1_init_7 9 rfl (fun q51 => ?_)
  refine y_put (C := RX1) (T := TX1) (N := 3) (ci := 1) (ty := .array .int) (v := .ref q51) (fs' := [.ref q51, .int 0, .int 0]) hC hIn inIX1_init tyX1 tyX1_ok nmX1 rfl 0 (by decide) (uX1_init__o _ (List.mem_of_getElem? (l := owX1_init) (i := 5) rfl)) rfl (by decide +kernel) rfl rfl (Nat.le_of_ble_eq_true rfl) rfl dX1_init_9 12 rfl ?_
  refine y_aload_n hC dX1_init_12 0 rfl 13 rfl ?_
  refine y_iconst (v := (-1)) hC dX1_init_13 (by decide) 14 rfl ?_
  refine y_put (C := RX1) (T := TX1) (N := 3) (ci := 1) (ty := .int) (v := .int (-1)) (fs' := [.ref q51, .int (-1), .int 0]) hC hIn inIX1_init tyX1 tyX1_ok nmX1 rfl 1 (by decide) (uX1_init__o _ (List.mem_of_getElem? (l := owX1_init) (i := 6) rfl)) rfl (by decide +kernel) rfl rfl (Nat.le_of_ble_eq_true rfl) rfl dX1_init_14 17 rfl ?_
  refine y_aload_n hC dX1_init_17 0 rfl 18 rfl ?_
  refine y_iconst (v := 0) hC dX1_init_18 (by decide) 19 rfl ?_
  refine y_put (C := RX1) (T := TX1) (N := 3) (ci := 1) (ty := .int) (v := .int 0) (fs' := [.ref q51, .int (-1), .int 0]) hC hIn inIX1_init tyX1 tyX1_ok nmX1 rfl 2 (by decide) (uX1_init__o _ (List.mem_of_getElem? (l := owX1_init) (i := 7) rfl)) rfl (by decide +kernel) rfl rfl (Nat.le_of_ble_eq_true rfl) rfl dX1_init_19 22 rfl ?_
  obtain ⟨a, ha⟩ : ∃ a : Nat → Nat, a = fun k => cond (Nat.beq k 50) (h0) (cond (Nat.beq k 51) (q51) (0)) := ⟨_, rfl⟩
  obtain ⟨M, hM⟩ : ∃ M : MM, M = fun k => cond (Nat.beq k 50) (fun j => cond (Nat.beq j 1) ((-1)) (0)) (cond (Nat.beq k 51) (fun _ => 0) (fun _ => 0)) := ⟨_, rfl⟩
  have ha0 : a 50 = h0 := by rw [ha]; rfl
  refine YY.to (ws' := Wp g a [50, 51] M) (by subst ha; subst hM; rfl) ?_
  exact y_ret hR hC a M dX1_init_22 ha0 (by rw [hM]; exact ⟨rfl, rfl⟩) rfl rfl rfl
theorem inIX0_init : ∀ w ∈ u_ws RX0 TX0 6, w ∈ wsX0_init := uX0_init__wsX00
set_option maxHeartbeats 4000000 in
set_option maxRecDepth 100000 in
theorem ciX0_init_39 (l : Launch) (g : GG) : CI g l yX0_init wsX0_init ({ frames := 1, cells := 4, slots := 2136, locals := 12 } : Room) (.inr (0, [.null, .null, .null, .null, .int 0, .int 0])) 39 [39, 40, 41, 42, 43] (fun _ => True) 4 2136 := by
  refine mk_CI (cc := cX0_init) (maxL := 1) (by decide) rfl rfl (by decide) ?_
  intro z Qf h0 sz A hC hIn hR
  refine y_aload_n hC dX0_init_0 0 rfl 1 rfl ?_
  refine y_oinit hC (uX0_init__o _ (List.mem_of_getElem? (l := owX0_init) (i := 1) rfl)) (uX0_init__o _ (List.mem_of_getElem? (l := owX0_init) (i := 2) rfl)) (uX0_init__o _ (List.mem_of_getElem? (l := owX0_init) (i := 3) rfl)) (Nat.le_of_ble_eq_true rfl) (Nat.le_of_ble_eq_true rfl) dX0_init_1 4 rfl ?_
  refine y_aload_n hC dX0_init_4 0 rfl 5 rfl ?_
  refine y_bipush (v := 72) hC dX0_init_5 (by decide) 7 rfl ?_
  refine y_newa (ty := .int) (cT := gI g) (N := 72) (a0 := (72, .inl (fun _ => 0))) hC 0 rfl rfl (Or.inl rfl) (uX0_init__o _ (List.mem_of_getElem? (l := owX0_init) (i := 4) rfl)) (fun _ => rfl) (by decide) (by decide) (Nat.le_of_ble_eq_true rfl) (Nat.le_of_ble_eq_true rfl) (Nat.le_of_ble_eq_true rfl) dX0_init_7 9 rfl (fun q40 => ?_)
  refine y_put (C := RX0) (T := TX0) (N := 6) (ci := 0) (ty := .array .int) (v := .ref q40) (fs' := [.ref q40, .null, .null, .null, .int 0, .int 0]) hC hIn inIX0_init tyX0 tyX0_ok nmX0 rfl 0 (by decide) (uX0_init__o _ (List.mem_of_getElem? (l := owX0_init) (i := 5) rfl)) rfl (by decide +kernel) rfl rfl (Nat.le_of_ble_eq_true rfl) rfl dX0_init_9 12 rfl ?_
  refine y_aload_n hC dX0_init_12 0 rfl 13 rfl ?_
  refine y_sipush (v := 2048) hC dX0_init_13 (by decide) 16 rfl ?_
  refine y_newa (ty := .int) (cT := gI g) (N := 2048) (a0 := (2048, .inl (fun _ => 0))) hC 0 rfl rfl (Or.inl rfl) (uX0_init__o _ (List.mem_of_getElem? (l := owX0_init) (i := 4) rfl)) (fun _ => rfl) (by decide) (by decide) (Nat.le_of_ble_eq_true rfl) (Nat.le_of_ble_eq_true rfl) (Nat.le_of_ble_eq_true rfl) dX0_init_16 18 rfl (fun q41 => ?_)
  refine y_put (C := RX0) (T := TX0) (N := 6) (ci := 0) (ty := .array .int) (v := .ref q41) (fs' := [.ref q40, .ref q41, .null, .null, .int 0, .int 0]) hC hIn inIX0_init tyX0 tyX0_ok nmX0 rfl 1 (by decide) (uX0_init__o _ (List.mem_of_getElem? (l := owX0_init) (i := 6) rfl)) rfl (by decide +kernel) rfl rfl (Nat.le_of_ble_eq_true rfl) rfl dX0_init_18 21 rfl ?_
  refine y_aload_n hC dX0_init_21 0 rfl 22 rfl ?_
  refine y_bipush (v := 8) hC dX0_init_22 (by decide) 24 rfl ?_
  refine y_newa (ty := .int) (cT := gI g) (N := 8) (a0 := (8, .inl (fun _ => 0))) hC 0 rfl rfl (Or.inl rfl) (uX0_init__o _ (List.mem_of_getElem? (l := owX0_init) (i := 4) rfl)) (fun _ => rfl) (by decide) (by decide) (Nat.le_of_ble_eq_true rfl) (Nat.le_of_ble_eq_true rfl) (Nat.le_of_ble_eq_true rfl) dX0_init_24 26 rfl (fun q42 => ?_)
  refine y_put (C := RX0) (T := TX0) (N := 6) (ci := 0) (ty := .array .int) (v := .ref q42) (fs' := [.ref q40, .ref q41, .ref q42, .null, .int 0, .int 0]) hC hIn inIX0_init tyX0 tyX0_ok nmX0 rfl 2 (by decide) (uX0_init__o _ (List.mem_of_getElem? (l := owX0_init) (i := 7) rfl)) rfl (by decide +kernel) rfl rfl (Nat.le_of_ble_eq_true rfl) rfl dX0_init_26 29 rfl ?_
  refine y_aload_n hC dX0_init_29 0 rfl 30 rfl ?_
  refine y_bipush (v := 8) hC dX0_init_30 (by decide) 32 rfl ?_
  refine y_newa (ty := .int) (cT := gI g) (N := 8) (a0 := (8, .inl (fun _ => 0))) hC 0 rfl rfl (Or.inl rfl) (uX0_init__o _ (List.mem_of_getElem? (l := owX0_init) (i := 4) rfl)) (fun _ => rfl) (by decide) (by decide) (Nat.le_of_ble_eq_true rfl) (Nat.le_of_ble_eq_true rfl) (Nat.le_of_ble_eq_true rfl) dX0_init_32 34 rfl (fun q43 => ?_)
  refine y_put (C := RX0) (T := TX0) (N := 6) (ci := 0) (ty := .array .int) (v := .ref q43) (fs' := [.ref q40, .ref q41, .ref q42, .ref q43, .int 0, .int 0]) hC hIn inIX0_init tyX0 tyX0_ok nmX0 rfl 3 (by decide) (uX0_init__o _ (List.mem_of_getElem? (l := owX0_init) (i := 8) rfl)) rfl (by decide +kernel) rfl rfl (Nat.le_of_ble_eq_true rfl) rfl dX0_init_34 37 rfl ?_
  obtain ⟨a, ha⟩ : ∃ a : Nat → Nat, a = fun k => cond (Nat.beq k 39) (h0) (cond (Nat.beq k 40) (q40) (cond (Nat.beq k 41) (q41) (cond (Nat.beq k 42) (q42) (cond (Nat.beq k 43) (q43) (0))))) := ⟨_, rfl⟩
  obtain ⟨M, hM⟩ : ∃ M : MM, M = fun k => cond (Nat.beq k 39) (fun j => 0) (cond (Nat.beq k 40) (fun _ => 0) (cond (Nat.beq k 41) (fun _ => 0) (cond (Nat.beq k 42) (fun _ => 0) (cond (Nat.beq k 43) (fun _ => 0) (fun _ => 0))))) := ⟨_, rfl⟩
  have ha0 : a 39 = h0 := by rw [ha]; rfl
  refine YY.to (ws' := Wp g a [39, 40, 41, 42, 43] M) (by subst ha; subst hM; rfl) ?_
  exact y_ret hR hC a M dX0_init_37 ha0 True.intro rfl rfl rfl
theorem inIX3_init : ∀ w ∈ u_ws RX3 TX3 10, w ∈ wsX3_init := uX3_init__wsX30
theorem inIX3_init_X2 : ∀ w ∈ u_ws RX2 TX2 14, w ∈ wsX3_init := uX3_init__wsX20
theorem hfX2 : ∀ j, j < 14 → defaultValue (tyX2 j) = vp_V ([.null, .null, .null, .null, .null, .null, .null, .null, .int 0, .int 0, .int 0, .int 0, .int 0, .int 0]) j := by
  intro j hj
  rcases (show j = 0 ∨ j = 1 ∨ j = 2 ∨ j = 3 ∨ j = 4 ∨ j = 5 ∨ j = 6 ∨ j = 7 ∨ j = 8 ∨ j = 9 ∨ j = 10 ∨ j = 11 ∨ j = 12 ∨ j = 13 by omega) with rfl | rfl | rfl | rfl | rfl | rfl | rfl | rfl | rfl | rfl | rfl | rfl | rfl | rfl <;> rfl
theorem hdI_X2_init : yX2_init.cls ≠ "java/lang/invoke/MethodHandle" ∧ yX2_init.cls ≠ "java/lang/invoke/VarHandle" ∧ (parseMethodDescriptor yX2_init.desc).map (fun d => d.parameters.length) = some 0 := by decide +kernel
set_option maxHeartbeats 4000000 in
set_option maxRecDepth 100000 in
theorem ciX3_init_37 (l : Launch) (g : GG) : CI g l yX3_init wsX3_init ({ frames := 4, cells := 10, slots := 783, locals := 121 } : Room) (.inr (3, [.null, .null, .int 0, .int 0, .int 0, .int 0, .int 0, .int 0, .int 0, .int 0])) 37 [37, 38, 28, 29, 30, 31, 32, 33, 34, 35, 36] (fun M => M 37 2 = 0) 10 783 := by
  refine mk_CI (cc := cX3_init) (maxL := 1) (by decide) rfl rfl (by decide) ?_
  intro z Qf h0 sz A hC hIn hR
  refine y_aload_n hC dX3_init_0 0 rfl 1 rfl ?_
  refine y_oinit hC (uX3_init__o _ (List.mem_of_getElem? (l := owX3_init) (i := 1) rfl)) (uX3_init__X2_init _ (List.mem_of_getElem? (l := owX2_init) (i := 2) rfl)) (uX3_init__X2_init _ (List.mem_of_getElem? (l := owX2_init) (i := 3) rfl)) (Nat.le_of_ble_eq_true rfl) (Nat.le_of_ble_eq_true rfl) dX3_init_1 4 rfl ?_
  refine y_aload_n hC dX3_init_4 0 rfl 5 rfl ?_
  refine y_sipush (v := 400) hC dX3_init_5 (by decide) 8 rfl ?_
  refine y_newa (ty := .byte) (cT := gB g) (N := 400) (a0 := (400, .inl (fun _ => 0))) hC 1 rfl rfl (Or.inr (Or.inl rfl)) (uX3_init__o _ (List.mem_of_getElem? (l := owX3_init) (i := 2) rfl)) (fun _ => rfl) (by decide) (by decide) (Nat.le_of_ble_eq_true rfl) (Nat.le_of_ble_eq_true rfl) (Nat.le_of_ble_eq_true rfl) dX3_init_8 10 rfl (fun q38 => ?_)
  refine y_put (C := RX3) (T := TX3) (N := 10) (ci := 3) (ty := .array .byte) (v := .ref q38) (fs' := [.ref q38, .null, .int 0, .int 0, .int 0, .int 0, .int 0, .int 0, .int 0, .int 0]) hC hIn inIX3_init tyX3 tyX3_ok nmX3 rfl 0 (by decide) (uX3_init__o _ (List.mem_of_getElem? (l := owX3_init) (i := 3) rfl)) rfl (by decide +kernel) rfl rfl (Nat.le_of_ble_eq_true rfl) rfl dX3_init_10 13 rfl ?_
  refine y_aload_n hC dX3_init_13 0 rfl 14 rfl ?_
  refine y_new (C := RX2) (T := TX2) (N := 14) (ci := 2) (fs := [.null, .null, .null, .null, .null, .null, .null, .null, .int 0, .int 0, .int 0, .int 0, .int 0, .int 0]) hC inIX3_init_X2 tyX2 tyX2_ok (uX3_init__o _ (List.mem_of_getElem? (l := owX3_init) (i := 4) rfl)) (uX3_init__o _ (List.mem_of_getElem? (l := owX3_init) (i := 5) rfl)) (uX3_init__X2_init _ (List.mem_of_getElem? (l := owX2_init) (i := 15) rfl)) rfl hfX2 (Nat.le_of_ble_eq_true rfl) (Nat.le_of_ble_eq_true rfl) dX3_init_14 17 rfl (fun q28 => ?_)
  refine y_dup hC dX3_init_17 rfl 18 rfl ?_
  refine y_init hC (ciX2_init_28 (zl z) g) gX3_init_X2_init rfl ⟨rfl, rfl⟩ (uX3_init__X2_init _ (List.mem_of_getElem? (l := owX2_init) (i := 15) rfl)) (uX3_init__o _ (List.mem_of_getElem? (l := owX3_init) (i := 7) rfl)) (uX3_init__o _ (List.mem_of_getElem? (l := owX3_init) (i := 8) rfl)) rfl hdI_X2_init ⟨Nat.le_of_ble_eq_true rfl, Nat.le_of_ble_eq_true rfl⟩ ⟨Nat.le_of_ble_eq_true rfl, Nat.le_of_ble_eq_true rfl⟩ (Nat.le_of_ble_eq_true rfl) dX3_init_18 21 rfl (fun a28 M28 h28 p28 => ?_)
  rw [← h28]
  refine y_put (C := RX3) (T := TX3) (N := 10) (ci := 3) (ty := .object "TwoReels$Tape") (v := .ref (a28 28)) (fs' := [.ref q38, .ref (a28 28), .int 0, .int 0, .int 0, .int 0, .int 0, .int 0, .int 0, .int 0]) hC hIn inIX3_init tyX3 tyX3_ok nmX3 rfl 1 (by decide) (uX3_init__o _ (List.mem_of_getElem? (l := owX3_init) (i := 6) rfl)) rfl (by decide +kernel) rfl rfl (Nat.le_of_ble_eq_true rfl) rfl dX3_init_21 24 rfl ?_
  obtain ⟨a, ha⟩ : ∃ a : Nat → Nat, a = fun k => cond (Nat.beq k 37) (h0) (cond (Nat.beq k 38) (q38) (cond (Nat.ble 28 k && Nat.ble k 36) (a28 k) (0))) := ⟨_, rfl⟩
  obtain ⟨M, hM⟩ : ∃ M : MM, M = fun k => cond (Nat.beq k 37) (fun j => 0) (cond (Nat.beq k 38) (fun _ => 0) (cond (Nat.ble 28 k && Nat.ble k 36) (M28 k) (fun _ => 0))) := ⟨_, rfl⟩
  have ha0 : a 37 = h0 := by rw [ha]; rfl
  refine YY.to (ws' := Wp g a [37, 38, 28, 29, 30, 31, 32, 33, 34, 35, 36] M) (by subst ha; subst hM; rfl) ?_
  exact y_ret hR hC a M dX3_init_24 ha0 (by rw [hM]; exact rfl) rfl rfl rfl
theorem inIX4_init : ∀ w ∈ u_ws RX4 TX4 12, w ∈ wsX4_init := uX4_init__wsX40
theorem inIX4_init_X2 : ∀ w ∈ u_ws RX2 TX2 14, w ∈ wsX4_init := uX4_init__wsX20
theorem inIX4_init_X3 : ∀ w ∈ u_ws RX3 TX3 10, w ∈ wsX4_init := uX4_init__wsX30
theorem hfX3 : ∀ j, j < 10 → defaultValue (tyX3 j) = vp_V ([.null, .null, .int 0, .int 0, .int 0, .int 0, .int 0, .int 0, .int 0, .int 0]) j := by
  intro j hj
  rcases (show j = 0 ∨ j = 1 ∨ j = 2 ∨ j = 3 ∨ j = 4 ∨ j = 5 ∨ j = 6 ∨ j = 7 ∨ j = 8 ∨ j = 9 by omega) with rfl | rfl | rfl | rfl | rfl | rfl | rfl | rfl | rfl | rfl <;> rfl
theorem hdI_X3_init : yX3_init.cls ≠ "java/lang/invoke/MethodHandle" ∧ yX3_init.cls ≠ "java/lang/invoke/VarHandle" ∧ (parseMethodDescriptor yX3_init.desc).map (fun d => d.parameters.length) = some 0 := by decide +kernel
theorem inIX4_init_X0 : ∀ w ∈ u_ws RX0 TX0 6, w ∈ wsX4_init := uX4_init__wsX00
theorem hfX0 : ∀ j, j < 6 → defaultValue (tyX0 j) = vp_V ([.null, .null, .null, .null, .int 0, .int 0]) j := by
  intro j hj
  rcases (show j = 0 ∨ j = 1 ∨ j = 2 ∨ j = 3 ∨ j = 4 ∨ j = 5 by omega) with rfl | rfl | rfl | rfl | rfl | rfl <;> rfl
theorem hdI_X0_init : yX0_init.cls ≠ "java/lang/invoke/MethodHandle" ∧ yX0_init.cls ≠ "java/lang/invoke/VarHandle" ∧ (parseMethodDescriptor yX0_init.desc).map (fun d => d.parameters.length) = some 0 := by decide +kernel
theorem inIX4_init_X1 : ∀ w ∈ u_ws RX1 TX1 3, w ∈ wsX4_init := uX4_init__wsX10
theorem hfX1 : ∀ j, j < 3 → defaultValue (tyX1 j) = vp_V ([.null, .int 0, .int 0]) j := by
  intro j hj
  rcases (show j = 0 ∨ j = 1 ∨ j = 2 by omega) with rfl | rfl | rfl <;> rfl
theorem hdI_X1_init : yX1_init.cls ≠ "java/lang/invoke/MethodHandle" ∧ yX1_init.cls ≠ "java/lang/invoke/VarHandle" ∧ (parseMethodDescriptor yX1_init.desc).map (fun d => d.parameters.length) = some 0 := by decide +kernel
set_option maxHeartbeats 4000000 in
set_option maxRecDepth 100000 in
theorem ciX4_init_0 (l : Launch) (g : GG) : CI g l yX4_init wsX4_init ({ frames := 5, cells := 51, slots := 4256, locals := 141 } : Room) (.inr (4, [.null, .null, .null, .null, .null, .null, .null, .null, .null, .int 0, .int 0, .int 0])) 0 [0, 1, 2, 3, 4, 5, 6, 7, 8, 9, 37, 38, 28, 29, 30, 31, 32, 33, 34, 35, 36, 39, 40, 41, 42, 43, 10, 11, 12, 13, 14, 15, 16, 17, 18, 19, 20, 21, 22, 23, 24, 25, 26, 27, 44, 45, 46, 47, 48, 49, 50, 51] r4P 51 4256 := by
  refine mk_CI (cc := cX4_init) (maxL := 1) (by decide) rfl rfl (by decide) ?_
  intro z Qf h0 sz A hC hIn hR
  refine y_aload_n hC dX4_init_0 0 rfl 1 rfl ?_
  refine y_oinit hC (uX4_init__o _ (List.mem_of_getElem? (l := owX4_init) (i := 1) rfl)) (uX4_init__X2_init _ (List.mem_of_getElem? (l := owX2_init) (i := 2) rfl)) (uX4_init__X2_init _ (List.mem_of_getElem? (l := owX2_init) (i := 3) rfl)) (Nat.le_of_ble_eq_true rfl) (Nat.le_of_ble_eq_true rfl) dX4_init_1 4 rfl ?_
  refine y_aload_n hC dX4_init_4 0 rfl 5 rfl ?_
  refine y_new (C := RX2) (T := TX2) (N := 14) (ci := 2) (fs := [.null, .null, .null, .null, .null, .null, .null, .null, .int 0, .int 0, .int 0, .int 0, .int 0, .int 0]) hC inIX4_init_X2 tyX2 tyX2_ok (uX4_init__o _ (List.mem_of_getElem? (l := owX4_init) (i := 2) rfl)) (uX4_init__X3_init _ (List.mem_of_getElem? (l := owX3_init) (i := 5) rfl)) (uX4_init__X2_init _ (List.mem_of_getElem? (l := owX2_init) (i := 15) rfl)) rfl hfX2 (Nat.le_of_ble_eq_true rfl) (Nat.le_of_ble_eq_true rfl) dX4_init_5 8 rfl (fun q1 => ?_)
  refine y_dup hC dX4_init_8 rfl 9 rfl ?_
  refine y_init hC (ciX2_init_1 (zl z) g) gX4_init_X2_init rfl ⟨rfl, rfl⟩ (uX4_init__X2_init _ (List.mem_of_getElem? (l := owX2_init) (i := 15) rfl)) (uX4_init__o _ (List.mem_of_getElem? (l := owX4_init) (i := 24) rfl)) (uX4_init__X3_init _ (List.mem_of_getElem? (l := owX3_init) (i := 8) rfl)) rfl hdI_X2_init ⟨Nat.le_of_ble_eq_true rfl, Nat.le_of_ble_eq_true rfl⟩ ⟨Nat.le_of_ble_eq_true rfl, Nat.le_of_ble_eq_true rfl⟩ (Nat.le_of_ble_eq_true rfl) dX4_init_9 12 rfl (fun a1 M1 h1 p1 => ?_)
  rw [← h1]
  refine y_put (C := RX4) (T := TX4) (N := 12) (ci := 4) (ty := .object "TwoReels$Tape") (v := .ref (a1 1)) (fs' := [.ref (a1 1), .null, .null, .null, .null, .null, .null, .null, .null, .int 0, .int 0, .int 0]) hC hIn inIX4_init tyX4 tyX4_ok nmX4 rfl 0 (by decide) (uX4_init__o _ (List.mem_of_getElem? (l := owX4_init) (i := 3) rfl)) rfl (by decide +kernel) rfl rfl (Nat.le_of_ble_eq_true rfl) rfl dX4_init_12 15 rfl ?_
  refine y_aload_n hC dX4_init_15 0 rfl 16 rfl ?_
  refine y_new (C := RX3) (T := TX3) (N := 10) (ci := 3) (fs := [.null, .null, .int 0, .int 0, .int 0, .int 0, .int 0, .int 0, .int 0, .int 0]) hC inIX4_init_X3 tyX3 tyX3_ok (uX4_init__o _ (List.mem_of_getElem? (l := owX4_init) (i := 4) rfl)) (uX4_init__o _ (List.mem_of_getElem? (l := owX4_init) (i := 5) rfl)) (uX4_init__o _ (List.mem_of_getElem? (l := owX4_init) (i := 6) rfl)) rfl hfX3 (Nat.le_of_ble_eq_true rfl) (Nat.le_of_ble_eq_true rfl) dX4_init_16 19 rfl (fun q37 => ?_)
  refine y_dup hC dX4_init_19 rfl 20 rfl ?_
  refine y_initN hC (ciX3_init_37 (zl z) g) gX4_init_X3_init_n18 rfl ⟨rfl, rfl⟩ (uX4_init__o _ (List.mem_of_getElem? (l := owX4_init) (i := 6) rfl)) 14 rfl (uX4_init__o _ (List.mem_of_getElem? (l := owX4_init) (i := 25) rfl)) rfl hdI_X3_init ⟨Nat.le_of_ble_eq_true rfl, Nat.le_of_ble_eq_true rfl⟩ ⟨Nat.le_of_ble_eq_true rfl, Nat.le_of_ble_eq_true rfl⟩ (Nat.le_of_ble_eq_true rfl) dX4_init_20 23 rfl (fun a37 M37 h37 p37 => ?_)
  rw [← h37]
  refine y_put (C := RX4) (T := TX4) (N := 12) (ci := 4) (ty := .object "TwoReels$TextReader") (v := .ref (a37 37)) (fs' := [.ref (a1 1), .ref (a37 37), .null, .null, .null, .null, .null, .null, .null, .int 0, .int 0, .int 0]) hC hIn inIX4_init tyX4 tyX4_ok nmX4 rfl 1 (by decide) (uX4_init__o _ (List.mem_of_getElem? (l := owX4_init) (i := 7) rfl)) rfl (by decide +kernel) rfl rfl (Nat.le_of_ble_eq_true rfl) rfl dX4_init_23 26 rfl ?_
  refine y_aload_n hC dX4_init_26 0 rfl 27 rfl ?_
  refine y_new (C := RX0) (T := TX0) (N := 6) (ci := 0) (fs := [.null, .null, .null, .null, .int 0, .int 0]) hC inIX4_init_X0 tyX0 tyX0_ok (uX4_init__o _ (List.mem_of_getElem? (l := owX4_init) (i := 8) rfl)) (uX4_init__o _ (List.mem_of_getElem? (l := owX4_init) (i := 9) rfl)) (uX4_init__o _ (List.mem_of_getElem? (l := owX4_init) (i := 10) rfl)) rfl hfX0 (Nat.le_of_ble_eq_true rfl) (Nat.le_of_ble_eq_true rfl) dX4_init_27 30 rfl (fun q39 => ?_)
  refine y_dup hC dX4_init_30 rfl 31 rfl ?_
  refine y_initN hC (ciX0_init_39 (zl z) g) gX4_init_X0_init_n25 rfl ⟨rfl, rfl⟩ (uX4_init__o _ (List.mem_of_getElem? (l := owX4_init) (i := 10) rfl)) 15 rfl (uX4_init__o _ (List.mem_of_getElem? (l := owX4_init) (i := 26) rfl)) rfl hdI_X0_init ⟨Nat.le_of_ble_eq_true rfl, Nat.le_of_ble_eq_true rfl⟩ ⟨Nat.le_of_ble_eq_true rfl, Nat.le_of_ble_eq_true rfl⟩ (Nat.le_of_ble_eq_true rfl) dX4_init_31 34 rfl (fun a39 M39 h39 p39 => ?_)
  rw [← h39]
  refine y_put (C := RX4) (T := TX4) (N := 12) (ci := 4) (ty := .object "TwoReels$Route") (v := .ref (a39 39)) (fs' := [.ref (a1 1), .ref (a37 37), .ref (a39 39), .null, .null, .null, .null, .null, .null, .int 0, .int 0, .int 0]) hC hIn inIX4_init tyX4 tyX4_ok nmX4 rfl 2 (by decide) (uX4_init__o _ (List.mem_of_getElem? (l := owX4_init) (i := 11) rfl)) rfl (by decide +kernel) rfl rfl (Nat.le_of_ble_eq_true rfl) rfl dX4_init_34 37 rfl ?_
  refine y_aload_n hC dX4_init_37 0 rfl 38 rfl ?_
  refine y_new (C := RX2) (T := TX2) (N := 14) (ci := 2) (fs := [.null, .null, .null, .null, .null, .null, .null, .null, .int 0, .int 0, .int 0, .int 0, .int 0, .int 0]) hC inIX4_init_X2 tyX2 tyX2_ok (uX4_init__o _ (List.mem_of_getElem? (l := owX4_init) (i := 2) rfl)) (uX4_init__X3_init _ (List.mem_of_getElem? (l := owX3_init) (i := 5) rfl)) (uX4_init__X2_init _ (List.mem_of_getElem? (l := owX2_init) (i := 15) rfl)) rfl hfX2 (Nat.le_of_ble_eq_true rfl) (Nat.le_of_ble_eq_true rfl) dX4_init_38 41 rfl (fun q10 => ?_)
  refine y_dup hC dX4_init_41 rfl 42 rfl ?_
  refine y_init hC (ciX2_init_10 (zl z) g) gX4_init_X2_init rfl ⟨rfl, rfl⟩ (uX4_init__X2_init _ (List.mem_of_getElem? (l := owX2_init) (i := 15) rfl)) (uX4_init__o _ (List.mem_of_getElem? (l := owX4_init) (i := 24) rfl)) (uX4_init__X3_init _ (List.mem_of_getElem? (l := owX3_init) (i := 8) rfl)) rfl hdI_X2_init ⟨Nat.le_of_ble_eq_true rfl, Nat.le_of_ble_eq_true rfl⟩ ⟨Nat.le_of_ble_eq_true rfl, Nat.le_of_ble_eq_true rfl⟩ (Nat.le_of_ble_eq_true rfl) dX4_init_42 45 rfl (fun a10 M10 h10 p10 => ?_)
  rw [← h10]
  refine y_put (C := RX4) (T := TX4) (N := 12) (ci := 4) (ty := .object "TwoReels$Tape") (v := .ref (a10 10)) (fs' := [.ref (a1 1), .ref (a37 37), .ref (a39 39), .ref (a10 10), .null, .null, .null, .null, .null, .int 0, .int 0, .int 0]) hC hIn inIX4_init tyX4 tyX4_ok nmX4 rfl 3 (by decide) (uX4_init__o _ (List.mem_of_getElem? (l := owX4_init) (i := 12) rfl)) rfl (by decide +kernel) rfl rfl (Nat.le_of_ble_eq_true rfl) rfl dX4_init_45 48 rfl ?_
  refine y_aload_n hC dX4_init_48 0 rfl 49 rfl ?_
  refine y_new (C := RX2) (T := TX2) (N := 14) (ci := 2) (fs := [.null, .null, .null, .null, .null, .null, .null, .null, .int 0, .int 0, .int 0, .int 0, .int 0, .int 0]) hC inIX4_init_X2 tyX2 tyX2_ok (uX4_init__o _ (List.mem_of_getElem? (l := owX4_init) (i := 2) rfl)) (uX4_init__X3_init _ (List.mem_of_getElem? (l := owX3_init) (i := 5) rfl)) (uX4_init__X2_init _ (List.mem_of_getElem? (l := owX2_init) (i := 15) rfl)) rfl hfX2 (Nat.le_of_ble_eq_true rfl) (Nat.le_of_ble_eq_true rfl) dX4_init_49 52 rfl (fun q19 => ?_)
  refine y_dup hC dX4_init_52 rfl 53 rfl ?_
  refine y_init hC (ciX2_init_19 (zl z) g) gX4_init_X2_init rfl ⟨rfl, rfl⟩ (uX4_init__X2_init _ (List.mem_of_getElem? (l := owX2_init) (i := 15) rfl)) (uX4_init__o _ (List.mem_of_getElem? (l := owX4_init) (i := 24) rfl)) (uX4_init__X3_init _ (List.mem_of_getElem? (l := owX3_init) (i := 8) rfl)) rfl hdI_X2_init ⟨Nat.le_of_ble_eq_true rfl, Nat.le_of_ble_eq_true rfl⟩ ⟨Nat.le_of_ble_eq_true rfl, Nat.le_of_ble_eq_true rfl⟩ (Nat.le_of_ble_eq_true rfl) dX4_init_53 56 rfl (fun a19 M19 h19 p19 => ?_)
  rw [← h19]
  refine y_put (C := RX4) (T := TX4) (N := 12) (ci := 4) (ty := .object "TwoReels$Tape") (v := .ref (a19 19)) (fs' := [.ref (a1 1), .ref (a37 37), .ref (a39 39), .ref (a10 10), .ref (a19 19), .null, .null, .null, .null, .int 0, .int 0, .int 0]) hC hIn inIX4_init tyX4 tyX4_ok nmX4 rfl 4 (by decide) (uX4_init__o _ (List.mem_of_getElem? (l := owX4_init) (i := 13) rfl)) rfl (by decide +kernel) rfl rfl (Nat.le_of_ble_eq_true rfl) rfl dX4_init_56 59 rfl ?_
  refine y_aload_n hC dX4_init_59 0 rfl 60 rfl ?_
  refine y_new (C := RX1) (T := TX1) (N := 3) (ci := 1) (fs := [.null, .int 0, .int 0]) hC inIX4_init_X1 tyX1 tyX1_ok (uX4_init__o _ (List.mem_of_getElem? (l := owX4_init) (i := 14) rfl)) (uX4_init__o _ (List.mem_of_getElem? (l := owX4_init) (i := 15) rfl)) (uX4_init__o _ (List.mem_of_getElem? (l := owX4_init) (i := 16) rfl)) rfl hfX1 (Nat.le_of_ble_eq_true rfl) (Nat.le_of_ble_eq_true rfl) dX4_init_60 63 rfl (fun q44 => ?_)
  refine y_dup hC dX4_init_63 rfl 64 rfl ?_
  refine y_initN hC (ciX1_init_44 (zl z) g) gX4_init_X1_init_n38 rfl ⟨rfl, rfl⟩ (uX4_init__o _ (List.mem_of_getElem? (l := owX4_init) (i := 16) rfl)) 16 rfl (uX4_init__o _ (List.mem_of_getElem? (l := owX4_init) (i := 27) rfl)) rfl hdI_X1_init ⟨Nat.le_of_ble_eq_true rfl, Nat.le_of_ble_eq_true rfl⟩ ⟨Nat.le_of_ble_eq_true rfl, Nat.le_of_ble_eq_true rfl⟩ (Nat.le_of_ble_eq_true rfl) dX4_init_64 67 rfl (fun a44 M44 h44 p44 => ?_)
  rw [← h44]
  refine y_put (C := RX4) (T := TX4) (N := 12) (ci := 4) (ty := .object "TwoReels$Sheet") (v := .ref (a44 44)) (fs' := [.ref (a1 1), .ref (a37 37), .ref (a39 39), .ref (a10 10), .ref (a19 19), .ref (a44 44), .null, .null, .null, .int 0, .int 0, .int 0]) hC hIn inIX4_init tyX4 tyX4_ok nmX4 rfl 5 (by decide) (uX4_init__o _ (List.mem_of_getElem? (l := owX4_init) (i := 17) rfl)) rfl (by decide +kernel) rfl rfl (Nat.le_of_ble_eq_true rfl) rfl dX4_init_67 70 rfl ?_
  refine y_aload_n hC dX4_init_70 0 rfl 71 rfl ?_
  refine y_new (C := RX1) (T := TX1) (N := 3) (ci := 1) (fs := [.null, .int 0, .int 0]) hC inIX4_init_X1 tyX1 tyX1_ok (uX4_init__o _ (List.mem_of_getElem? (l := owX4_init) (i := 14) rfl)) (uX4_init__o _ (List.mem_of_getElem? (l := owX4_init) (i := 15) rfl)) (uX4_init__o _ (List.mem_of_getElem? (l := owX4_init) (i := 16) rfl)) rfl hfX1 (Nat.le_of_ble_eq_true rfl) (Nat.le_of_ble_eq_true rfl) dX4_init_71 74 rfl (fun q46 => ?_)
  refine y_dup hC dX4_init_74 rfl 75 rfl ?_
  refine y_initN hC (ciX1_init_46 (zl z) g) gX4_init_X1_init_n38 rfl ⟨rfl, rfl⟩ (uX4_init__o _ (List.mem_of_getElem? (l := owX4_init) (i := 16) rfl)) 16 rfl (uX4_init__o _ (List.mem_of_getElem? (l := owX4_init) (i := 27) rfl)) rfl hdI_X1_init ⟨Nat.le_of_ble_eq_true rfl, Nat.le_of_ble_eq_true rfl⟩ ⟨Nat.le_of_ble_eq_true rfl, Nat.le_of_ble_eq_true rfl⟩ (Nat.le_of_ble_eq_true rfl) dX4_init_75 78 rfl (fun a46 M46 h46 p46 => ?_)
  rw [← h46]
  refine y_put (C := RX4) (T := TX4) (N := 12) (ci := 4) (ty := .object "TwoReels$Sheet") (v := .ref (a46 46)) (fs' := [.ref (a1 1), .ref (a37 37), .ref (a39 39), .ref (a10 10), .ref (a19 19), .ref (a44 44), .ref (a46 46), .null, .null, .int 0, .int 0, .int 0]) hC hIn inIX4_init tyX4 tyX4_ok nmX4 rfl 6 (by decide) (uX4_init__o _ (List.mem_of_getElem? (l := owX4_init) (i := 18) rfl)) rfl (by decide +kernel) rfl rfl (Nat.le_of_ble_eq_true rfl) rfl dX4_init_78 81 rfl ?_
  refine y_aload_n hC dX4_init_81 0 rfl 82 rfl ?_
  refine y_new (C := RX1) (T := TX1) (N := 3) (ci := 1) (fs := [.null, .int 0, .int 0]) hC inIX4_init_X1 tyX1 tyX1_ok (uX4_init__o _ (List.mem_of_getElem? (l := owX4_init) (i := 14) rfl)) (uX4_init__o _ (List.mem_of_getElem? (l := owX4_init) (i := 15) rfl)) (uX4_init__o _ (List.mem_of_getElem? (l := owX4_init) (i := 16) rfl)) rfl hfX1 (Nat.le_of_ble_eq_true rfl) (Nat.le_of_ble_eq_true rfl) dX4_init_82 85 rfl (fun q48 => ?_)
  refine y_dup hC dX4_init_85 rfl 86 rfl ?_
  refine y_initN hC (ciX1_init_48 (zl z) g) gX4_init_X1_init_n38 rfl ⟨rfl, rfl⟩ (uX4_init__o _ (List.mem_of_getElem? (l := owX4_init) (i := 16) rfl)) 16 rfl (uX4_init__o _ (List.mem_of_getElem? (l := owX4_init) (i := 27) rfl)) rfl hdI_X1_init ⟨Nat.le_of_ble_eq_true rfl, Nat.le_of_ble_eq_true rfl⟩ ⟨Nat.le_of_ble_eq_true rfl, Nat.le_of_ble_eq_true rfl⟩ (Nat.le_of_ble_eq_true rfl) dX4_init_86 89 rfl (fun a48 M48 h48 p48 => ?_)
  rw [← h48]
  refine y_put (C := RX4) (T := TX4) (N := 12) (ci := 4) (ty := .object "TwoReels$Sheet") (v := .ref (a48 48)) (fs' := [.ref (a1 1), .ref (a37 37), .ref (a39 39), .ref (a10 10), .ref (a19 19), .ref (a44 44), .ref (a46 46), .ref (a48 48), .null, .int 0, .int 0, .int 0]) hC hIn inIX4_init tyX4 tyX4_ok nmX4 rfl 7 (by decide) (uX4_init__o _ (List.mem_of_getElem? (l := owX4_init) (i := 19) rfl)) rfl (by decide +kernel) rfl rfl (Nat.le_of_ble_eq_true rfl) rfl dX4_init_89 92 rfl ?_
  refine y_aload_n hC dX4_init_92 0 rfl 93 rfl ?_
  refine y_new (C := RX1) (T := TX1) (N := 3) (ci := 1) (fs := [.null, .int 0, .int 0]) hC inIX4_init_X1 tyX1 tyX1_ok (uX4_init__o _ (List.mem_of_getElem? (l := owX4_init) (i := 14) rfl)) (uX4_init__o _ (List.mem_of_getElem? (l := owX4_init) (i := 15) rfl)) (uX4_init__o _ (List.mem_of_getElem? (l := owX4_init) (i := 16) rfl)) rfl hfX1 (Nat.le_of_ble_eq_true rfl) (Nat.le_of_ble_eq_true rfl) dX4_init_93 96 rfl (fun q50 => ?_)
  refine y_dup hC dX4_init_96 rfl 97 rfl ?_
  refine y_initN hC (ciX1_init_50 (zl z) g) gX4_init_X1_init_n38 rfl ⟨rfl, rfl⟩ (uX4_init__o _ (List.mem_of_getElem? (l := owX4_init) (i := 16) rfl)) 16 rfl (uX4_init__o _ (List.mem_of_getElem? (l := owX4_init) (i := 27) rfl)) rfl hdI_X1_init ⟨Nat.le_of_ble_eq_true rfl, Nat.le_of_ble_eq_true rfl⟩ ⟨Nat.le_of_ble_eq_true rfl, Nat.le_of_ble_eq_true rfl⟩ (Nat.le_of_ble_eq_true rfl) dX4_init_97 100 rfl (fun a50 M50 h50 p50 => ?_)
  rw [← h50]
  refine y_put (C := RX4) (T := TX4) (N := 12) (ci := 4) (ty := .object "TwoReels$Sheet") (v := .ref (a50 50)) (fs' := [.ref (a1 1), .ref (a37 37), .ref (a39 39), .ref (a10 10), .ref (a19 19), .ref (a44 44), .ref (a46 46), .ref (a48 48), .ref (a50 50), .int 0, .int 0, .int 0]) hC hIn inIX4_init tyX4 tyX4_ok nmX4 rfl 8 (by decide) (uX4_init__o _ (List.mem_of_getElem? (l := owX4_init) (i := 20) rfl)) rfl (by decide +kernel) rfl rfl (Nat.le_of_ble_eq_true rfl) rfl dX4_init_100 103 rfl ?_
  refine y_aload_n hC dX4_init_103 0 rfl 104 rfl ?_
  refine y_iconst (v := 0) hC dX4_init_104 (by decide) 105 rfl ?_
  refine y_put (C := RX4) (T := TX4) (N := 12) (ci := 4) (ty := .int) (v := .int 0) (fs' := [.ref (a1 1), .ref (a37 37), .ref (a39 39), .ref (a10 10), .ref (a19 19), .ref (a44 44), .ref (a46 46), .ref (a48 48), .ref (a50 50), .int 0, .int 0, .int 0]) hC hIn inIX4_init tyX4 tyX4_ok nmX4 rfl 9 (by decide) (uX4_init__o _ (List.mem_of_getElem? (l := owX4_init) (i := 21) rfl)) rfl (by decide +kernel) rfl rfl (Nat.le_of_ble_eq_true rfl) rfl dX4_init_105 108 rfl ?_
  refine y_aload_n hC dX4_init_108 0 rfl 109 rfl ?_
  refine y_iconst (v := 0) hC dX4_init_109 (by decide) 110 rfl ?_
  refine y_put (C := RX4) (T := TX4) (N := 12) (ci := 4) (ty := .int) (v := .int 0) (fs' := [.ref (a1 1), .ref (a37 37), .ref (a39 39), .ref (a10 10), .ref (a19 19), .ref (a44 44), .ref (a46 46), .ref (a48 48), .ref (a50 50), .int 0, .int 0, .int 0]) hC hIn inIX4_init tyX4 tyX4_ok nmX4 rfl 10 (by decide) (uX4_init__o _ (List.mem_of_getElem? (l := owX4_init) (i := 22) rfl)) rfl (by decide +kernel) rfl rfl (Nat.le_of_ble_eq_true rfl) rfl dX4_init_110 113 rfl ?_
  refine y_aload_n hC dX4_init_113 0 rfl 114 rfl ?_
  refine y_iconst (v := 0) hC dX4_init_114 (by decide) 115 rfl ?_
  refine y_put (C := RX4) (T := TX4) (N := 12) (ci := 4) (ty := .int) (v := .int 0) (fs' := [.ref (a1 1), .ref (a37 37), .ref (a39 39), .ref (a10 10), .ref (a19 19), .ref (a44 44), .ref (a46 46), .ref (a48 48), .ref (a50 50), .int 0, .int 0, .int 0]) hC hIn inIX4_init tyX4 tyX4_ok nmX4 rfl 11 (by decide) (uX4_init__o _ (List.mem_of_getElem? (l := owX4_init) (i := 23) rfl)) rfl (by decide +kernel) rfl rfl (Nat.le_of_ble_eq_true rfl) rfl dX4_init_115 118 rfl ?_
  obtain ⟨a, ha⟩ : ∃ a : Nat → Nat, a = fun k => cond (Nat.beq k 0) (h0) (cond (Nat.ble 1 k && Nat.ble k 9) (a1 k) (cond (Nat.ble 28 k && Nat.ble k 38) (a37 k) (cond (Nat.ble 39 k && Nat.ble k 43) (a39 k) (cond (Nat.ble 10 k && Nat.ble k 18) (a10 k) (cond (Nat.ble 19 k && Nat.ble k 27) (a19 k) (cond (Nat.ble 44 k && Nat.ble k 45) (a44 k) (cond (Nat.ble 46 k && Nat.ble k 47) (a46 k) (cond (Nat.ble 48 k && Nat.ble k 49) (a48 k) (cond (Nat.ble 50 k && Nat.ble k 51) (a50 k) (0)))))))))) := ⟨_, rfl⟩
  obtain ⟨M, hM⟩ : ∃ M : MM, M = fun k => cond (Nat.beq k 0) (fun j => 0) (cond (Nat.ble 1 k && Nat.ble k 9) (M1 k) (cond (Nat.ble 28 k && Nat.ble k 38) (M37 k) (cond (Nat.ble 39 k && Nat.ble k 43) (M39 k) (cond (Nat.ble 10 k && Nat.ble k 18) (M10 k) (cond (Nat.ble 19 k && Nat.ble k 27) (M19 k) (cond (Nat.ble 44 k && Nat.ble k 45) (M44 k) (cond (Nat.ble 46 k && Nat.ble k 47) (M46 k) (cond (Nat.ble 48 k && Nat.ble k 49) (M48 k) (cond (Nat.ble 50 k && Nat.ble k 51) (M50 k) (fun _ => 0)))))))))) := ⟨_, rfl⟩
  have ha0 : a 0 = h0 := by rw [ha]; rfl
  refine YY.to (ws' := Wp g a [0, 1, 2, 3, 4, 5, 6, 7, 8, 9, 37, 38, 28, 29, 30, 31, 32, 33, 34, 35, 36, 39, 40, 41, 42, 43, 10, 11, 12, 13, 14, 15, 16, 17, 18, 19, 20, 21, 22, 23, 24, 25, 26, 27, 44, 45, 46, 47, 48, 49, 50, 51] M) (by subst ha; subst hM; rfl) ?_
  exact y_ret hR hC a M dX4_init_118 ha0 (by rw [hM]; exact ⟨p1, p37, p44, p46, p48, p50, rfl, rfl, rfl⟩) rfl rfl rfl
theorem inIX5_init : ∀ w ∈ u_ws RX5 TX5 26, w ∈ wsX5_init := uX5_init__wsX50
theorem hdI_X5_firstDraft : yX5_firstDraft.cls = RX5 ∧ yX5_firstDraft.cls ≠ "java/lang/invoke/MethodHandle" ∧ yX5_firstDraft.cls ≠ "java/lang/invoke/VarHandle" ∧ (parseMethodDescriptor yX5_firstDraft.desc).map (fun d => d.parameters.length) = some 0 := by decide +kernel
theorem hdI_X5_keepDraft : yX5_keepDraft.cls = RX5 ∧ yX5_keepDraft.cls ≠ "java/lang/invoke/MethodHandle" ∧ yX5_keepDraft.cls ≠ "java/lang/invoke/VarHandle" ∧ (parseMethodDescriptor yX5_keepDraft.desc).map (fun d => d.parameters.length) = some 0 := by decide +kernel
set_option maxHeartbeats 4000000 in
set_option maxRecDepth 100000 in
theorem ciX5_init_52 (l : Launch) (g : GG) : CI g l yX5_init wsX5_init ({ frames := 5, cells := 14, slots := 5304, locals := 110 } : Room) (.inr (5, [.null, .null, .null, .null, .int 0, .null, .null, .int 0, .null, .int 0, .int 0, .int 0, .int 0, .int 0, .int 0, .int 0, .null, .null, .null, .null, .int 0, .int 0, .null, .null, .null, .int 0])) 52 [52, 53, 54, 55, 56, 57, 58, 59, 60, 61, 62, 63, 64, 65, 66] r5P 14 5304 := by
  refine mk_CI (cc := cX5_init) (maxL := 2) (by decide) rfl rfl (by decide) ?_
  intro z Qf h0 sz A hC hIn hR
  refine y_aload_n hC dX5_init_0 0 rfl 1 rfl ?_
  refine y_oinit hC (uX5_init__o _ (List.mem_of_getElem? (l := owX5_init) (i := 1) rfl)) (uX5_init__o _ (List.mem_of_getElem? (l := owX5_init) (i := 2) rfl)) (uX5_init__o _ (List.mem_of_getElem? (l := owX5_init) (i := 3) rfl)) (Nat.le_of_ble_eq_true rfl) (Nat.le_of_ble_eq_true rfl) dX5_init_1 4 rfl ?_
  refine y_aload_n hC dX5_init_4 0 rfl 5 rfl ?_
  refine y_sipush (v := 1200) hC dX5_init_5 (by decide) 8 rfl ?_
  refine y_newa (ty := .int) (cT := gI g) (N := 1200) (a0 := (1200, .inl (fun _ => 0))) hC 0 rfl rfl (Or.inl rfl) (uX5_init__o _ (List.mem_of_getElem? (l := owX5_init) (i := 4) rfl)) (fun _ => rfl) (by decide) (by decide) (Nat.le_of_ble_eq_true rfl) (Nat.le_of_ble_eq_true rfl) (Nat.le_of_ble_eq_true rfl) dX5_init_8 10 rfl (fun q53 => ?_)
  refine y_put (C := RX5) (T := TX5) (N := 26) (ci := 5) (ty := .array .int) (v := .ref q53) (fs' := [.ref q53, .null, .null, .null, .int 0, .null, .null, .int 0, .null, .int 0, .int 0, .int 0, .int 0, .int 0, .int 0, .int 0, .null, .null, .null, .null, .int 0, .int 0, .null, .null, .null, .int 0]) hC hIn inIX5_init tyX5 tyX5_ok nmX5 rfl 0 (by decide) (uX5_init__X5_endOf _ (List.mem_of_getElem? (l := owX5_endOf) (i := 1) rfl)) rfl (by decide +kernel) rfl rfl (Nat.le_of_ble_eq_true rfl) rfl dX5_init_10 13 rfl ?_
  refine y_aload_n hC dX5_init_13 0 rfl 14 rfl ?_
  refine y_iconst (v := 2) hC dX5_init_14 (by decide) 15 rfl ?_
  refine y_newa (ty := .boolean) (cT := gZ g) (N := 2) (a0 := (2, .inl (fun _ => 0))) hC 2 rfl rfl (Or.inr (Or.inr rfl)) (uX5_init__o _ (List.mem_of_getElem? (l := owX5_init) (i := 5) rfl)) (fun _ => rfl) (by decide) (by decide) (Nat.le_of_ble_eq_true rfl) (Nat.le_of_ble_eq_true rfl) (Nat.le_of_ble_eq_true rfl) dX5_init_15 17 rfl (fun q54 => ?_)
  refine y_put (C := RX5) (T := TX5) (N := 26) (ci := 5) (ty := .array .boolean) (v := .ref q54) (fs' := [.ref q53, .ref q54, .null, .null, .int 0, .null, .null, .int 0, .null, .int 0, .int 0, .int 0, .int 0, .int 0, .int 0, .int 0, .null, .null, .null, .null, .int 0, .int 0, .null, .null, .null, .int 0]) hC hIn inIX5_init tyX5 tyX5_ok nmX5 rfl 1 (by decide) (uX5_init__X5_keepDraft _ (List.mem_of_getElem? (l := owX5_keepDraft) (i := 2) rfl)) rfl (by decide +kernel) rfl rfl (Nat.le_of_ble_eq_true rfl) rfl dX5_init_17 20 rfl ?_
  refine y_aload_n hC dX5_init_20 0 rfl 21 rfl ?_
  refine y_bipush (v := 9) hC dX5_init_21 (by decide) 23 rfl ?_
  refine y_newa (ty := .int) (cT := gI g) (N := 9) (a0 := (9, .inl (fun _ => 0))) hC 0 rfl rfl (Or.inl rfl) (uX5_init__o _ (List.mem_of_getElem? (l := owX5_init) (i := 4) rfl)) (fun _ => rfl) (by decide) (by decide) (Nat.le_of_ble_eq_true rfl) (Nat.le_of_ble_eq_true rfl) (Nat.le_of_ble_eq_true rfl) dX5_init_23 25 rfl (fun q55 => ?_)
  refine y_put (C := RX5) (T := TX5) (N := 26) (ci := 5) (ty := .array .int) (v := .ref q55) (fs' := [.ref q53, .ref q54, .ref q55, .null, .int 0, .null, .null, .int 0, .null, .int 0, .int 0, .int 0, .int 0, .int 0, .int 0, .int 0, .null, .null, .null, .null, .int 0, .int 0, .null, .null, .null, .int 0]) hC hIn inIX5_init tyX5 tyX5_ok nmX5 rfl 2 (by decide) (uX5_init__X5_longOf _ (List.mem_of_getElem? (l := owX5_longOf) (i := 1) rfl)) rfl (by decide +kernel) rfl rfl (Nat.le_of_ble_eq_true rfl) rfl dX5_init_25 28 rfl ?_
  refine y_aload_n hC dX5_init_28 0 rfl 29 rfl ?_
  refine y_bipush (v := 9) hC dX5_init_29 (by decide) 31 rfl ?_
  refine y_newa (ty := .int) (cT := gI g) (N := 9) (a0 := (9, .inl (fun _ => 0))) hC 0 rfl rfl (Or.inl rfl) (uX5_init__o _ (List.mem_of_getElem? (l := owX5_init) (i := 4) rfl)) (fun _ => rfl) (by decide) (by decide) (Nat.le_of_ble_eq_true rfl) (Nat.le_of_ble_eq_true rfl) (Nat.le_of_ble_eq_true rfl) dX5_init_31 33 rfl (fun q56 => ?_)
  refine y_put (C := RX5) (T := TX5) (N := 26) (ci := 5) (ty := .array .int) (v := .ref q56) (fs' := [.ref q53, .ref q54, .ref q55, .ref q56, .int 0, .null, .null, .int 0, .null, .int 0, .int 0, .int 0, .int 0, .int 0, .int 0, .int 0, .null, .null, .null, .null, .int 0, .int 0, .null, .null, .null, .int 0]) hC hIn inIX5_init tyX5 tyX5_ok nmX5 rfl 3 (by decide) (uX5_init__X5_firstDraft _ (List.mem_of_getElem? (l := owX5_firstDraft) (i := 1) rfl)) rfl (by decide +kernel) rfl rfl (Nat.le_of_ble_eq_true rfl) rfl dX5_init_33 36 rfl ?_
  refine y_aload_n hC dX5_init_36 0 rfl 37 rfl ?_
  refine y_bipush (v := 12) hC dX5_init_37 (by decide) 39 rfl ?_
  refine y_newa (ty := .int) (cT := gI g) (N := 12) (a0 := (12, .inl (fun _ => 0))) hC 0 rfl rfl (Or.inl rfl) (uX5_init__o _ (List.mem_of_getElem? (l := owX5_init) (i := 4) rfl)) (fun _ => rfl) (by decide) (by decide) (Nat.le_of_ble_eq_true rfl) (Nat.le_of_ble_eq_true rfl) (Nat.le_of_ble_eq_true rfl) dX5_init_39 41 rfl (fun q57 => ?_)
  refine y_put (C := RX5) (T := TX5) (N := 26) (ci := 5) (ty := .array .int) (v := .ref q57) (fs' := [.ref q53, .ref q54, .ref q55, .ref q56, .int 0, .ref q57, .null, .int 0, .null, .int 0, .int 0, .int 0, .int 0, .int 0, .int 0, .int 0, .null, .null, .null, .null, .int 0, .int 0, .null, .null, .null, .int 0]) hC hIn inIX5_init tyX5 tyX5_ok nmX5 rfl 5 (by decide) (uX5_init__X5_keepDraft _ (List.mem_of_getElem? (l := owX5_keepDraft) (i := 4) rfl)) rfl (by decide +kernel) rfl rfl (Nat.le_of_ble_eq_true rfl) rfl dX5_init_41 44 rfl ?_
  refine y_aload_n hC dX5_init_44 0 rfl 45 rfl ?_
  refine y_sipush (v := 144) hC dX5_init_45 (by decide) 48 rfl ?_
  refine y_newa (ty := .int) (cT := gI g) (N := 144) (a0 := (144, .inl (fun _ => 0))) hC 0 rfl rfl (Or.inl rfl) (uX5_init__o _ (List.mem_of_getElem? (l := owX5_init) (i := 4) rfl)) (fun _ => rfl) (by decide) (by decide) (Nat.le_of_ble_eq_true rfl) (Nat.le_of_ble_eq_true rfl) (Nat.le_of_ble_eq_true rfl) dX5_init_48 50 rfl (fun q58 => ?_)
  refine y_put (C := RX5) (T := TX5) (N := 26) (ci := 5) (ty := .array .int) (v := .ref q58) (fs' := [.ref q53, .ref q54, .ref q55, .ref q56, .int 0, .ref q57, .ref q58, .int 0, .null, .int 0, .int 0, .int 0, .int 0, .int 0, .int 0, .int 0, .null, .null, .null, .null, .int 0, .int 0, .null, .null, .null, .int 0]) hC hIn inIX5_init tyX5 tyX5_ok nmX5 rfl 6 (by decide) (uX5_init__X5_keepDraft _ (List.mem_of_getElem? (l := owX5_keepDraft) (i := 5) rfl)) rfl (by decide +kernel) rfl rfl (Nat.le_of_ble_eq_true rfl) rfl dX5_init_50 53 rfl ?_
  refine y_aload_n hC dX5_init_53 0 rfl 54 rfl ?_
  refine y_sipush (v := 400) hC dX5_init_54 (by decide) 57 rfl ?_
  refine y_newa (ty := .int) (cT := gI g) (N := 400) (a0 := (400, .inl (fun _ => 0))) hC 0 rfl rfl (Or.inl rfl) (uX5_init__o _ (List.mem_of_getElem? (l := owX5_init) (i := 4) rfl)) (fun _ => rfl) (by decide) (by decide) (Nat.le_of_ble_eq_true rfl) (Nat.le_of_ble_eq_true rfl) (Nat.le_of_ble_eq_true rfl) dX5_init_57 59 rfl (fun q59 => ?_)
  refine y_put (C := RX5) (T := TX5) (N := 26) (ci := 5) (ty := .array .int) (v := .ref q59) (fs' := [.ref q53, .ref q54, .ref q55, .ref q56, .int 0, .ref q57, .ref q58, .int 0, .ref q59, .int 0, .int 0, .int 0, .int 0, .int 0, .int 0, .int 0, .null, .null, .null, .null, .int 0, .int 0, .null, .null, .null, .int 0]) hC hIn inIX5_init tyX5 tyX5_ok nmX5 rfl 8 (by decide) (uX5_init__o _ (List.mem_of_getElem? (l := owX5_init) (i := 6) rfl)) rfl (by decide +kernel) rfl rfl (Nat.le_of_ble_eq_true rfl) rfl dX5_init_59 62 rfl ?_
  refine y_aload_n hC dX5_init_62 0 rfl 63 rfl ?_
  refine y_bipush (v := 12) hC dX5_init_63 (by decide) 65 rfl ?_
  refine y_newa (ty := .int) (cT := gI g) (N := 12) (a0 := (12, .inl (fun _ => 0))) hC 0 rfl rfl (Or.inl rfl) (uX5_init__o _ (List.mem_of_getElem? (l := owX5_init) (i := 4) rfl)) (fun _ => rfl) (by decide) (by decide) (Nat.le_of_ble_eq_true rfl) (Nat.le_of_ble_eq_true rfl) (Nat.le_of_ble_eq_true rfl) dX5_init_65 67 rfl (fun q60 => ?_)
  refine y_put (C := RX5) (T := TX5) (N := 26) (ci := 5) (ty := .array .int) (v := .ref q60) (fs' := [.ref q53, .ref q54, .ref q55, .ref q56, .int 0, .ref q57, .ref q58, .int 0, .ref q59, .int 0, .int 0, .int 0, .int 0, .int 0, .int 0, .int 0, .ref q60, .null, .null, .null, .int 0, .int 0, .null, .null, .null, .int 0]) hC hIn inIX5_init tyX5 tyX5_ok nmX5 rfl 16 (by decide) (uX5_init__X5_lays _ (List.mem_of_getElem? (l := owX5_lays) (i := 1) rfl)) rfl (by decide +kernel) rfl rfl (Nat.le_of_ble_eq_true rfl) rfl dX5_init_67 70 rfl ?_
  refine y_aload_n hC dX5_init_70 0 rfl 71 rfl ?_
  refine y_bipush (v := 12) hC dX5_init_71 (by decide) 73 rfl ?_
  refine y_newa (ty := .int) (cT := gI g) (N := 12) (a0 := (12, .inl (fun _ => 0))) hC 0 rfl rfl (Or.inl rfl) (uX5_init__o _ (List.mem_of_getElem? (l := owX5_init) (i := 4) rfl)) (fun _ => rfl) (by decide) (by decide) (Nat.le_of_ble_eq_true rfl) (Nat.le_of_ble_eq_true rfl) (Nat.le_of_ble_eq_true rfl) dX5_init_73 75 rfl (fun q61 => ?_)
  refine y_put (C := RX5) (T := TX5) (N := 26) (ci := 5) (ty := .array .int) (v := .ref q61) (fs' := [.ref q53, .ref q54, .ref q55, .ref q56, .int 0, .ref q57, .ref q58, .int 0, .ref q59, .int 0, .int 0, .int 0, .int 0, .int 0, .int 0, .int 0, .ref q60, .ref q61, .null, .null, .int 0, .int 0, .null, .null, .null, .int 0]) hC hIn inIX5_init tyX5 tyX5_ok nmX5 rfl 17 (by decide) (uX5_init__o _ (List.mem_of_getElem? (l := owX5_init) (i := 7) rfl)) rfl (by decide +kernel) rfl rfl (Nat.le_of_ble_eq_true rfl) rfl dX5_init_75 78 rfl ?_
  refine y_aload_n hC dX5_init_78 0 rfl 79 rfl ?_
  refine y_sipush (v := 3328) hC dX5_init_79 (by decide) 82 rfl ?_
  refine y_newa (ty := .int) (cT := gI g) (N := 3328) (a0 := (3328, .inl (fun _ => 0))) hC 0 rfl rfl (Or.inl rfl) (uX5_init__o _ (List.mem_of_getElem? (l := owX5_init) (i := 4) rfl)) (fun _ => rfl) (by decide) (by decide) (Nat.le_of_ble_eq_true rfl) (Nat.le_of_ble_eq_true rfl) (Nat.le_of_ble_eq_true rfl) dX5_init_82 84 rfl (fun q62 => ?_)
  refine y_put (C := RX5) (T := TX5) (N := 26) (ci := 5) (ty := .array .int) (v := .ref q62) (fs' := [.ref q53, .ref q54, .ref q55, .ref q56, .int 0, .ref q57, .ref q58, .int 0, .ref q59, .int 0, .int 0, .int 0, .int 0, .int 0, .int 0, .int 0, .ref q60, .ref q61, .ref q62, .null, .int 0, .int 0, .null, .null, .null, .int 0]) hC hIn inIX5_init tyX5 tyX5_ok nmX5 rfl 18 (by decide) (uX5_init__o _ (List.mem_of_getElem? (l := owX5_init) (i := 8) rfl)) rfl (by decide +kernel) rfl rfl (Nat.le_of_ble_eq_true rfl) rfl dX5_init_84 87 rfl ?_
  refine y_aload_n hC dX5_init_87 0 rfl 88 rfl ?_
  refine y_bipush (v := 8) hC dX5_init_88 (by decide) 90 rfl ?_
  refine y_newa (ty := .int) (cT := gI g) (N := 8) (a0 := (8, .inl (fun _ => 0))) hC 0 rfl rfl (Or.inl rfl) (uX5_init__o _ (List.mem_of_getElem? (l := owX5_init) (i := 4) rfl)) (fun _ => rfl) (by decide) (by decide) (Nat.le_of_ble_eq_true rfl) (Nat.le_of_ble_eq_true rfl) (Nat.le_of_ble_eq_true rfl) dX5_init_90 92 rfl (fun q63 => ?_)
  refine y_put (C := RX5) (T := TX5) (N := 26) (ci := 5) (ty := .array .int) (v := .ref q63) (fs' := [.ref q53, .ref q54, .ref q55, .ref q56, .int 0, .ref q57, .ref q58, .int 0, .ref q59, .int 0, .int 0, .int 0, .int 0, .int 0, .int 0, .int 0, .ref q60, .ref q61, .ref q62, .ref q63, .int 0, .int 0, .null, .null, .null, .int 0]) hC hIn inIX5_init tyX5 tyX5_ok nmX5 rfl 19 (by decide) (uX5_init__o _ (List.mem_of_getElem? (l := owX5_init) (i := 9) rfl)) rfl (by decide +kernel) rfl rfl (Nat.le_of_ble_eq_true rfl) rfl dX5_init_92 95 rfl ?_
  refine y_aload_n hC dX5_init_95 0 rfl 96 rfl ?_
  refine y_iconst (v := 4) hC dX5_init_96 (by decide) 97 rfl ?_
  refine y_newa (ty := .int) (cT := gI g) (N := 4) (a0 := (4, .inl (fun _ => 0))) hC 0 rfl rfl (Or.inl rfl) (uX5_init__o _ (List.mem_of_getElem? (l := owX5_init) (i := 4) rfl)) (fun _ => rfl) (by decide) (by decide) (Nat.le_of_ble_eq_true rfl) (Nat.le_of_ble_eq_true rfl) (Nat.le_of_ble_eq_true rfl) dX5_init_97 99 rfl (fun q64 => ?_)
  refine y_put (C := RX5) (T := TX5) (N := 26) (ci := 5) (ty := .array .int) (v := .ref q64) (fs' := [.ref q53, .ref q54, .ref q55, .ref q56, .int 0, .ref q57, .ref q58, .int 0, .ref q59, .int 0, .int 0, .int 0, .int 0, .int 0, .int 0, .int 0, .ref q60, .ref q61, .ref q62, .ref q63, .int 0, .int 0, .ref q64, .null, .null, .int 0]) hC hIn inIX5_init tyX5 tyX5_ok nmX5 rfl 22 (by decide) (uX5_init__o _ (List.mem_of_getElem? (l := owX5_init) (i := 10) rfl)) rfl (by decide +kernel) rfl rfl (Nat.le_of_ble_eq_true rfl) rfl dX5_init_99 102 rfl ?_
  refine y_aload_n hC dX5_init_102 0 rfl 103 rfl ?_
  refine y_iconst (v := 4) hC dX5_init_103 (by decide) 104 rfl ?_
  refine y_newa (ty := .int) (cT := gI g) (N := 4) (a0 := (4, .inl (fun _ => 0))) hC 0 rfl rfl (Or.inl rfl) (uX5_init__o _ (List.mem_of_getElem? (l := owX5_init) (i := 4) rfl)) (fun _ => rfl) (by decide) (by decide) (Nat.le_of_ble_eq_true rfl) (Nat.le_of_ble_eq_true rfl) (Nat.le_of_ble_eq_true rfl) dX5_init_104 106 rfl (fun q65 => ?_)
  refine y_put (C := RX5) (T := TX5) (N := 26) (ci := 5) (ty := .array .int) (v := .ref q65) (fs' := [.ref q53, .ref q54, .ref q55, .ref q56, .int 0, .ref q57, .ref q58, .int 0, .ref q59, .int 0, .int 0, .int 0, .int 0, .int 0, .int 0, .int 0, .ref q60, .ref q61, .ref q62, .ref q63, .int 0, .int 0, .ref q64, .ref q65, .null, .int 0]) hC hIn inIX5_init tyX5 tyX5_ok nmX5 rfl 23 (by decide) (uX5_init__o _ (List.mem_of_getElem? (l := owX5_init) (i := 11) rfl)) rfl (by decide +kernel) rfl rfl (Nat.le_of_ble_eq_true rfl) rfl dX5_init_106 109 rfl ?_
  refine y_aload_n hC dX5_init_109 0 rfl 110 rfl ?_
  refine y_sipush (v := 160) hC dX5_init_110 (by decide) 113 rfl ?_
  refine y_newa (ty := .int) (cT := gI g) (N := 160) (a0 := (160, .inl (fun _ => 0))) hC 0 rfl rfl (Or.inl rfl) (uX5_init__o _ (List.mem_of_getElem? (l := owX5_init) (i := 4) rfl)) (fun _ => rfl) (by decide) (by decide) (Nat.le_of_ble_eq_true rfl) (Nat.le_of_ble_eq_true rfl) (Nat.le_of_ble_eq_true rfl) dX5_init_113 115 rfl (fun q66 => ?_)
  refine y_put (C := RX5) (T := TX5) (N := 26) (ci := 5) (ty := .array .int) (v := .ref q66) (fs' := [.ref q53, .ref q54, .ref q55, .ref q56, .int 0, .ref q57, .ref q58, .int 0, .ref q59, .int 0, .int 0, .int 0, .int 0, .int 0, .int 0, .int 0, .ref q60, .ref q61, .ref q62, .ref q63, .int 0, .int 0, .ref q64, .ref q65, .ref q66, .int 0]) hC hIn inIX5_init tyX5 tyX5_ok nmX5 rfl 24 (by decide) (uX5_init__o _ (List.mem_of_getElem? (l := owX5_init) (i := 12) rfl)) rfl (by decide +kernel) rfl rfl (Nat.le_of_ble_eq_true rfl) rfl dX5_init_115 118 rfl ?_
  refine y_iconst (v := 0) hC dX5_init_118 (by decide) 119 rfl ?_
  refine y_istore_n (L' := [(1, .int 0), (0, .ref h0)]) hC dX5_init_119 (by decide) rfl 120 rfl ?_
  refine y_iload_n hC dX5_init_120 0 rfl 121 rfl ?_
  refine y_iconst (v := 4) hC dX5_init_121 (by decide) 122 rfl ?_
  refine y_icmp_geF (tgt := 139) hC dX5_init_122 (by decide) 125 rfl (by decide) ?_
  refine y_aload_n hC dX5_init_125 1 rfl 126 rfl ?_
  refine y_get (C := RX5) (T := TX5) (N := 26) (ci := 5) (v := .ref q64) hC inIX5_init rfl 22 (by decide) (uX5_init__o _ (List.mem_of_getElem? (l := owX5_init) (i := 10) rfl)) rfl rfl dX5_init_126 129 rfl ?_
  refine y_iload_n hC dX5_init_129 0 rfl 130 rfl ?_
  refine y_bipush (v := (-4)) hC dX5_init_130 (by decide) 132 rfl ?_
  refine y_iast (N := 4) (f' := upd (fun _ => 0) 0 (-4)) (ws' := [(h0, .inr (5, [.ref q53, .ref q54, .ref q55, .ref q56, .int 0, .ref q57, .ref q58, .int 0, .ref q59, .int 0, .int 0, .int 0, .int 0, .int 0, .int 0, .int 0, .ref q60, .ref q61, .ref q62, .ref q63, .int 0, .int 0, .ref q64, .ref q65, .ref q66, .int 0])), (q53, .inl (gI g, 1200, .inl (fun _ => 0))), (q54, .inl (gZ g, 2, .inl (fun _ => 0))), (q55, .inl (gI g, 9, .inl (fun _ => 0))), (q56, .inl (gI g, 9, .inl (fun _ => 0))), (q57, .inl (gI g, 12, .inl (fun _ => 0))), (q58, .inl (gI g, 144, .inl (fun _ => 0))), (q59, .inl (gI g, 400, .inl (fun _ => 0))), (q60, .inl (gI g, 12, .inl (fun _ => 0))), (q61, .inl (gI g, 12, .inl (fun _ => 0))), (q62, .inl (gI g, 3328, .inl (fun _ => 0))), (q63, .inl (gI g, 8, .inl (fun _ => 0))), (q64, .inl (gI g, 4, .inl (upd (fun _ => 0) 0 (-4)))), (q65, .inl (gI g, 4, .inl (fun _ => 0))), (q66, .inl (gI g, 160, .inl (fun _ => 0)))]) hC 12 rfl (vp_nI (n := 0) (by decide) (by decide)) rfl rfl dX5_init_132 133 rfl ?_
  refine y_iinc (v := 1) (L' := [(1, .int 1), (0, .ref h0)]) hC dX5_init_133 0 rfl (by decide) (by decide) rfl 136 rfl ?_
  refine y_goto hC 120 dX5_init_136 (by decide) ?_
  refine y_iload_n hC dX5_init_120 0 rfl 121 rfl ?_
  refine y_iconst (v := 4) hC dX5_init_121 (by decide) 122 rfl ?_
  refine y_icmp_geF (tgt := 139) hC dX5_init_122 (by decide) 125 rfl (by decide) ?_
  refine y_aload_n hC dX5_init_125 1 rfl 126 rfl ?_
  refine y_get (C := RX5) (T := TX5) (N := 26) (ci := 5) (v := .ref q64) hC inIX5_init rfl 22 (by decide) (uX5_init__o _ (List.mem_of_getElem? (l := owX5_init) (i := 10) rfl)) rfl rfl dX5_init_126 129 rfl ?_
  refine y_iload_n hC dX5_init_129 0 rfl 130 rfl ?_
  refine y_bipush (v := (-4)) hC dX5_init_130 (by decide) 132 rfl ?_
  refine y_iast (N := 4) (f' := upd (upd (fun _ => 0) 0 (-4)) 1 (-4)) (ws' := [(h0, .inr (5, [.ref q53, .ref q54, .ref q55, .ref q56, .int 0, .ref q57, .ref q58, .int 0, .ref q59, .int 0, .int 0, .int 0, .int 0, .int 0, .int 0, .int 0, .ref q60, .ref q61, .ref q62, .ref q63, .int 0, .int 0, .ref q64, .ref q65, .ref q66, .int 0])), (q53, .inl (gI g, 1200, .inl (fun _ => 0))), (q54, .inl (gZ g, 2, .inl (fun _ => 0))), (q55, .inl (gI g, 9, .inl (fun _ => 0))), (q56, .inl (gI g, 9, .inl (fun _ => 0))), (q57, .inl (gI g, 12, .inl (fun _ => 0))), (q58, .inl (gI g, 144, .inl (fun _ => 0))), (q59, .inl (gI g, 400, .inl (fun _ => 0))), (q60, .inl (gI g, 12, .inl (fun _ => 0))), (q61, .inl (gI g, 12, .inl (fun _ => 0))), (q62, .inl (gI g, 3328, .inl (fun _ => 0))), (q63, .inl (gI g, 8, .inl (fun _ => 0))), (q64, .inl (gI g, 4, .inl (upd (upd (fun _ => 0) 0 (-4)) 1 (-4)))), (q65, .inl (gI g, 4, .inl (fun _ => 0))), (q66, .inl (gI g, 160, .inl (fun _ => 0)))]) hC 12 rfl (vp_nI (n := 1) (by decide) (by decide)) rfl rfl dX5_init_132 133 rfl ?_
  refine y_iinc (v := 2) (L' := [(1, .int 2), (0, .ref h0)]) hC dX5_init_133 0 rfl (by decide) (by decide) rfl 136 rfl ?_
  refine y_goto hC 120 dX5_init_136 (by decide) ?_
  refine y_iload_n hC dX5_init_120 0 rfl 121 rfl ?_
  refine y_iconst (v := 4) hC dX5_init_121 (by decide) 122 rfl ?_
  refine y_icmp_geF (tgt := 139) hC dX5_init_122 (by decide) 125 rfl (by decide) ?_
  refine y_aload_n hC dX5_init_125 1 rfl 126 rfl ?_
  refine y_get (C := RX5) (T := TX5) (N := 26) (ci := 5) (v := .ref q64) hC inIX5_init rfl 22 (by decide) (uX5_init__o _ (List.mem_of_getElem? (l := owX5_init) (i := 10) rfl)) rfl rfl dX5_init_126 129 rfl ?_
  refine y_iload_n hC dX5_init_129 0 rfl 130 rfl ?_
  refine y_bipush (v := (-4)) hC dX5_init_130 (by decide) 132 rfl ?_
  refine y_iast (N := 4) (f' := upd (upd (upd (fun _ => 0) 0 (-4)) 1 (-4)) 2 (-4)) (ws' := [(h0, .inr (5, [.ref q53, .ref q54, .ref q55, .ref q56, .int 0, .ref q57, .ref q58, .int 0, .ref q59, .int 0, .int 0, .int 0, .int 0, .int 0, .int 0, .int 0, .ref q60, .ref q61, .ref q62, .ref q63, .int 0, .int 0, .ref q64, .ref q65, .ref q66, .int 0])), (q53, .inl (gI g, 1200, .inl (fun _ => 0))), (q54, .inl (gZ g, 2, .inl (fun _ => 0))), (q55, .inl (gI g, 9, .inl (fun _ => 0))), (q56, .inl (gI g, 9, .inl (fun _ => 0))), (q57, .inl (gI g, 12, .inl (fun _ => 0))), (q58, .inl (gI g, 144, .inl (fun _ => 0))), (q59, .inl (gI g, 400, .inl (fun _ => 0))), (q60, .inl (gI g, 12, .inl (fun _ => 0))), (q61, .inl (gI g, 12, .inl (fun _ => 0))), (q62, .inl (gI g, 3328, .inl (fun _ => 0))), (q63, .inl (gI g, 8, .inl (fun _ => 0))), (q64, .inl (gI g, 4, .inl (upd (upd (upd (fun _ => 0) 0 (-4)) 1 (-4)) 2 (-4)))), (q65, .inl (gI g, 4, .inl (fun _ => 0))), (q66, .inl (gI g, 160, .inl (fun _ => 0)))]) hC 12 rfl (vp_nI (n := 2) (by decide) (by decide)) rfl rfl dX5_init_132 133 rfl ?_
  refine y_iinc (v := 3) (L' := [(1, .int 3), (0, .ref h0)]) hC dX5_init_133 0 rfl (by decide) (by decide) rfl 136 rfl ?_
  refine y_goto hC 120 dX5_init_136 (by decide) ?_
  refine y_iload_n hC dX5_init_120 0 rfl 121 rfl ?_
  refine y_iconst (v := 4) hC dX5_init_121 (by decide) 122 rfl ?_
  refine y_icmp_geF (tgt := 139) hC dX5_init_122 (by decide) 125 rfl (by decide) ?_
  refine y_aload_n hC dX5_init_125 1 rfl 126 rfl ?_
  refine y_get (C := RX5) (T := TX5) (N := 26) (ci := 5) (v := .ref q64) hC inIX5_init rfl 22 (by decide) (uX5_init__o _ (List.mem_of_getElem? (l := owX5_init) (i := 10) rfl)) rfl rfl dX5_init_126 129 rfl ?_
  refine y_iload_n hC dX5_init_129 0 rfl 130 rfl ?_
  refine y_bipush (v := (-4)) hC dX5_init_130 (by decide) 132 rfl ?_
  refine y_iast (N := 4) (f' := upd (upd (upd (upd (fun _ => 0) 0 (-4)) 1 (-4)) 2 (-4)) 3 (-4)) (ws' := [(h0, .inr (5, [.ref q53, .ref q54, .ref q55, .ref q56, .int 0, .ref q57, .ref q58, .int 0, .ref q59, .int 0, .int 0, .int 0, .int 0, .int 0, .int 0, .int 0, .ref q60, .ref q61, .ref q62, .ref q63, .int 0, .int 0, .ref q64, .ref q65, .ref q66, .int 0])), (q53, .inl (gI g, 1200, .inl (fun _ => 0))), (q54, .inl (gZ g, 2, .inl (fun _ => 0))), (q55, .inl (gI g, 9, .inl (fun _ => 0))), (q56, .inl (gI g, 9, .inl (fun _ => 0))), (q57, .inl (gI g, 12, .inl (fun _ => 0))), (q58, .inl (gI g, 144, .inl (fun _ => 0))), (q59, .inl (gI g, 400, .inl (fun _ => 0))), (q60, .inl (gI g, 12, .inl (fun _ => 0))), (q61, .inl (gI g, 12, .inl (fun _ => 0))), (q62, .inl (gI g, 3328, .inl (fun _ => 0))), (q63, .inl (gI g, 8, .inl (fun _ => 0))), (q64, .inl (gI g, 4, .inl (upd (upd (upd (upd (fun _ => 0) 0 (-4)) 1 (-4)) 2 (-4)) 3 (-4)))), (q65, .inl (gI g, 4, .inl (fun _ => 0))), (q66, .inl (gI g, 160, .inl (fun _ => 0)))]) hC 12 rfl (vp_nI (n := 3) (by decide) (by decide)) rfl rfl dX5_init_132 133 rfl ?_
  refine y_iinc (v := 4) (L' := [(1, .int 4), (0, .ref h0)]) hC dX5_init_133 0 rfl (by decide) (by decide) rfl 136 rfl ?_
  refine y_goto hC 120 dX5_init_136 (by decide) ?_
  refine y_iload_n hC dX5_init_120 0 rfl 121 rfl ?_
  refine y_iconst (v := 4) hC dX5_init_121 (by decide) 122 rfl ?_
  refine y_icmp_geT hC 139 dX5_init_122 (by decide) (by decide) ?_
  refine y_aload_n hC dX5_init_139 1 rfl 140 rfl ?_
  obtain ⟨a, ha⟩ : ∃ a : Nat → Nat, a = fun k => cond (Nat.beq k 52) (h0) (cond (Nat.beq k 53) (q53) (cond (Nat.beq k 54) (q54) (cond (Nat.beq k 55) (q55) (cond (Nat.beq k 56) (q56) (cond (Nat.beq k 57) (q57) (cond (Nat.beq k 58) (q58) (cond (Nat.beq k 59) (q59) (cond (Nat.beq k 60) (q60) (cond (Nat.beq k 61) (q61) (cond (Nat.beq k 62) (q62) (cond (Nat.beq k 63) (q63) (cond (Nat.beq k 64) (q64) (cond (Nat.beq k 65) (q65) (cond (Nat.beq k 66) (q66) (0))))))))))))))) := ⟨_, rfl⟩
  obtain ⟨M, hM⟩ : ∃ M : MM, M = fun k => cond (Nat.beq k 52) (fun j => 0) (cond (Nat.beq k 53) (fun _ => 0) (cond (Nat.beq k 54) (fun _ => 0) (cond (Nat.beq k 55) (fun _ => 0) (cond (Nat.beq k 56) (fun _ => 0) (cond (Nat.beq k 57) (fun _ => 0) (cond (Nat.beq k 58) (fun _ => 0) (cond (Nat.beq k 59) (fun _ => 0) (cond (Nat.beq k 60) (fun _ => 0) (cond (Nat.beq k 61) (fun _ => 0) (cond (Nat.beq k 62) (fun _ => 0) (cond (Nat.beq k 63) (fun _ => 0) (cond (Nat.beq k 64) (upd (upd (upd (upd (fun _ => 0) 0 (-4)) 1 (-4)) 2 (-4)) 3 (-4)) (cond (Nat.beq k 65) (fun _ => 0) (cond (Nat.beq k 66) (fun _ => 0) (fun _ => 0))))))))))))))) := ⟨_, rfl⟩
  have ha0 : a 52 = h0 := by rw [ha]; rfl
  refine YY.to (ws' := Wp g a [52, 53, 54, 55, 56, 57, 58, 59, 60, 61, 62, 63, 64, 65, 66] M) (by subst ha; subst hM; rfl) ?_
  have hf : ful5 (gp g a [52, 53, 54, 55, 56, 57, 58, 59, 60, 61, 62, 63, 64, 65, 66]) := by show ∀ k, 52 ≤ k → k < 67 → k ∈ [52, 53, 54, 55, 56, 57, 58, 59, 60, 61, 62, 63, 64, 65, 66]; intro k h1 h2; rcases (by omega : k = 52 ∨ k = 53 ∨ k = 54 ∨ k = 55 ∨ k = 56 ∨ k = 57 ∨ k = 58 ∨ k = 59 ∨ k = 60 ∨ k = 61 ∨ k = 62 ∨ k = 63 ∨ k = 64 ∨ k = 65 ∨ k = 66) with rfl | rfl | rfl | rfl | rfl | rfl | rfl | rfl | rfl | rfl | rfl | rfl | rfl | rfl | rfl <;> decide
  rw [← ha0]
  refine y_callV (b := 52) (q := (RX5, TX5, 26)) (Q := d5P) hC (by decide) (ctX5_firstDraft (zl z) (gp g a [52, 53, 54, 55, 56, 57, 58, 59, 60, 61, 62, 63, 64, 65, 66]) M _ hf (m_firstDraft0 (by rw [hM]; exact ⟨rfl, rfl, rfl, by decide⟩) (fun _ hw => hw))) gX5_init_X5_firstDraft rfl ⟨rfl, rfl⟩ hdI_X5_firstDraft ⟨Nat.le_of_ble_eq_true rfl, Nat.le_of_ble_eq_true rfl⟩ (obF52 hf) rfl ⟨Nat.le_of_ble_eq_true rfl, Nat.le_of_ble_eq_true rfl⟩ (Nat.le_of_ble_eq_true rfl) dX5_init_140 143 rfl (fun N140 hw => ?_)
  refine y_aload_n hC dX5_init_143 1 rfl 144 rfl ?_
  refine y_callV (b := 52) (q := (RX5, TX5, 26)) (Q := r5P) hC (by decide) (ctX5_keepDraft (zl z) (gp g a [52, 53, 54, 55, 56, 57, 58, 59, 60, 61, 62, 63, 64, 65, 66]) N140 _ hf (m_keepDraft0 hw (fun _ hw => hw))) gX5_init_X5_keepDraft rfl ⟨rfl, rfl⟩ hdI_X5_keepDraft ⟨Nat.le_of_ble_eq_true rfl, Nat.le_of_ble_eq_true rfl⟩ (obF52 hf) rfl ⟨Nat.le_of_ble_eq_true rfl, Nat.le_of_ble_eq_true rfl⟩ (Nat.le_of_ble_eq_true rfl) dX5_init_144 147 rfl (fun N144 hw => ?_)
  exact y_ret hR hC a N144 dX5_init_147 ha0 hw rfl rfl rfl
