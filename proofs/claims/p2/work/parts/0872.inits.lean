theorem inIX1_init : ∀ w ∈ u_ws RX1 TX1 3, w ∈ wsX1_init := uX1_init__wsX10
set_option maxHeartbeats 4000000 in
set_option maxRecDepth 100000 in
theorem ciX1_init_44 (l : Launch) (g : GG) : CI g l yX1_init wsX1_init ({ frames := 1, cells := 1, slots := 40, locals := 12 } : Room) (.inr (1, [.null, .int 0, .int 0])) 44 [44, 45] (shP 44) 1 40 := by
  refine mk_CI (cc := cX1_init) (maxL := 1) (by decide) rfl rfl (by decide) ?_
  intro z Qf h0 sz A hC hIn hR
  refine y_aload_n hC dX1_init_0 0 rfl 1 rfl ?_
  refine y_oinit hC (uX1_init__o _ (List.mem_of_getElem? (l := owX1_init) (i := 1) rfl)) (uX1_init__o _ (List.mem_of_getElem? (l := owX1_init) (i := 2) rfl)) (uX1_init__o _ (List.mem_of_getElem? (l := owX1_init) (i := 3) rfl)) (Nat.le_of_ble_eq_true rfl) (Nat.le_of_ble_eq_true rfl) dX1_init_1 4 rfl ?_
  refine y_aload_n hC dX1_init_4 0 rfl 5 rfl ?_
  refine y_bipush (v := 40) hC dX1_init_5 (by decide) 7 rfl ?_
  refine y_newa (ty := .int) (cT := gI g) (N := 40) (a0 := (40, .inl (fun _ => 0))) hC 0 rfl rfl (Or.inl rfl) (uX1_init__o _ (List.mem_of_getElem? (l := owX1_init) (i := 4) rfl)) (fun _ => rfl) (by decide) (by decide) (Nat.le_of_ble_eq_true rfl) (Nat.le_of_ble_eq_true rfl) (Nat.le_of_ble_eq_true rfl) dX1_init_7 9 rfl (fun q45 => ?_)
  refine y_put (C := RX1) (T := TX1) (N := 3) (ci := 1) (ty := .array .int) (v := .ref q45) (fs' := [.ref q45, .int 0, .int 0]) hC hIn inIX1_init tyX1 tyX1_ok nmX1 rfl 0 (by decide) (uX1_init__o _ (List.mem_of_getElem? (l := owX1_init) (i := 5) rfl)) rfl (by decide +kernel) rfl rfl (Nat.le_of_ble_eq_true rfl) rfl dX1_init_9 12 rfl ?_
  refine y_aload_n hC dX1_init_12 0 rfl 13 rfl ?_
  refine y_iconst (v := (-1)) hC dX1_init_13 (by decide) 14 rfl ?_
  refine y_put (C := RX1) (T := TX1) (N := 3) (ci := 1) (ty := .int) (v := .int (-1)) (fs' := [.ref q45, .int (-1), .int 0]) hC hIn inIX1_init tyX1 tyX1_ok nmX1 rfl 1 (by decide) (uX1_init__o _ (List.mem_of_getElem? (l := owX1_init) (i := 6) rfl)) rfl (by decide +kernel) rfl rfl (Nat.le_of_ble_eq_true rfl) rfl dX1_init_14 17 rfl ?_
  refine y_aload_n hC dX1_init_17 0 rfl 18 rfl ?_
  refine y_iconst (v := 0) hC dX1_init_18 (by decide) 19 rfl ?_
  refine y_put (C := RX1) (T := TX1) (N := 3) (ci := 1) (ty := .int) (v := .int 0) (fs' := [.ref q45, .int (-1), .int 0]) hC hIn inIX1_init tyX1 tyX1_ok nmX1 rfl 2 (by decide) (uX1_init__o _ (List.mem_of_getElem? (l := owX1_init) (i := 7) rfl)) rfl (by decide +kernel) rfl rfl (Nat.le_of_ble_eq_true rfl) rfl dX1_init_19 22 rfl ?_
  obtain ⟨a, ha⟩ : ∃ a : Nat → Nat, a = fun k => cond (Nat.beq k 44) (h0) (cond (Nat.beq k 45) (q45) (0)) := ⟨_, rfl⟩
  obtain ⟨M, hM⟩ : ∃ M : MM, M = fun k => cond (Nat.beq k 44) (fun j => cond (Nat.beq j 1) ((-1)) (0)) (cond (Nat.beq k 45) (fun _ => 0) (fun _ => 0)) := ⟨_, rfl⟩
  have ha0 : a 44 = h0 := by rw [ha]; rfl
  refine YY.to (ws' := Wp g a [44, 45] M) (by subst ha; subst hM; rfl) ?_
  exact y_ret hR hC a M dX1_init_22 ha0 (by rw [hM]; exact ⟨rfl, rfl⟩) rfl rfl rfl
set_option maxHeartbeats 4000000 in
set_option maxRecDepth 100000 in
theorem ciX1_init_46 (l : Launch) (g : GG) : CI g l yX1_init wsX1_init ({ frames := 1, cells := 1, slots := 40, locals := 12 } : Room) (.inr (1, [.null, .int 0, .int 0])) 46 [46, 47] (shP 46) 1 40 := by
  refine mk_CI (cc := cX1_init) (maxL := 1) (by decide) rfl rfl (by decide) ?_
  intro z Qf h0 sz A hC hIn hR
  refine y_aload_n hC dX1_init_0 0 rfl 1 rfl ?_
  refine y_oinit hC (uX1_init__o _ (List.mem_of_getElem? (l := owX1_init) (i := 1) rfl)) (uX1_init__o _ (List.mem_of_getElem? (l := owX1_init) (i := 2) rfl)) (uX1_init__o _ (List.mem_of_getElem? (l := owX1_init) (i := 3) rfl)) (Nat.le_of_ble_eq_true rfl) (Nat.le_of_ble_eq_true rfl) dX1_init_1 4 rfl ?_
  refine y_aload_n hC dX1_init_4 0 rfl 5 rfl ?_
  refine y_bipush (v := 40) hC dX1_init_5 (by decide) 7 rfl ?_
  refine y_newa (ty := .int) (cT := gI g) (N := 40) (a0 := (40, .inl (fun _ => 0))) hC 0 rfl rfl (Or.inl rfl) (uX1_init__o _ (List.mem_of_getElem? (l := owX1_init) (i := 4) rfl)) (fun _ => rfl) (by decide) (by decide) (Nat.le_of_ble_eq_true rfl) (Nat.le_of_ble_eq_true rfl) (Nat.le_of_ble_eq_true rfl) dX1_init_7 9 rfl (fun q47 => ?_)
  refine y_put (C := RX1) (T := TX1) (N := 3) (ci := 1) (ty := .array .int) (v := .ref q47) (fs' := [.ref q47, .int 0, .int 0]) hC hIn inIX1_init tyX1 tyX1_ok nmX1 rfl 0 (by decide) (uX1_init__o _ (List.mem_of_getElem? (l := owX1_init) (i := 5) rfl)) rfl (by decide +kernel) rfl rfl (Nat.le_of_ble_eq_true rfl) rfl dX1_init_9 12 rfl ?_
  refine y_aload_n hC dX1_init_12 0 rfl 13 rfl ?_
  refine y_iconst (v := (-1)) hC dX1_init_13 (by decide) 14 rfl ?_
  refine y_put (C := RX1) (T := TX1) (N := 3) (ci := 1) (ty := .int) (v := .int (-1)) (fs' := [.ref q47, .int (-1), .int 0]) hC hIn inIX1_init tyX1 tyX1_ok nmX1 rfl 1 (by decide) (uX1_init__o _ (List.mem_of_getElem? (l := owX1_init) (i := 6) rfl)) rfl (by decide +kernel) rfl rfl (Nat.le_of_ble_eq_true rfl) rfl dX1_init_14 17 rfl ?_
  refine y_aload_n hC dX1_init_17 0 rfl 18 rfl ?_
  refine y_iconst (v := 0) hC dX1_init_18 (by decide) 19 rfl ?_
  refine y_put (C := RX1) (T := TX1) (N := 3) (ci := 1) (ty := .int) (v := .int 0) (fs' := [.ref q47, .int (-1), .int 0]) hC hIn inIX1_init tyX1 tyX1_ok nmX1 rfl 2 (by decide) (uX1_init__o _ (List.mem_of_getElem? (l := owX1_init) (i := 7) rfl)) rfl (by decide +kernel) rfl rfl (Nat.le_of_ble_eq_true rfl) rfl dX1_init_19 22 rfl ?_
  obtain ⟨a, ha⟩ : ∃ a : Nat → Nat, a = fun k => cond (Nat.beq k 46) (h0) (cond (Nat.beq k 47) (q47) (0)) := ⟨_, rfl⟩
  obtain ⟨M, hM⟩ : ∃ M : MM, M = fun k => cond (Nat.beq k 46) (fun j => cond (Nat.beq j 1) ((-1)) (0)) (cond (Nat.beq k 47) (fun _ => 0) (fun _ => 0)) := ⟨_, rfl⟩
  have ha0 : a 46 = h0 := by rw [ha]; rfl
  refine YY.to (ws' := Wp g a [46, 47] M) (by subst ha; subst hM; rfl) ?_
  exact y_ret hR hC a M dX1_init_22 ha0 (by rw [hM]; exact ⟨rfl, rfl⟩) rfl rfl rfl
set_option maxHeartbeats 4000000 in
set_option maxRecDepth 100000 in
theorem ciX1_init_48 (l : Launch) (g : GG) : CI g l yX1_init wsX1_init ({ frames := 1, cells := 1, slots := 40, locals := 12 } : Room) (.inr (1, [.null, .int 0, .int 0])) 48 [48, 49] (shP 48) 1 40 := by
  refine mk_CI (cc := cX1_init) (maxL := 1) (by decide) rfl rfl (by decide) ?_
  intro z Qf h0 sz A hC hIn hR
  refine y_aload_n hC dX1_init_0 0 rfl 1 rfl ?_
  refine y_oinit hC (uX1_init__o _ (List.mem_of_getElem? (l := owX1_init) (i := 1) rfl)) (uX1_init__o _ (List.mem_of_getElem? (l := owX1_init) (i := 2) rfl)) (uX1_init__o _ (List.mem_of_getElem? (l := owX1_init) (i := 3) rfl)) (Nat.le_of_ble_eq_true rfl) (Nat.le_of_ble_eq_true rfl) dX1_init_1 4 rfl ?_
  refine y_aload_n hC dX1_init_4 0 rfl 5 rfl ?_
  refine y_bipush (v := 40) hC dX1_init_5 (by decide) 7 rfl ?_
  refine y_newa (ty := .int) (cT := gI g) (N := 40) (a0 := (40, .inl (fun _ => 0))) hC 0 rfl rfl (Or.inl rfl) (uX1_init__o _ (List.mem_of_getElem? (l := owX1_init) (i := 4) rfl)) (fun _ => rfl) (by decide) (by decide) (Nat.le_of_ble_eq_true rfl) (Nat.le_of_ble_eq_true rfl) (Nat.le_of_ble_eq_true rfl) dX1_init_7 9 rfl (fun q49 => ?_)
  refine y_put (C := RX1) (T := TX1) (N := 3) (ci := 1) (ty := .array .int) (v := .ref q49) (fs' := [.ref q49, .int 0, .int 0]) hC hIn inIX1_init tyX1 tyX1_ok nmX1 rfl 0 (by decide) (uX1_init__o _ (List.mem_of_getElem? (l := owX1_init) (i := 5) rfl)) rfl (by decide +kernel) rfl rfl (Nat.le_of_ble_eq_true rfl) rfl dX1_init_9 12 rfl ?_
  refine y_aload_n hC dX1_init_12 0 rfl 13 rfl ?_
  refine y_iconst (v := (-1)) hC dX1_init_13 (by decide) 14 rfl ?_
  refine y_put (C := RX1) (T := TX1) (N := 3) (ci := 1) (ty := .int) (v := .int (-1)) (fs' := [.ref q49, .int (-1), .int 0]) hC hIn inIX1_init tyX1 tyX1_ok nmX1 rfl 1 (by decide) (uX1_init__o _ (List.mem_of_getElem? (l := owX1_init) (i := 6) rfl)) rfl (by decide +kernel) rfl rfl (Nat.le_of_ble_eq_true rfl) rfl dX1_init_14 17 rfl ?_
  refine y_aload_n hC dX1_init_17 0 rfl 18 rfl ?_
  refine y_iconst (v := 0) hC dX1_init_18 (by decide) 19 rfl ?_
  refine y_put (C := RX1) (T := TX1) (N := 3) (ci := 1) (ty := .int) (v := .int 0) (fs' := [.ref q49, .int (-1), .int 0]) hC hIn inIX1_init tyX1 tyX1_ok nmX1 rfl 2 (by decide) (uX1_init__o _ (List.mem_of_getElem? (l := owX1_init) (i := 7) rfl)) rfl (by decide +kernel) rfl rfl (Nat.le_of_ble_eq_true rfl) rfl dX1_init_19 22 rfl ?_
  obtain ⟨a, ha⟩ : ∃ a : Nat → Nat, a = fun k => cond (Nat.beq k 48) (h0) (cond (Nat.beq k 49) (q49) (0)) := ⟨_, rfl⟩
  obtain ⟨M, hM⟩ : ∃ M : MM, M = fun k => cond (Nat.beq k 48) (fun j => cond (Nat.beq j 1) ((-1)) (0)) (cond (Nat.beq k 49) (fun _ => 0) (fun _ => 0)) := ⟨_, rfl⟩
  have ha0 : a 48 = h0 := by rw [ha]; rfl
  refine YY.to (ws' := Wp g a [48, 49] M) (by subst ha; subst hM; rfl) ?_
  exact y_ret hR hC a M dX1_init_22 ha0 (by rw [hM]; exact ⟨rfl, rfl⟩) rfl rfl rfl
set_option maxHeartbeats 4000000 in
set_option maxRecDepth 100000 in
theorem ciX1_init_50 (l : Launch) (g : GG) : CI g l yX1_init wsX1_init ({ frames := 1, cells := 1, slots := 40, locals := 12 } : Room) (.inr (1, [.null, .int 0, .int 0])) 50 [50, 51] (shP 50) 1 40 := by
  refine mk_CI (cc := cX1_init) (maxL := 1) (by decide) rfl rfl (by decide) ?_
  intro z Qf h0 sz A hC hIn hR
  refine y_aload_n hC dX1_init_0 0 rfl 1 rfl ?_
  refine y_oinit hC (uX1_init__o _ (List.mem_of_getElem? (l := owX1_init) (i := 1) rfl)) (uX1_init__o _ (List.mem_of_getElem? (l := owX1_init) (i := 2) rfl)) (uX1_init__o _ (List.mem_of_getElem? (l := owX1_init) (i := 3) rfl)) (Nat.le_of_ble_eq_true rfl) (Nat.le_of_ble_eq_true rfl) dX1_init_1 4 rfl ?_
  refine y_aload_n hC dX1_init_4 0 rfl 5 rfl ?_
  refine y_bipush (v := 40) hC dX1_init_5 (by decide) 7 rfl ?_
  refine y_newa (ty := .int) (cT := gI g) (N := 40) (a0 := (40, .inl (fun _ => 0))) hC 0 rfl rfl (Or.inl rfl) (uX1_init__o _ (List.mem_of_getElem? (l := owX1_init) (i := 4) rfl)) (fun _ => rfl) (by decide) (by decide) (Nat.le_of_ble_eq_true rfl) (Nat.le_of_ble_eq_true rfl) (Nat.le_of_ble_eq_true rfl) dX1_init_7 9 rfl (fun q51 => ?_)
  refine y_put (C := RX1) (T := TX1) (N := 3) (ci := 1) (ty := .array .int) (v := .ref q51) (fs' := [.ref q51, .int 0, .int 0]) hC hIn inIX1_init tyX1 tyX1_ok nmX1 rfl 0 (by decide) (uX1_init__o _ (List.mem_of_getElem? (l := owX1_init) (i := 5) rfl)) rfl (by decide +kernel) rfl rfl (Nat.le_of_ble_eq_true rfl) rfl dX1_init_9 12 rfl ?_
  refine y_aload_n hC dX1_init_12 0 rfl 13 rfl ?_
  refine y_iconst (v := (-1)) hC dX1_init_13 (by decide) 14 rfl ?_
  refine y_put (C := RX1) (T := TX1) (N := 3) (ci := 1) (ty := .int) (v := .int (-1)) (fs' := [.ref q51, .int (-1), .int 0]) hC hIn inIX1_init tyX1 tyX1_ok nmX1 rfl 1 (by decide) (uX1_init__o _ (List.mem_of_getElem? (l := owX1_init) (i := 6) rfl)) rfl (by decide +kernel) rfl rfl (Nat.le_of_ble_eq_true rfl) rfl dX1_init_14 17 rfl ?_
  refine y_aload_n hC dX1_init_17 0 rfl 18 rfl ?_
  refine y_iconst (v := 0) hC dX1_init_18 (by decide) 19 rfl ?_
  refine y_put (C := RX1) (T := TX1) (N := 3) (ci := 1) (ty := .int) (v := .int 0) (fs' := [.ref q51, .int (-1), .int 0]) hC hIn inIX1_init tyX1 tyX1_ok nmX1 rfl 2 (by decide) (uX1_init__o _ (List.mem_of_getElem? (l := owX1_init) (i := 7) rfl)) rfl (by decide +kernel) rfl rfl (Nat.le_of_ble_eq_true rfl) rfl dX1_init_19 22 rfl ?_
  obtain ⟨a, ha⟩ : ∃ a : Nat → Nat, a = fun k => cond (Nat.beq k 50) (h0) (cond (Nat.beq k 51) (q51) (0)) := ⟨_, rfl⟩
  obtain ⟨M, hM⟩ : ∃ M : MM, M = fun k => cond (Nat.beq k 50) (fun j => cond (Nat.beq j 1) ((-1)) (0)) (cond (Nat.beq k 51) (fun _ => 0) (fun _ => 0)) := ⟨_, rfl⟩
  have ha0 : a 50 = h0 := by rw [ha]; rfl
  refine YY.to (ws' := Wp g a [50, 51] M) (by subst ha; subst hM; rfl) ?_
  exact y_ret hR hC a M dX1_init_22 ha0 (by rw [hM]; exact ⟨rfl, rfl⟩) rfl rfl rfl
theorem inIX0_init : ∀ w ∈ u_ws RX0 TX0 6, w ∈ wsX0_init := uX0_init__wsX00
set_option maxHeartbeats 4000000 in
set_option maxRecDepth 100000 in
theorem ciX0_init_39 (l : Launch) (g : GG) : CI g l yX0_init wsX0_init ({ frames := 1, cells := 4, slots := 2136, locals := 12 } : Room) (.inr (0, [.null, .null, .null, .null, .int 0, .int 0])) 39 [39, 40, 41, 42, 43] (fun _ => True) 4 2136 := by
  refine mk_CI (cc := cX0_init) (maxL := 1) (by decide) rfl rfl (by decide) ?_
  intro z Qf h0 sz A hC hIn hR
  refine y_aload_n hC dX0_init_0 0 rfl 1 rfl ?_
  refine y_oinit hC (uX0_init__o _ (List.mem_of_getElem? (l := owX0_init) (i := 1) rfl)) (uX0_init__o _ (List.mem_of_getElem? (l := owX0_init) (i := 2) rfl)) (uX0_init__o _ (List.mem_of_getElem? (l := owX0_init) (i := 3) rfl)) (Nat.le_of_ble_eq_true rfl) (Nat.le_of_ble_eq_true rfl) dX0_init_1 4 rfl ?_
  refine y_aload_n hC dX0_init_4 0 rfl 5 rfl ?_
  refine y_bipush (v := 72) hC dX0_init_5 (by decide) 7 rfl ?_
  refine y_newa (ty := .int) (cT := gI g) (N := 72) (a0 := (72, .inl (fun _ => 0))) hC 0 rfl rfl (Or.inl rfl) (uX0_init__o _ (List.mem_of_getElem? (l := owX0_init) (i := 4) rfl)) (fun _ => rfl) (by decide) (by decide) (Nat.le_of_ble_eq_true rfl) (Nat.le_of_ble_eq_true rfl) (Nat.le_of_ble_eq_true rfl) dX0_init_7 9 rfl (fun q40 => ?_)
  refine y_put (C := RX0) (T := TX0) (N := 6) (ci := 0) (ty := .array .int) (v := .ref q40) (fs' := [.ref q40, .null, .null, .null, .int 0, .int 0]) hC hIn inIX0_init tyX0 tyX0_ok nmX0 rfl 0 (by decide) (uX0_init__o _ (List.mem_of_getElem? (l := owX0_init) (i := 5) rfl)) rfl (by decide +kernel) rfl rfl (Nat.le_of_ble_eq_true rfl) rfl dX0_init_9 12 rfl ?_
  refine y_aload_n hC dX0_init_12 0 rfl 13 rfl ?_
  refine y_sipush (v := 2048) hC dX0_init_13 (by decide) 16 rfl ?_
  refine y_newa (ty := .int) (cT := gI g) (N := 2048) (a0 := (2048, .inl (fun _ => 0))) hC 0 rfl rfl (Or.inl rfl) (uX0_init__o _ (List.mem_of_getElem? (l := owX0_init) (i := 4) rfl)) (fun _ => rfl) (by decide) (by decide) (Nat.le_of_ble_eq_true rfl) (Nat.le_of_ble_eq_true rfl) (Nat.le_of_ble_eq_true rfl) dX0_init_16 18 rfl (fun q41 => ?_)
  refine y_put (C := RX0) (T := TX0) (N := 6) (ci := 0) (ty := .array .int) (v := .ref q41) (fs' := [.ref q40, .ref q41, .null, .null, .int 0, .int 0]) hC hIn inIX0_init tyX0 tyX0_ok nmX0 rfl 1 (by decide) (uX0_init__o _ (List.mem_of_getElem? (l := owX0_init) (i := 6) rfl)) rfl (by decide +kernel) rfl rfl (Nat.le_of_ble_eq_true rfl) rfl dX0_init_18 21 rfl ?_
  refine y_aload_n hC dX0_init_21 0 rfl 22 rfl ?_
  refine y_bipush (v := 8) hC dX0_init_22 (by decide) 24 rfl ?_
  refine y_newa (ty := .int) (cT := gI g) (N := 8) (a0 := (8, .inl (fun _ => 0))) hC 0 rfl rfl (Or.inl rfl) (uX0_init__o _ (List.mem_of_getElem? (l := owX0_init) (i := 4) rfl)) (fun _ => rfl) (by decide) (by decide) (Nat.le_of_ble_eq_true rfl) (Nat.le_of_ble_eq_true rfl) (Nat.le_of_ble_eq_true rfl) dX0_init_24 26 rfl (fun q42 => ?_)
  refine y_put (C := RX0) (T := TX0) (N := 6) (ci := 0) (ty := .array .int) (v := .ref q42) (fs' := [.ref q40, .ref q41, .ref q42, .null, .int 0, .int 0]) hC hIn inIX0_init tyX0 tyX0_ok nmX0 rfl 2 (by decide) (uX0_init__o _ (List.mem_of_getElem? (l := owX0_init) (i := 7) rfl)) rfl (by decide +kernel) rfl rfl (Nat.le_of_ble_eq_true rfl) rfl dX0_init_26 29 rfl ?_
  refine y_aload_n hC dX0_init_29 0 rfl 30 rfl ?_
  refine y_bipush (v := 8) hC dX0_init_30 (by decide) 32 rfl ?_
  refine y_newa (ty := .int) (cT := gI g) (N := 8) (a0 := (8, .inl (fun _ => 0))) hC 0 rfl rfl (Or.inl rfl) (uX0_init__o _ (List.mem_of_getElem? (l := owX0_init) (i := 4) rfl)) (fun _ => rfl) (by decide) (by decide) (Nat.le_of_ble_eq_true rfl) (Nat.le_of_ble_eq_true rfl) (Nat.le_of_ble_eq_true rfl) dX0_init_32 34 rfl (fun q43 => ?_)
  refine y_put (C := RX0) (T := TX0) (N := 6) (ci := 0) (ty := .array .int) (v := .ref q43) (fs' := [.ref q40, .ref q41, .ref q42, .ref q43, .int 0, .int 0]) hC hIn inIX0_init tyX0 tyX0_ok nmX0 rfl 3 (by decide) (uX0_init__o _ (List.mem_of_getElem? (l := owX0_init) (i := 8) rfl)) rfl (by decide +kernel) rfl rfl (Nat.le_of_ble_eq_true rfl) rfl dX0_init_34 37 rfl ?_
  obtain ⟨a, ha⟩ : ∃ a : Nat → Nat, a = fun k => cond (Nat.beq k 39) (h0) (cond (Nat.beq k 40) (q40) (cond (Nat.beq k 41) (q41) (cond (Nat.beq k 42) (q42) (cond (Nat.beq k 43) (q43) (0))))) := ⟨_, rfl⟩
  obtain ⟨M, hM⟩ : ∃ M : MM, M = fun k => cond (Nat.beq k 39) (fun j => 0) (cond (Nat.beq k 40) (fun _ => 0) (cond (Nat.beq k 41) (fun _ => 0) (cond (Nat.beq k 42) (fun _ => 0) (cond (Nat.beq k 43) (fun _ => 0) (fun _ => 0))))) := ⟨_, rfl⟩
  have ha0 : a 39 = h0 := by rw [ha]; rfl
  refine YY.to (ws' := Wp g a [39, 40, 41, 42, 43] M) (by subst ha; subst hM; rfl) ?_
  exact y_ret hR hC a M dX0_init_37 ha0 True.intro rfl rfl rfl
theorem inIX3_init : ∀ w ∈ u_ws RX3 TX3 10, w ∈ wsX3_init := uX3_init__wsX30
theorem inIX3_init_X2 : ∀ w ∈ u_ws RX2 TX2 14, w ∈ wsX3_init := uX3_init__wsX20
theorem hfX2 : ∀ j, j < 14 → defaultValue (tyX2 j) = vp_V ([.null, .null, .null, .null, .null, .null, .null, .null, .int 0, .int 0, .int 0, .int 0, .int 0, .int 0]) j := by
  intro j hj
  rcases (show j = 0 ∨ j = 1 ∨ j = 2 ∨ j = 3 ∨ j = 4 ∨ j = 5 ∨ j = 6 ∨ j = 7 ∨ j = 8 ∨ j = 9 ∨ j = 10 ∨ j = 11 ∨ j = 12 ∨ j = 13 by omega) with rfl | rfl | rfl | rfl | rfl | rfl | rfl | rfl | rfl | rfl | rfl | rfl | rfl | rfl <;> rfl
theorem hdI_X2_init : yX2_init.cls ≠ "java/lang/invoke/MethodHandle" ∧ yX2_init.cls ≠ "java/lang/invoke/VarHandle" ∧ (parseMethodDescriptor yX2_init.desc).map (fun d => d.parameters.length) = some 0 := by decide +kernel
set_option maxHeartbeats 4000000 in
set_option maxRecDepth 100000 in
theorem ciX3_init_37 (l : Launch) (g : GG) : CI g l yX3_init wsX3_init ({ frames := 4, cells := 10, slots := 783, locals := 121 } : Room) (.inr (3, [.null, .null, .int 0, .int 0, .int 0, .int 0, .int 0, .int 0, .int 0, .int 0])) 37 [37, 38, 28, 29, 30, 31, 32, 33, 34, 35, 36] (fun M => M 37 2 = 0) 10 783 := by
  refine mk_CI (cc := cX3_init) (maxL := 1) (by decide) rfl rfl (by decide) ?_
  intro z Qf h0 sz A hC hIn hR
  refine y_aload_n hC dX3_init_0 0 rfl 1 rfl ?_
  refine y_oinit hC (uX3_init__o _ (List.mem_of_getElem? (l := owX3_init) (i := 1) rfl)) (uX3_init__X2_init _ (List.mem_of_getElem? (l := owX2_init) (i := 2) rfl)) (uX3_init__X2_init _ (List.mem_of_getElem? (l := owX2_init) (i := 3) rfl)) (Nat.le_of_ble_eq_true rfl) (Nat.le_of_ble_eq_true rfl) dX3_init_1 4 rfl ?_
  refine y_aload_n hC dX3_init_4 0 rfl 5 rfl ?_
  refine y_sipush (v := 400) hC dX3_init_5 (by decide) 8 rfl ?_
  refine y_newa (ty := .byte) (cT := gB g) (N := 400) (a0 := (400, .inl (fun _ => 0))) hC 1 rfl rfl (Or.inr (Or.inl rfl)) (uX3_init__o _ (List.mem_of_getElem? (l := owX3_init) (i := 2) rfl)) (fun _ => rfl) (by decide) (by decide) (Nat.le_of_ble_eq_true rfl) (Nat.le_of_ble_eq_true rfl) (Nat.le_of_ble_eq_true rfl) dX3_init_8 10 rfl (fun q38 => ?_)
  refine y_put (C := RX3) (T := TX3) (N := 10) (ci := 3) (ty := .array .byte) (v := .ref q38) (fs' := [.ref q38, .null, .int 0, .int 0, .int 0, .int 0, .int 0, .int 0, .int 0, .int 0]) hC hIn inIX3_init tyX3 tyX3_ok nmX3 rfl 0 (by decide) (uX3_init__o _ (List.mem_of_getElem? (l := owX3_init) (i := 3) rfl)) rfl (by decide +kernel) rfl rfl (Nat.le_of_ble_eq_true rfl) rfl dX3_init_10 13 rfl ?_
  refine y_aload_n hC dX3_init_13 0 rfl 14 rfl ?_
  refine y_new (C := RX2) (T := TX2) (N := 14) (ci := 2) (fs := [.null, .null, .null, .null, .null, .null, .null, .null, .int 0, .int 0, .int 0, .int 0, .int 0, .int 0]) hC inIX3_init_X2 tyX2 tyX2_ok (uX3_init__o _ (List.mem_of_getElem? (l := owX3_init) (i := 4) rfl)) (uX3_init__o _ (List.mem_of_getElem? (l := owX3_init) (i := 5) rfl)) (uX3_init__X2_init _ (List.mem_of_getElem? (l := owX2_init) (i := 15) rfl)) rfl hfX2 (Nat.le_of_ble_eq_true rfl) (Nat.le_of_ble_eq_true rfl) dX3_init_14 17 rfl (fun q28 => ?_)
  refine y_dup hC dX3_init_17 rfl 18 rfl ?_
  refine y_init hC (ciX2_init_28 (zl z) g) gX3_init_X2_init rfl ⟨rfl, rfl⟩ (uX3_init__X2_init _ (List.mem_of_getElem? (l := owX2_init) (i := 15) rfl)) (uX3_init__o _ (List.mem_of_getElem? (l := owX3_init) (i := 7) rfl)) (uX3_init__o _ (List.mem_of_getElem? (l := owX3_init) (i := 8) rfl)) rfl hdI_X2_init ⟨Nat.le_of_ble_eq_true rfl, Nat.le_of_ble_eq_true rfl⟩ ⟨Nat.le_of_ble_eq_true rfl, Nat.le_of_ble_eq_true rfl⟩ (Nat.le_of_ble_eq_true rfl) dX3_init_18 21 rfl (fun a28 M28 h28 p28 => ?_)
  rw [← h28]
  refine y_put (C := RX3) (T := TX3) (N := 10) (ci := 3) (ty := .object "TwoReels$Tape") (v := .ref (a28 28)) (fs' := [.ref q38, .ref (a28 28), .int 0, .int 0, .int 0, .int 0, .int 0, .int 0, .int 0, .int 0]) hC hIn inIX3_init tyX3 tyX3_ok nmX3 rfl 1 (by decide) (uX3_init__o _ (List.mem_of_getElem? (l := owX3_init) (i := 6) rfl)) rfl (by decide +kernel) rfl rfl (Nat.le_of_ble_eq_true rfl) rfl dX3_init_21 24 rfl ?_
  obtain ⟨a, ha⟩ : ∃ a : Nat → Nat, a = fun k => cond (Nat.beq k 37) (h0) (cond (Nat.beq k 38) (q38) (cond (Nat.ble 28 k && Nat.ble k 36) (a28 k) (0))) := ⟨_, rfl⟩
  obtain ⟨M, hM⟩ : ∃ M : MM, M = fun k => cond (Nat.beq k 37) (fun j => 0) (cond (Nat.beq k 38) (fun _ => 0) (cond (Nat.ble 28 k && Nat.ble k 36) (M28 k) (fun _ => 0))) := ⟨_, rfl⟩
  have ha0 : a 37 = h0 := by rw [ha]; rfl
  refine YY.to (ws' := Wp g a [37, 38, 28, 29, 30, 31, 32, 33, 34, 35, 36] M) (by subst ha; subst hM; rfl) ?_
  exact y_ret hR hC a M dX3_init_24 ha0 (by rw [hM]; exact rfl) rfl rfl rfl
theorem inIX4_init : ∀ w ∈ u_ws RX4 TX4 12, w ∈ wsX4_init := uX4_init__wsX40
theorem inIX4_init_X2 : ∀ w ∈ u_ws RX2 TX2 14, w ∈ wsX4_init := uX4_init__wsX20
theorem inIX4_init_X3 : ∀ w ∈ u_ws RX3 TX3 10, w ∈ wsX4_init := uX4_init__wsX30
theorem hfX3 : ∀ j, j < 10 → defaultValue (tyX3 j) = vp_V ([.null, .null, .int 0, .int 0, .int 0, .int 0, .int 0, .int 0, .int 0, .int 0]) j := by
  intro j hj
  rcases (show j = 0 ∨ j = 1 ∨ j = 2 ∨ j = 3 ∨ j = 4 ∨ j = 5 ∨ j = 6 ∨ j = 7 ∨ j = 8 ∨ j = 9 by omega) with rfl | rfl | rfl | rfl | rfl | rfl | rfl | rfl | rfl | rfl <;> rfl
theorem hdI_X3_init : yX3_init.cls ≠ "java/lang/invoke/MethodHandle" ∧ yX3_init.cls ≠ "java/lang/invoke/VarHandle" ∧ (parseMethodDescriptor yX3_init.desc).map (fun d => d.parameters.length) = some 0 := by decide +kernel
theorem inIX4_init_X0 : ∀ w ∈ u_ws RX0 TX0 6, w ∈ wsX4_init := uX4_init__wsX00
theorem hfX0 : ∀ j, j < 6 → defaultValue (tyX0 j) = vp_V ([.null, .null, .null, .null, .int 0, .int 0]) j := by
  intro j hj
  rcases (show j = 0 ∨ j = 1 ∨ j = 2 ∨ j = 3 ∨ j = 4 ∨ j = 5 by omega) with rfl | rfl | rfl | rfl | rfl | rfl <;> rfl
theorem hdI_X0_init : yX0_init.cls ≠ "java/lang/invoke/MethodHandle" ∧ yX0_init.cls ≠ "java/lang/invoke/VarHandle" ∧ (parseMethodDescriptor yX0_init.desc).map (fun d => d.parameters.length) = some 0 := by decide +kernel
theorem inIX4_init_X1 : ∀ w ∈ u_ws RX1 TX1 3, w ∈ wsX4_init := uX4_init__wsX10
theorem hfX1 : ∀ j, j < 3 → defaultValue (tyX1 j) = vp_V ([.null, .int 0, .int 0]) j := by
  intro j hj
  rcases (show j = 0 ∨ j = 1 ∨ j = 2 by omega) with rfl | rfl | rfl <;> rfl
theorem hdI_X1_init : yX1_init.cls ≠ "java/lang/invoke/MethodHandle" ∧ yX1_init.cls ≠ "java/lang/invoke/VarHandle" ∧ (parseMethodDescriptor yX1_init.desc).map (fun d => d.parameters.length) = some 0 := by decide +kernel
set_option maxHeartbeats 4000000 in
set_option maxRecDepth 100000 in
theorem ciX4_init_0 (l : Launch) (g : GG) : CI g l yX4_init wsX4_init ({ frames := 5, cells := 51, slots := 4256, locals := 141 } : Room) (.inr (4, [.null, .null, .null, .null, .null, .null, .null, .null, .null, .int 0, .int 0, .int 0])) 0 [0, 1, 2, 3, 4, 5, 6, 7, 8, 9, 37, 38, 28, 29, 30, 31, 32, 33, 34, 35, 36, 39, 40, 41, 42, 43, 10, 11, 12, 13, 14, 15, 16, 17, 18, 19, 20, 21, 22, 23, 24, 25, 26, 27, 44, 45, 46, 47, 48, 49, 50, 51] r4P 51 4256 := by
  refine mk_CI (cc := cX4_init) (maxL := 1) (by decide) rfl rfl (by decide) ?_
  intro z Qf h0 sz A hC hIn hR
  refine y_aload_n hC dX4_init_0 0 rfl 1 rfl ?_
  refine y_oinit hC (uX4_init__o _ (List.mem_of_getElem? (l := owX4_init) (i := 1) rfl)) (uX4_init__X2_init _ (List.mem_of_getElem? (l := owX2_init) (i := 2) rfl)) (uX4_init__X2_init _ (List.mem_of_getElem? (l := owX2_init) (i := 3) rfl)) (Nat.le_of_ble_eq_true rfl) (Nat.le_of_ble_eq_true rfl) dX4_init_1 4 rfl ?_
  refine y_aload_n hC dX4_init_4 0 rfl 5 rfl ?_
  refine y_new (C := RX2) (T := TX2) (N := 14) (ci := 2) (fs := [.null, .null, .null, .null, .null, .null, .null, .null, .int 0, .int 0, .int 0, .int 0, .int 0, .int 0]) hC inIX4_init_X2 tyX2 tyX2_ok (uX4_init__o _ (List.mem_of_getElem? (l := owX4_init) (i := 2) rfl)) (uX4_init__X3_init _ (List.mem_of_getElem? (l := owX3_init) (i := 5) rfl)) (uX4_init__X2_init _ (List.mem_of_getElem? (l := owX2_init) (i := 15) rfl)) rfl hfX2 (Nat.le_of_ble_eq_true rfl) (Nat.le_of_ble_eq_true rfl) dX4_init_5 8 rfl (fun q1 => ?_)
  refine y_dup hC dX4_init_8 rfl 9 rfl ?_
  refine y_init hC (ciX2_init_1 (zl z) g) gX4_init_X2_init rfl ⟨rfl, rfl⟩ (uX4_init__X2_init _ (List.mem_of_getElem? (l := owX2_init) (i := 15) rfl)) (uX4_init__o _ (List.mem_of_getElem? (l := owX4_init) (i := 24) rfl)) (uX4_init__X3_init _ (List.mem_of_getElem? (l := owX3_init) (i := 8) rfl)) rfl hdI_X2_init ⟨Nat.le_of_ble_eq_true rfl, Nat.le_of_ble_eq_true rfl⟩ ⟨Nat.le_of_ble_eq_true rfl, Nat.le_of_ble_eq_true rfl⟩ (Nat.le_of_ble_eq_true rfl) dX4_init_9 12 rfl (fun a1 M1 h1 p1 => ?_)
  rw [← h1]
  refine y_put (C := RX4) (T := TX4) (N := 12) (ci := 4) (ty := .object "TwoReels$Tape") (v := .ref (a1 1)) (fs' := [.ref (a1 1), .null, .null, .null, .null, .null, .null, .null, .null, .int 0, .int 0, .int 0]) hC hIn inIX4_init tyX4 tyX4_ok nmX4 rfl 0 (by decide) (uX4_init__o _ (List.mem_of_getElem? (l := owX4_init) (i := 3) rfl)) rfl (by decide +kernel) rfl rfl (Nat.le_of_ble_eq_true rfl) rfl dX4_init_12 15 rfl ?_
  refine y_aload_n hC dX4_init_15 0 rfl 16 rfl ?_
  refine y_new (C := RX3) (T := TX3) (N := 10) (ci := 3) (fs := [.null, .null, .int 0, .int 0, .int 0, .int 0, .int 0, .int 0, .int 0, .int 0]) hC inIX4_init_X3 tyX3 tyX3_ok (uX4_init__o _ (List.mem_of_getElem? (l := owX4_init) (i := 4) rfl)) (uX4_init__o _ (List.mem_of_getElem? (l := owX4_init) (i := 5) rfl)) (uX4_init__o _ (List.mem_of_getElem? (l := owX4_init) (i := 6) rfl)) rfl hfX3 (Nat.le_of_ble_eq_true rfl) (Nat.le_of_ble_eq_true rfl) dX4_init_16 19 rfl (fun q37 => ?_)
  refine y_dup hC dX4_init_19 rfl 20 rfl ?_
  refine y_initN hC (ciX3_init_37 (zl z) g) gX4_init_X3_init_n18 rfl ⟨rfl, rfl⟩ (uX4_init__o _ (List.mem_of_getElem? (l := owX4_init) (i := 6) rfl)) 14 rfl (uX4_init__o _ (List.mem_of_getElem? (l := owX4_init) (i := 25) rfl)) rfl hdI_X3_init ⟨Nat.le_of_ble_eq_true rfl, Nat.le_of_ble_eq_true rfl⟩ ⟨Nat.le_of_ble_eq_true rfl, Nat.le_of_ble_eq_true rfl⟩ (Nat.le_of_ble_eq_true rfl) dX4_init_20 23 rfl (fun a37 M37 h37 p37 => ?_)
  rw [← h37]
  refine y_put (C := RX4) (T := TX4) (N := 12) (ci := 4) (ty := .object "TwoReels$TextReader") (v := .ref (a37 37)) (fs' := [.ref (a1 1), .ref (a37 37), .null, .null, .null, .null, .null, .null, .null, .int 0, .int 0, .int 0]) hC hIn inIX4_init tyX4 tyX4_ok nmX4 rfl 1 (by decide) (uX4_init__o _ (List.mem_of_getElem? (l := owX4_init) (i := 7) rfl)) rfl (by decide +kernel) rfl rfl (Nat.le_of_ble_eq_true rfl) rfl dX4_init_23 26 rfl ?_
  refine y_aload_n hC dX4_init_26 0 rfl 27 rfl ?_
  refine y_new (C := RX0) (T := TX0) (N := 6) (ci := 0) (fs := [.null, .null, .null, .null, .int 0, .int 0]) hC inIX4_init_X0 tyX0 tyX0_ok (uX4_init__o _ (List.mem_of_getElem? (l := owX4_init) (i := 8) rfl)) (uX4_init__o _ (List.mem_of_getElem? (l := owX4_init) (i := 9) rfl)) (uX4_init__o _ (List.mem_of_getElem? (l := owX4_init) (i := 10) rfl)) rfl hfX0 (Nat.le_of_ble_eq_true rfl) (Nat.le_of_ble_eq_true rfl) dX4_init_27 30 rfl (fun q39 => ?_)
  refine y_dup hC dX4_init_30 rfl 31 rfl ?_
  refine y_initN hC (ciX0_init_39 (zl z) g) gX4_init_X0_init_n25 rfl ⟨rfl, rfl⟩ (uX4_init__o _ (List.mem_of_getElem? (l := owX4_init) (i := 10) rfl)) 15 rfl (uX4_init__o _ (List.mem_of_getElem? (l := owX4_init) (i := 26) rfl)) rfl hdI_X0_init ⟨Nat.le_of_ble_eq_true rfl, Nat.le_of_ble_eq_true rfl⟩ ⟨Nat.le_of_ble_eq_true rfl, Nat.le_of_ble_eq_true rfl⟩ (Nat.le_of_ble_eq_true rfl) dX4_init_31 34 rfl (fun a39 M39 h39 p39 => ?_)
  rw [← h39]
  refine y_put (C := RX4) (T := TX4) (N := 12) (ci := 4) (ty := .object "TwoReels$Route") (v := .ref (a39 39)) (fs' := [.ref (a1 1), .ref (a37 37), .ref (a39 39), .null, .null, .null, .null, .null, .null, .int 0, .int 0, .int 0]) hC hIn inIX4_init tyX4 tyX4_ok nmX4 rfl 2 (by decide) (uX4_init__o _ (List.mem_of_getElem? (l := owX4_init) (i := 11) rfl)) rfl (by decide +kernel) rfl rfl (Nat.le_of_ble_eq_true rfl) rfl dX4_init_34 37 rfl ?_
  refine y_aload_n hC dX4_init_37 0 rfl 38 rfl ?_
  refine y_new (C := RX2) (T := TX2) (N := 14) (ci := 2) (fs := [.null, .null, .null, .null, .null, .null, .null, .null, .int 0, .int 0, .int 0, .int 0, .int 0, .int 0]) hC inIX4_init_X2 tyX2 tyX2_ok (uX4_init__o _ (List.mem_of_getElem? (l := owX4_init) (i := 2) rfl)) (uX4_init__X3_init _ (List.mem_of_getElem? (l := owX3_init) (i := 5) rfl)) (uX4_init__X2_init _ (List.mem_of_getElem? (l := owX2_init) (i := 15) rfl)) rfl hfX2 (Nat.le_of_ble_eq_true rfl) (Nat.le_of_ble_eq_true rfl) dX4_init_38 41 rfl (fun q10 => ?_)
  refine y_dup hC dX4_init_41 rfl 42 rfl ?_
  refine y_init hC (ciX2_init_10 (zl z) g) gX4_init_X2_init rfl ⟨rfl, rfl⟩ (uX4_init__X2_init _ (List.mem_of_getElem? (l := owX2_init) (i := 15) rfl)) (uX4_init__o _ (List.mem_of_getElem? (l := owX4_init) (i := 24) rfl)) (uX4_init__X3_init _ (List.mem_of_getElem? (l := owX3_init) (i := 8) rfl)) rfl hdI_X2_init ⟨Nat.le_of_ble_eq_true rfl, Nat.le_of_ble_eq_true rfl⟩ ⟨Nat.le_of_ble_eq_true rfl, Nat.le_of_ble_eq_true rfl⟩ (Nat.le_of_ble_eq_true rfl) dX4_init_42 45 rfl (fun a10 M10 h10 p10 => ?_)
  rw [← h10]
  refine y_put (C := RX4) (T := TX4) (N := 12) (ci := 4) (ty := .object "TwoReels$Tape") (v := .ref (a10 10)) (fs' := [.ref (a1 1), .ref (a37 37), .ref (a39 39), .ref (a10 10), .null, .null, .null, .null, .null, .int 0, .int 0, .int 0]) hC hIn inIX4_init tyX4 tyX4_ok nmX4 rfl 3 (by decide) (uX4_init__o _ (List.mem_of_getElem? (l := owX4_init) (i := 12) rfl)) rfl (by decide +kernel) rfl rfl (Nat.le_of_ble_eq_true rfl) rfl dX4_init_45 48 rfl ?_
  refine y_aload_n hC dX4_init_48 0 rfl 49 rfl ?_
  refine y_new (C := RX2) (T := TX2) (N := 14) (ci := 2) (fs := [.null, .null, .null, .null, .null, .null, .null, .null, .int 0, .int 0, .int 0, .int 0, .int 0, .int 0]) hC inIX4_init_X2 tyX2 tyX2_ok (uX4_init__o _ (List.mem_of_getElem? (l := owX4_init) (i := 2) rfl)) (uX4_init__X3_init _ (List.mem_of_getElem? (l := owX3_init) (i := 5) rfl)) (uX4_init__X2_init _ (List.mem_of_getElem? (l := owX2_init) (i := 15) rfl)) rfl hfX2 (Nat.le_of_ble_eq_true rfl) (Nat.le_of_ble_eq_true rfl) dX4_init_49 52 rfl (fun q19 => ?_)
  refine y_dup hC dX4_init_52 rfl 53 rfl ?_
  refine y_init hC (ciX2_init_19 (zl z) g) gX4_init_X2_init rfl ⟨rfl, rfl⟩ (uX4_init__X2_init _ (List.mem_of_getElem? (l := owX2_init) (i := 15) rfl)) (uX4_init__o _ (List.mem_of_getElem? (l := owX4_init) (i := 24) rfl)) (uX4_init__X3_init _ (List.mem_of_getElem? (l := owX3_init) (i := 8) rfl)) rfl hdI_X2_init ⟨Nat.le_of_ble_eq_true rfl, Nat.le_of_ble_eq_true rfl⟩ ⟨Nat.le_of_ble_eq_true rfl, Nat.le_of_ble_eq_true rfl⟩ (Nat.le_of_ble_eq_true rfl) dX4_init_53 56 rfl (fun a19 M19 h19 p19 => ?_)
  rw [← h19]
  refine y_put (C := RX4) (T := TX4) (N := 12) (ci := 4) (ty := .object "TwoReels$Tape") (v := .ref (a19 19)) (fs' := [.ref (a1 1), .ref (a37 37), .ref (a39 39), .ref (a10 10), .ref (a19 19), .null, .null, .null, .null, .int 0, .int 0, .int 0]) hC hIn inIX4_init tyX4 tyX4_ok nmX4 rfl 4 (by decide) (uX4_init__o _ (List.mem_of_getElem? (l := owX4_init) (i := 13) rfl)) rfl (by decide +kernel) rfl rfl (Nat.le_of_ble_eq_true rfl) rfl dX4_init_56 59 rfl ?_
  refine y_aload_n hC dX4_init_59 0 rfl 60 rfl ?_
  refine y_new (C := RX1) (T := TX1) (N := 3) (ci := 1) (fs := [.null, .int 0, .int 0]) hC inIX4_init_X1 tyX1 tyX1_ok (uX4_init__o _ (List.mem_of_getElem? (l := owX4_init) (i := 14) rfl)) (uX4_init__o _ (List.mem_of_getElem? (l := owX4_init) (i := 15) rfl)) (uX4_init__o _ (List.mem_of_getElem? (l := owX4_init) (i := 16) rfl)) rfl hfX1 (Nat.le_of_ble_eq_true rfl) (Nat.le_of_ble_eq_true rfl) dX4_init_60 63 rfl (fun q44 => ?_)
  refine y_dup hC dX4_init_63 rfl 64 rfl ?_
  refine y_initN hC (ciX1_init_44 (zl z) g) gX4_init_X1_init_n38 rfl ⟨rfl, rfl⟩ (uX4_init__o _ (List.mem_of_getElem? (l := owX4_init) (i := 16) rfl)) 16 rfl (uX4_init__o _ (List.mem_of_getElem? (l := owX4_init) (i := 27) rfl)) rfl hdI_X1_init ⟨Nat.le_of_ble_eq_true rfl, Nat.le_of_ble_eq_true rfl⟩ ⟨Nat.le_of_ble_eq_true rfl, Nat.le_of_ble_eq_true rfl⟩ (Nat.le_of_ble_eq_true rfl) dX4_init_64 67 rfl (fun a44 M44 h44 p44 => ?_)
  rw [← h44]
  refine y_put (C := RX4) (T := TX4) (N := 12) (ci := 4) (ty := .object "TwoReels$Sheet") (v := .ref (a44 44)) (fs' := [.ref (a1 1), .ref (a37 37), .ref (a39 39), .ref (a10 10), .ref (a19 19), .ref (a44 44), .null, .null, .null, .int 0, .int 0, .int 0]) hC hIn inIX4_init tyX4 tyX4_ok nmX4 rfl 5 (by decide) (uX4_init__o _ (List.mem_of_getElem? (l := owX4_init) (i := 17) rfl)) rfl (by decide +kernel) rfl rfl (Nat.le_of_ble_eq_true rfl) rfl dX4_init_67 70 rfl ?_
  refine y_aload_n hC dX4_init_70 0 rfl 71 rfl ?_
  refine y_new (C := RX1) (T := TX1) (N := 3) (ci := 1) (fs := [.null, .int 0, .int 0]) hC inIX4_init_X1 tyX1 tyX1_ok (uX4_init__o _ (List.mem_of_getElem? (l := owX4_init) (i := 14) rfl)) (uX4_init__o _ (List.mem_of_getElem? (l := owX4_init) (i := 15) rfl)) (uX4_init__o _ (List.mem_of_getElem? (l := owX4_init) (i := 16) rfl)) rfl hfX1 (Nat.le_of_ble_eq_true rfl) (Nat.le_of_ble_eq_true rfl) dX4_init_71 74 rfl (fun q46 => ?_)
  refine y_dup hC dX4_init_74 rfl 75 rfl ?_
  refine y_initN hC (ciX1_init_46 (zl z) g) gX4_init_X1_init_n38 rfl ⟨rfl, rfl⟩ (uX4_init__o _ (List.mem_of_getElem? (l := owX4_init) (i := 16) rfl)) 16 rfl (uX4_init__o _ (List.mem_of_getElem? (l := owX4_init) (i := 27) rfl)) rfl hdI_X1_init ⟨Nat.le_of_ble_eq_true rfl, Nat.le_of_ble_eq_true rfl⟩ ⟨Nat.le_of_ble_eq_true rfl, Nat.le_of_ble_eq_true rfl⟩ (Nat.le_of_ble_eq_true rfl) dX4_init_75 78 rfl (fun a46 M46 h46 p46 => ?_)
  rw [← h46]
  refine y_put (C := RX4) (T := TX4) (N := 12) (ci := 4) (ty := .object "TwoReels$Sheet") (v := .ref (a46 46)) (fs' := [.ref (a1 1), .ref (a37 37), .ref (a39 39), .ref (a10 10), .ref (a19 19), .ref (a44 44), .ref (a46 46), .null, .null, .int 0, .int 0, .int 0]) hC hIn inIX4_init tyX4 tyX4_ok nmX4 rfl 6 (by decide) (uX4_init__o _ (List.mem_of_getElem? (l := owX4_init) (i := 18) rfl)) rfl (by decide +kernel) rfl rfl (Nat.le_of_ble_eq_true rfl) rfl dX4_init_78 81 rfl ?_
  refine y_aload_n hC dX4_init_81 0 rfl 82 rfl ?_
  refine y_new (C := RX1) (T := TX1) (N := 3) (ci := 1) (fs := [.null, .int 0, .int 0]) hC inIX4_init_X1 tyX1 tyX1_ok (uX4_init__o _ (List.mem_of_getElem? (l := owX4_init) (i := 14) rfl)) (uX4_init__o _ (List.mem_of_getElem? (l := owX4_init) (i := 15) rfl)) (uX4_init__o _ (List.mem_of_getElem? (l := owX4_init) (i := 16) rfl)) rfl hfX1 (Nat.le_of_ble_eq_true rfl) (Nat.le_of_ble_eq_true rfl) dX4_init_82 85 rfl (fun q48 => ?_)
  refine y_dup hC dX4_init_85 rfl 86 rfl ?_
  refine y_initN hC (ciX1_init_48 (zl z) g) gX4_init_X1_init_n38 rfl ⟨rfl, rfl⟩ (uX4_init__o _ (List.mem_of_getElem? (l := owX4_init) (i := 16) rfl)) 16 rfl (uX4_init__o _ (List.mem_of_getElem? (l := owX4_init) (i := 27) rfl)) rfl hdI_X1_init ⟨Nat.le_of_ble_eq_true rfl, Nat.le_of_ble_eq_true rfl⟩ ⟨Nat.le_of_ble_eq_true rfl, Nat.le_of_ble_eq_true rfl⟩ (Nat.le_of_ble_eq_true rfl) dX4_init_86 89 rfl (fun a48 M48 h48 p48 => ?_)
  rw [← h48]
  refine y_put (C := RX4) (T := TX4) (N := 12) (ci := 4) (ty := .object "TwoReels$Sheet") (v := .ref (a48 48)) (fs' := [.ref (a1 1), .ref (a37 37), .ref (a39 39), .ref (a10 10), .ref (a19 19), .ref (a44 44), .ref (a46 46), .ref (a48 48), .null, .int 0, .int 0, .int 0]) hC hIn inIX4_init tyX4 tyX4_ok nmX4 rfl 7 (by decide) (uX4_init__o _ (List.mem_of_getElem? (l := owX4_init) (i := 19) rfl)) rfl (by decide +kernel) rfl rfl (Nat.le_of_ble_eq_true rfl) rfl dX4_init_89 92 rfl ?_
  refine y_aload_n hC dX4_init_92 0 rfl 93 rfl ?_
  refine y_new (C := RX1) (T := TX1) (N := 3) (ci := 1) (fs := [.null, .int 0, .int 0]) hC inIX4_init_X1 tyX1 tyX1_ok (uX4_init__o _ (List.mem_of_getElem? (l := owX4_init) (i := 14) rfl)) (uX4_init__o _ (List.mem_of_getElem? (l := owX4_init) (i := 15) rfl)) (uX4_init__o _ (List.mem_of_getElem? (l := owX4_init) (i := 16) rfl)) rfl hfX1 (Nat.le_of_ble_eq_true rfl) (Nat.le_of_ble_eq_true rfl) dX4_init_93 96 rfl (fun q50 => ?_)
  refine y_dup hC dX4_init_96 rfl 97 rfl ?_
  refine y_initN hC (ciX1_init_50 (zl z) g) gX4_init_X1_init_n38 rfl ⟨rfl, rfl⟩ (uX4_init__o _ (List.mem_of_getElem? (l := owX4_init) (i := 16) rfl)) 16 rfl (uX4_init__o _ (List.mem_of_getElem? (l := owX4_init) (i := 27) rfl)) rfl hdI_X1_init ⟨Nat.le_of_ble_eq_true rfl, Nat.le_of_ble_eq_true rfl⟩ ⟨Nat.le_of_ble_eq_true rfl, Nat.le_of_ble_eq_true rfl⟩ (Nat.le_of_ble_eq_true rfl) dX4_init_97 100 rfl (fun a50 M50 h50 p50 => ?_)
  rw [← h50]
  refine y_put (C := RX4) (T := TX4) (N := 12) (ci := 4) (ty := .object "TwoReels$Sheet") (v := .ref (a50 50)) (fs' := [.ref (a1 1), .ref (a37 37), .ref (a39 39), .ref (a10 10), .ref (a19 19), .ref (a44 44), .ref (a46 46), .ref (a48 48), .ref (a50 50), .int 0, .int 0, .int 0]) hC hIn inIX4_init tyX4 tyX4_ok nmX4 rfl 8 (by decide) (uX4_init__o _ (List.mem_of_getElem? (l := owX4_init) (i := 20) rfl)) rfl (by decide +kernel) rfl rfl (Nat.le_of_ble_eq_true rfl) rfl dX4_init_100 103 rfl ?_
  refine y_aload_n hC dX4_init_103 0 rfl 104 rfl ?_
  refine y_iconst (v := 0) hC dX4_init_104 (by decide) 105 rfl ?_
  refine y_put (C := RX4) (T := TX4) (N := 12) (ci := 4) (ty := .int) (v := .int 0) (fs' := [.ref (a1 1), .ref (a37 37), .ref (a39 39), .ref (a10 10), .ref (a19 19), .ref (a44 44), .ref (a46 46), .ref (a48 48), .ref (a50 50), .int 0, .int 0, .int 0]) hC hIn inIX4_init tyX4 tyX4_ok nmX4 rfl 9 (by decide) (uX4_init__o _ (List.mem_of_getElem? (l := owX4_init) (i := 21) rfl)) rfl (by decide +kernel) rfl rfl (Nat.le_of_ble_eq_true rfl) rfl dX4_init_105 108 rfl ?_
  refine y_aload_n hC dX4_init_108 0 rfl 109 rfl ?_
  refine y_iconst (v := 0) hC dX4_init_109 (by decide) 110 rfl ?_
  refine y_put (C := RX4) (T := TX4) (N := 12) (ci := 4) (ty := .int) (v := .int 0) (fs' := [.ref (a1 1), .ref (a37 37), .ref (a39 39), .ref (a10 10), .ref (a19 19), .ref (a44 44), .ref (a46 46), .ref (a48 48), .ref (a50 50), .int 0, .int 0, .int 0]) hC hIn inIX4_init tyX4 tyX4_ok nmX4 rfl 10 (by decide) (uX4_init__o _ (List.mem_of_getElem? (l := owX4_init) (i := 22) rfl)) rfl (by decide +kernel) rfl rfl (Nat.le_of_ble_eq_true rfl) rfl dX4_init_110 113 rfl ?_
  refine y_aload_n hC dX4_init_113 0 rfl 114 rfl ?_
  refine y_iconst (v := 0) hC dX4_init_114 (by decide) 115 rfl ?_
  refine y_put (C := RX4) (T := TX4) (N := 12) (ci := 4) (ty := .int) (v := .int 0) (fs' := [.ref (a1 1), .ref (a37 37), .ref (a39 39), .ref (a10 10), .ref (a19 19), .ref (a44 44), .ref (a46 46), .ref (a48 48), .ref (a50 50), .int 0, .int 0, .int 0]) hC hIn inIX4_init tyX4 tyX4_ok nmX4 rfl 11 (by decide) (uX4_init__o _ (List.mem_of_getElem? (l := owX4_init) (i := 23) rfl)) rfl (by decide +kernel) rfl rfl (Nat.le_of_ble_eq_true rfl) rfl dX4_init_115 118 rfl ?_
  obtain ⟨a, ha⟩ : ∃ a : Nat → Nat, a = fun k => cond (Nat.beq k 0) (h0) (cond (Nat.ble 1 k && Nat.ble k 9) (a1 k) (cond (Nat.ble 28 k && Nat.ble k 38) (a37 k) (cond (Nat.ble 39 k && Nat.ble k 43) (a39 k) (cond (Nat.ble 10 k && Nat.ble k 18) (a10 k) (cond (Nat.ble 19 k && Nat.ble k 27) (a19 k) (cond (Nat.ble 44 k && Nat.ble k 45) (a44 k) (cond (Nat.ble 46 k && Nat.ble k 47) (a46 k) (cond (Nat.ble 48 k && Nat.ble k 49) (a48 k) (cond (Nat.ble 50 k && Nat.ble k 51) (a50 k) (0)))))))))) := ⟨_, rfl⟩
  obtain ⟨M, hM⟩ : ∃ M : MM, M = fun k => cond (Nat.beq k 0) (fun j => 0) (cond (Nat.ble 1 k && Nat.ble k 9) (M1 k) (cond (Nat.ble 28 k && Nat.ble k 38) (M37 k) (cond (Nat.ble 39 k && Nat.ble k 43) (M39 k) (cond (Nat.ble 10 k && Nat.ble k 18) (M10 k) (cond (Nat.ble 19 k && Nat.ble k 27) (M19 k) (cond (Nat.ble 44 k && Nat.ble k 45) (M44 k) (cond (Nat.ble 46 k && Nat.ble k 47) (M46 k) (cond (Nat.ble 48 k && Nat.ble k 49) (M48 k) (cond (Nat.ble 50 k && Nat.ble k 51) (M50 k) (fun _ => 0)))))))))) := ⟨_, rfl⟩
  have ha0 : a 0 = h0 := by rw [ha]; rfl
  refine YY.to (ws' := Wp g a [0, 1, 2, 3, 4, 5, 6, 7, 8, 9, 37, 38, 28, 29, 30, 31, 32, 33, 34, 35, 36, 39, 40, 41, 42, 43, 10, 11, 12, 13, 14, 15, 16, 17, 18, 19, 20, 21, 22, 23, 24, 25, 26, 27, 44, 45, 46, 47, 48, 49, 50, 51] M) (by subst ha; subst hM; rfl) ?_
  exact y_ret hR hC a M dX4_init_118 ha0 (by rw [hM]; exact ⟨p1, p37, p44, p46, p48, p50, rfl, rfl, rfl⟩) rfl rfl rfl
