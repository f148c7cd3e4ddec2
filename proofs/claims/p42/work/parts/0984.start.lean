theorem hfX4 : ∀ j, j < 12 → defaultValue (tyX4 j) = vp_V ([.null, .null, .null, .null, .null, .null, .null, .null, .null, .int 0, .int 0, .int 0]) j := by
  intro j hj
  rcases (show j = 0 ∨ j = 1 ∨ j = 2 ∨ j = 3 ∨ j = 4 ∨ j = 5 ∨ j = 6 ∨ j = 7 ∨ j = 8 ∨ j = 9 ∨ j = 10 ∨ j = 11 by omega) with rfl | rfl | rfl | rfl | rfl | rfl | rfl | rfl | rfl | rfl | rfl | rfl <;> rfl
theorem inIL_X4 : ∀ w ∈ u_ws RX4 TX4 12, w ∈ wsL_law := uL_law__wsX40
theorem hfX5 : ∀ j, j < 26 → defaultValue (tyX5 j) = vp_V ([.null, .null, .null, .null, .int 0, .null, .null, .int 0, .null, .int 0, .int 0, .int 0, .int 0, .int 0, .int 0, .int 0, .null, .null, .null, .null, .int 0, .int 0, .null, .null, .null, .int 0]) j := by
  intro j hj
  rcases (show j = 0 ∨ j = 1 ∨ j = 2 ∨ j = 3 ∨ j = 4 ∨ j = 5 ∨ j = 6 ∨ j = 7 ∨ j = 8 ∨ j = 9 ∨ j = 10 ∨ j = 11 ∨ j = 12 ∨ j = 13 ∨ j = 14 ∨ j = 15 ∨ j = 16 ∨ j = 17 ∨ j = 18 ∨ j = 19 ∨ j = 20 ∨ j = 21 ∨ j = 22 ∨ j = 23 ∨ j = 24 ∨ j = 25 by omega) with rfl | rfl | rfl | rfl | rfl | rfl | rfl | rfl | rfl | rfl | rfl | rfl | rfl | rfl | rfl | rfl | rfl | rfl | rfl | rfl | rfl | rfl | rfl | rfl | rfl | rfl <;> rfl
theorem inIL_X5 : ∀ w ∈ u_ws RX5 TX5 26, w ∈ wsL_law := uL_law__wsX50
theorem hdIL_X4_init : yX4_init.cls ≠ "java/lang/invoke/MethodHandle" ∧ yX4_init.cls ≠ "java/lang/invoke/VarHandle" ∧ (parseMethodDescriptor yX4_init.desc).map (fun d => d.parameters.length) = some 0 := by decide +kernel
theorem hdIL_X5_init : yX5_init.cls ≠ "java/lang/invoke/MethodHandle" ∧ yX5_init.cls ≠ "java/lang/invoke/VarHandle" ∧ (parseMethodDescriptor yX5_init.desc).map (fun d => d.parameters.length) = some 0 := by decide +kernel
theorem y_astore_n {z : ZZ} {g : GG} {A : Nat → Prop} {Qf : State → Prop} {nL pc c n : Nat} {L : List (Nat × Value)} {st : List Value} {ws : va_W} {cc : ByteArray} {Ts : List Cond} {own : String} {rm : Room} (hC : CY z g A cc nL Ts own rm) {i : Fin 4} {x : Nat} {L' : List (Nat × Value)} (hd : decode cc pc = .ok (.astore_n i, 1)) (hi : (i : Nat) < nL) (hl : ((i : Nat), Value.ref x) :: L.filter (fun q => !(q.1 == (i : Nat)) && !(q.1 + 1 == (i : Nat) && q.2.category == 2)) = L') (pc' : Nat) (he : pc + 1 = pc') (k : YY z g A Qf nL pc' L' st ws c n) : YY z g A Qf nL pc L (.ref x :: st) ws c n := by
  subst he; exact fun H locs ls hP hD hS h => lv_astore_n hC.1.1 hC.1.2.1 hd rfl h hi hl (fun ls' h' => k H locs ls' hP hD hS h')
theorem all67 : ∀ k, k < 67 → k ∈ [0, 1, 2, 3, 4, 5, 6, 7, 8, 9, 37, 38, 28, 29, 30, 31, 32, 33, 34, 35, 36, 39, 40, 41, 42, 43, 10, 11, 12, 13, 14, 15, 16, 17, 18, 19, 20, 21, 22, 23, 24, 25, 26, 27, 44, 45, 46, 47, 48, 49, 50, 51, 52, 53, 54, 55, 56, 57, 58, 59, 60, 61, 62, 63, 64, 65, 66] := by decide +kernel
set_option maxHeartbeats 8000000 in
set_option maxRecDepth 100000 in
theorem start_all {p : Program} {e : Env} {s : State} {m : MethodId} {below : List Frame} {meth : Method} {c : Code} (l : Launch) {b L : Nat} {xs : Nat → Int32} (hL : L ≤ 3072) (C0 : lw_At p s m meth c b L xs) : W p l e room_1 s m #[Value.ref b] below meth c s.heap [] 0 0 (lw_Z below #[Value.ref b] s) (entryFrame m ([Value.ref b] : List Value).toArray 4) := by
  obtain ⟨hx, hb, hr, hml, hown, hts, hX, hbl, hlocks, hgv⟩ := id C0
  have hbA : ¬ (fun q : Nat => s.heap.size ≤ q) b := Nat.not_le.mpr hbl
  obtain ⟨k0, j0, hk0⟩ := u_known (C := RX0) (T := TX0) (N := 6) (n := 6) hts in_LwsX00 (hts _ (wsL_law_in _ (uL_law__X4_init _ (List.mem_of_getElem? (l := owX4_init) (i := 9) rfl))))
  obtain ⟨k1, j1, hk1⟩ := u_known (C := RX1) (T := TX1) (N := 3) (n := 3) hts in_LwsX10 (hts _ (wsL_law_in _ (uL_law__X4_init _ (List.mem_of_getElem? (l := owX4_init) (i := 15) rfl))))
  obtain ⟨k2, j2, hk2⟩ := u_known (C := RX2) (T := TX2) (N := 14) (n := 14) hts in_LwsX20 (hts _ (wsL_law_in _ (uL_law__X3_init _ (List.mem_of_getElem? (l := owX3_init) (i := 5) rfl))))
  obtain ⟨k3, j3, hk3⟩ := u_known (C := RX3) (T := TX3) (N := 10) (n := 10) hts in_LwsX30 (hts _ (wsL_law_in _ (uL_law__X4_init _ (List.mem_of_getElem? (l := owX4_init) (i := 5) rfl))))
  obtain ⟨k4, j4, hk4⟩ := u_known (C := RX4) (T := TX4) (N := 12) (n := 12) hts in_LwsX40 (hts _ (wsL_law_in _ (uL_law__o _ (List.mem_of_getElem? (l := owL_law) (i := 1) rfl))))
  obtain ⟨k5, j5, hk5⟩ := u_known (C := RX5) (T := TX5) (N := 26) (n := 26) hts in_LwsX50 (hts _ (wsL_law_in _ (uL_law__o _ (List.mem_of_getElem? (l := owL_law) (i := 3) rfl))))
  obtain ⟨dC, dI, hKc⟩ : ∃ (dC : Nat → ClassId) (dI : Nat → Nat → Nat), ∀ (k : Nat) (q : vw_C), vwCl[k]? = some q → u_Kn s q.1 q.2.1 q.2.2 (dC k) (dI k) := by
    refine ⟨fun k => if k = 0 then k0 else if k = 1 then k1 else if k = 2 then k2 else if k = 3 then k3 else if k = 4 then k4 else k5, fun k => if k = 0 then j0 else if k = 1 then j1 else if k = 2 then j2 else if k = 3 then j3 else if k = 4 then j4 else j5, ?_⟩
    intro k q hq
    match k, hq with
    | 0, hq => cases hq; exact hk0
    | 1, hq => cases hq; exact hk1
    | 2, hq => cases hq; exact hk2
    | 3, hq => cases hq; exact hk3
    | 4, hq => cases hq; exact hk4
    | 5, hq => cases hq; exact hk5
    | k + 6, hq => simp [vwCl] at hq
  obtain ⟨cI, aI⟩ := arr_start (hts _ w_ac.1) (Or.inl rfl)
  obtain ⟨cB, aB⟩ := arr_start (hts _ w_ac.2.1) (Or.inr (Or.inl rfl))
  obtain ⟨cZ, aZ⟩ := arr_start (hts _ w_ac.2.2) (Or.inr (Or.inr rfl))
  obtain ⟨fS, fK, fV, hSt⟩ := st_start hts hgv
  obtain ⟨g, hg⟩ : ∃ g : GG, g = ((fun _ => 0), (cI, cB, cZ), (dC, dI), fS, (fK, fV), []) := ⟨_, rfl⟩
  have hSg : StA g (fun q => s.heap.size ≤ q) s s.heap := hSt g (by rw [hg]; rfl) (by rw [hg]; rfl) (by rw [hg]; rfl)
  have hK : va_K (gD g) vwCl (tyG g) s := by
    rw [hg]
    refine ⟨hKc, fun k q hq => ?_⟩
    match k, hq with
    | 0, hq => cases hq; exact aI
    | 1, hq => cases hq; exact aB
    | 2, hq => cases hq; exact aZ
    | k + 3, hq => simp [tyG] at hq
  obtain ⟨z, hz⟩ : ∃ z : ZZ, z = (p, l, e, room_1, s, m, #[Value.ref b], below, meth, c) := ⟨_, rfl⟩
  have hFix : CallFix (zp z) (zm z) (zc z) cL_law 4 (zs z) (za z) wsL_law RL := by
    rw [hz]; exact ⟨hx, hb, hml, hown, fun w hw => hts w (wsL_law_in w hw)⟩
  have es : zs z = s := by rw [hz]; rfl
  have eR : zR z = room_1 := by rw [hz]; rfl
  have hC : CY z g (fun q => s.heap.size ≤ q) cL_law 4 wsL_law RL room_1 := ⟨hFix, eR, by rw [es]; exact hSg, by rw [es]; exact hK, fun q hq => by rw [es] at hq; exact hq⟩
  -- the walk up to the loop
  have walk : YY z g (fun q => s.heap.size ≤ q) (lw_Z below #[Value.ref b] s) 4 0 [(0, .ref b)] [] [] 0 0 := by
    refine y_new (C := RX4) (T := TX4) (N := 12) (ci := 4) (fs := [.null, .null, .null, .null, .null, .null, .null, .null, .null, .int 0, .int 0, .int 0]) hC inIL_X4 tyX4 tyX4_ok (uL_law__o _ (List.mem_of_getElem? (l := owL_law) (i := 0) rfl)) (uL_law__o _ (List.mem_of_getElem? (l := owL_law) (i := 1) rfl)) (uL_law__X2_reset _ (List.mem_of_getElem? (l := owX2_reset) (i := 9) rfl)) rfl hfX4 (Nat.le_of_ble_eq_true rfl) (Nat.le_of_ble_eq_true rfl) dL_law_0 3 rfl (fun q0 => ?_)
    refine y_dup hC dL_law_3 rfl 4 rfl ?_
    refine y_init hC (ciX4_init_0 (zl z) g) gL_law_X4_init rfl ⟨rfl, rfl⟩ (uL_law__X2_reset _ (List.mem_of_getElem? (l := owX2_reset) (i := 9) rfl)) (uL_law__o _ (List.mem_of_getElem? (l := owL_law) (i := 5) rfl)) (uL_law__o _ (List.mem_of_getElem? (l := owL_law) (i := 6) rfl)) rfl hdIL_X4_init ⟨Nat.le_of_ble_eq_true rfl, Nat.le_of_ble_eq_true rfl⟩ ⟨Nat.le_of_ble_eq_true rfl, Nat.le_of_ble_eq_true rfl⟩ (Nat.le_of_ble_eq_true rfl) dL_law_4 7 rfl (fun a M h0 p0 => ?_)
    rw [← h0]
    refine y_astore_n (L' := [(1, .ref (a 0)), (0, .ref b)]) hC dL_law_7 (by decide) rfl 8 rfl ?_
    refine y_new (C := RX5) (T := TX5) (N := 26) (ci := 5) (fs := [.null, .null, .null, .null, .int 0, .null, .null, .int 0, .null, .int 0, .int 0, .int 0, .int 0, .int 0, .int 0, .int 0, .null, .null, .null, .null, .int 0, .int 0, .null, .null, .null, .int 0]) hC inIL_X5 tyX5 tyX5_ok (uL_law__o _ (List.mem_of_getElem? (l := owL_law) (i := 2) rfl)) (uL_law__o _ (List.mem_of_getElem? (l := owL_law) (i := 3) rfl)) (uL_law__X5_endOf _ (List.mem_of_getElem? (l := owX5_endOf) (i := 5) rfl)) rfl hfX5 (Nat.le_of_ble_eq_true rfl) (Nat.le_of_ble_eq_true rfl) dL_law_8 11 rfl (fun q52 => ?_)
    refine y_dup hC dL_law_11 rfl 12 rfl ?_
    refine y_init hC (ciX5_init_52 (zl z) g) gL_law_X5_init rfl ⟨rfl, rfl⟩ (uL_law__X5_endOf _ (List.mem_of_getElem? (l := owX5_endOf) (i := 5) rfl)) (uL_law__o _ (List.mem_of_getElem? (l := owL_law) (i := 7) rfl)) (uL_law__o _ (List.mem_of_getElem? (l := owL_law) (i := 8) rfl)) rfl hdIL_X5_init ⟨Nat.le_of_ble_eq_true rfl, Nat.le_of_ble_eq_true rfl⟩ ⟨Nat.le_of_ble_eq_true rfl, Nat.le_of_ble_eq_true rfl⟩ (Nat.le_of_ble_eq_true rfl) dL_law_12 15 rfl (fun a5 M5 h5 p5 => ?_)
    rw [← h5]
    refine y_astore_n (L' := [(2, .ref (a5 52)), (1, .ref (a 0)), (0, .ref b)]) hC dL_law_15 (by decide) rfl 16 rfl ?_
    refine y_iconst (v := 0) hC dL_law_16 (by decide) 17 rfl ?_
    refine y_istore_n (L' := [(3, .int 0), (2, .ref (a5 52)), (1, .ref (a 0)), (0, .ref b)]) hC dL_law_17 (by decide) rfl 18 rfl ?_
    refine YY.to (ws' := Wp g (fun k => cond (Nat.ble 52 k) (a5 k) (a k)) [0, 1, 2, 3, 4, 5, 6, 7, 8, 9, 37, 38, 28, 29, 30, 31, 32, 33, 34, 35, 36, 39, 40, 41, 42, 43, 10, 11, 12, 13, 14, 15, 16, 17, 18, 19, 20, 21, 22, 23, 24, 25, 26, 27, 44, 45, 46, 47, 48, 49, 50, 51, 52, 53, 54, 55, 56, 57, 58, 59, 60, 61, 62, 63, 64, 65, 66] (fun k => cond (Nat.ble 52 k) (M5 k) (M k))) (by rw [List.nil_append]; exact Wp_glue) ?_
    obtain ⟨aF, haF⟩ : ∃ aF : Nat → Nat, aF = fun k => cond (Nat.ble 52 k) (a5 k) (a k) := ⟨_, rfl⟩
    obtain ⟨MF, hMF⟩ : ∃ MF : MM, MF = fun k => cond (Nat.ble 52 k) (M5 k) (M k) := ⟨_, rfl⟩
    rw [← haF, ← hMF]
    have e0 : a 0 = aF 0 := by rw [haF]; rfl
    have e52 : a5 52 = aF 52 := by rw [haF]; rfl
    have r4 : r4P MF := by rw [hMF]; exact p0
    have r5 : r5P MF := by rw [hMF]; exact p5
    rw [e0, e52]
    obtain ⟨hR, he⟩ := Rel0 r4 r5
    have hF : full (gp g aF [0, 1, 2, 3, 4, 5, 6, 7, 8, 9, 37, 38, 28, 29, 30, 31, 32, 33, 34, 35, 36, 39, 40, 41, 42, 43, 10, 11, 12, 13, 14, 15, 16, 17, 18, 19, 20, 21, 22, 23, 24, 25, 26, 27, 44, 45, 46, 47, 48, 49, 50, 51, 52, 53, 54, 55, 56, 57, 58, 59, 60, 61, 62, 63, 64, 65, 66]) := all67
    intro H locs ls hP hD hS hl
    have hAA : ∀ q, AA (gp g aF [0, 1, 2, 3, 4, 5, 6, 7, 8, 9, 37, 38, 28, 29, 30, 31, 32, 33, 34, 35, 36, 39, 40, 41, 42, 43, 10, 11, 12, 13, 14, 15, 16, 17, 18, 19, 20, 21, 22, 23, 24, 25, 26, 27, 44, 45, 46, 47, 48, 49, 50, 51, 52, 53, 54, 55, 56, 57, 58, 59, 60, 61, 62, 63, 64, 65, 66]) q → s.heap.size ≤ q := by
      rintro q ⟨k, hk, rfl⟩
      obtain ⟨i, hi, hw⟩ := Wd_at (g := gp g aF [0, 1, 2, 3, 4, 5, 6, 7, 8, 9, 37, 38, 28, 29, 30, 31, 32, 33, 34, 35, 36, 39, 40, 41, 42, 43, 10, 11, 12, 13, 14, 15, 16, 17, 18, 19, 20, 21, 22, 23, 24, 25, 26, 27, 44, 45, 46, 47, 48, 49, 50, 51, 52, 53, 54, 55, 56, 57, 58, 59, 60, 61, 62, 63, 64, 65, 66]) (M := MF) hk
      exact hD.2 i _ hw
    have hI : IV (gp g aF [0, 1, 2, 3, 4, 5, 6, 7, 8, 9, 37, 38, 28, 29, 30, 31, 32, 33, 34, 35, 36, 39, 40, 41, 42, 43, 10, 11, 12, 13, 14, 15, 16, 17, 18, 19, 20, 21, 22, 23, 24, 25, 26, 27, 44, 45, 46, 47, 48, 49, 50, 51, 52, 53, 54, 55, 56, 57, 58, 59, 60, 61, 62, 63, 64, 65, 66]) MF (zs z) H := by
      refine ⟨(by decide +kernel : ([0, 1, 2, 3, 4, 5, 6, 7, 8, 9, 37, 38, 28, 29, 30, 31, 32, 33, 34, 35, 36, 39, 40, 41, 42, 43, 10, 11, 12, 13, 14, 15, 16, 17, 18, 19, 20, 21, 22, 23, 24, 25, 26, 27, 44, 45, 46, 47, 48, 49, 50, 51, 52, 53, 54, 55, 56, 57, 58, 59, 60, 61, 62, 63, 64, 65, 66] : List Nat).Nodup), hP, ⟨hD.1, fun k q hq => ?_⟩, by rw [es]; exact hK⟩
      have hm : q ∈ Wd (gp g aF [0, 1, 2, 3, 4, 5, 6, 7, 8, 9, 37, 38, 28, 29, 30, 31, 32, 33, 34, 35, 36, 39, 40, 41, 42, 43, 10, 11, 12, 13, 14, 15, 16, 17, 18, 19, 20, 21, 22, 23, 24, 25, 26, 27, 44, 45, 46, 47, 48, 49, 50, 51, 52, 53, 54, 55, 56, 57, 58, 59, 60, 61, 62, 63, 64, 65, 66]) MF := List.mem_of_getElem? hq
      obtain ⟨k', hk', rfl⟩ := List.mem_map.mp hm
      exact ⟨k', hk', rfl⟩
    have hCX : CX z (gp g aF [0, 1, 2, 3, 4, 5, 6, 7, 8, 9, 37, 38, 28, 29, 30, 31, 32, 33, 34, 35, 36, 39, 40, 41, 42, 43, 10, 11, 12, 13, 14, 15, 16, 17, 18, 19, 20, 21, 22, 23, 24, 25, 26, 27, 44, 45, 46, 47, 48, 49, 50, 51, 52, 53, 54, 55, 56, 57, 58, 59, 60, 61, 62, 63, 64, 65, 66]) cL_law 4 wsL_law RL room_1 := ⟨hFix, eR, by rw [es]; exact hSg.narrow hAA⟩
    have hXX : SX z (gp g aF [0, 1, 2, 3, 4, 5, 6, 7, 8, 9, 37, 38, 28, 29, 30, 31, 32, 33, 34, 35, 36, 39, 40, 41, 42, 43, 10, 11, 12, 13, 14, 15, 16, 17, 18, 19, 20, 21, 22, 23, 24, 25, 26, 27, 44, 45, 46, 47, 48, 49, 50, 51, 52, 53, 54, 55, 56, 57, 58, 59, 60, 61, 62, 63, 64, 65, 66]) b L xs := ⟨by rw [es]; exact hX, by rw [es]; exact hbl, fun q => absurd (hAA b q) hbA⟩
    have loop := law_loop (Qf := lw_Z below #[Value.ref b] s) hCX hF hXX hL (fun pc ls M2 H2 locs2 hd hI2 hS2 => ?_) (L + 1) 0 MF (by omega) (by omega) hR
    · have g1 : W (zp z) (zl z) (ze z) (zR z) (zs z) (zm z) (za z) (zb z) (zh z) (zc z) H [] (zR z).cells (zR z).slots (lw_Z below #[Value.ref b] s) (F0 (zm z) 18 ls []) := by
        refine XX.sub [3, 2, 1, 0] rfl loop H [] ls hI ⟨hS.1, fun q h1 h2 => hS.2.1 q h1 (fun h3 => ?_), fun _ h => by cases h⟩ hl
        rw [es] at h1
        exact absurd h1 (Nat.not_lt.mpr h3)
      have hf : ∀ q ∈ locs, (zs z).heap.size ≤ q.base := fun q hq => by rw [es]; exact hS.2.2 q hq
      have g2 := va_forget hf g1
      rw [eR] at g2 ⊢
      exact g2
    · have hf : ∀ q ∈ locs2, (zs z).heap.size ≤ q.base := fun q hq => by rw [es]; exact hAA _ (hS2.2.2 q hq)
      refine va_forget hf ?_
      rw [hz]
      exact lw_ret hx hb hr hlocks hd
  have hl := lv_entry ([.ref b]) (n := 4) (Nat.le_of_ble_eq_true rfl)
  rw [lg_entry_eq]
  have hP0 : va_P (gD g) vwCl [] s.heap := fun k q h => by simp at h
  have hD0 : va_D (fun q : Nat => s.heap.size ≤ q) [] := ⟨fun i j p q h => by simp at h, fun k q h => by simp at h⟩
  rw [hz] at walk
  exact walk s.heap [] _ hP0 hD0 va_S.rf hl
