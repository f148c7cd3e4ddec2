set_option maxRecDepth 20000 in
theorem inX5_readLine_X5 : ∀ w ∈ u_ws RX5 TX5 26, w ∈ wsX5_readLine := by decide +kernel
set_option maxRecDepth 100000 in
set_option maxHeartbeats 4000000 in
theorem ctX5_readLine (l : Launch) (g : GG) (M : MM)  (Q : MM → Prop) (hF : full g) (hw : wX5_readLine Q M ) : MV g l yX5_readLine wsX5_readLine (rmOf 4 92) [.ref (gA g 52)] M Q := by
  refine mk_MV (cc := cX5_readLine) (maxL := 2) (by decide) rfl (Nat.le_of_ble_eq_true rfl) ?_
  intro z Qf hC hR
  show XX z g Qf 2 0 [(0, .ref (gA g 52))] [] M
  have B202 : ∀ (M : MM), wX5_readLine_202 Q M → XX z g Qf 2 202 [(0, .ref (gA g 52))] [] M := by
    intro M hw
    refine q_aload_n hC dX5_readLine_202 0 rfl 203 rfl ?_
    refine r_callV hC (go_V (q := (RX5, TX5, 26)) (As := []) (rest := []) hC (ctX5_next (zl z) g M _ hF hw) 0 gX5_readLine_X5_next rfl ⟨rfl, rfl⟩ (by decide +kernel) ⟨Nat.le_of_ble_eq_true rfl, Nat.le_of_ble_eq_true rfl⟩ (hF.ob 52 (by decide) (fun _ => rfl)) rfl rfl rfl (Nat.le_of_ble_eq_true rfl) dX5_readLine_203) 206 rfl (fun M19 hw => ?_)
    exact r_vret hR dX5_readLine_206 hw
  have B198 : ∀ (M : MM) (p0 : Int32), wX5_readLine_198 Q M p0 → XX z g Qf 2 198 [(0, .ref (gA g 52))] [.int p0, .ref (gA g 52)] M := by
    intro M p0 hw
    refine q_iconst (v := 2) hC dX5_readLine_198 rfl 199 rfl ?_
    refine r_callV hC (go_V (q := (RX5, TX5, 26)) (As := [.int p0, .int 2]) (rest := []) hC (ctX5_needs (zl z) g M p0 2 _ hF hw) 2 gX5_readLine_X5_needs rfl ⟨rfl, rfl⟩ (by decide +kernel) ⟨Nat.le_of_ble_eq_true rfl, Nat.le_of_ble_eq_true rfl⟩ (hF.ob 52 (by decide) (fun _ => rfl)) rfl rfl rfl (Nat.le_of_ble_eq_true rfl) dX5_readLine_199) 202 rfl (fun M18 hw => ?_)
    exact XX.sub [0] rfl (B202 M18 hw)
  have B177 : ∀ (M : MM), wX5_readLine_177 Q M → XX z g Qf 2 177 [(0, .ref (gA g 52))] [] M := by
    intro M hw
    refine q_aload_n hC dX5_readLine_177 0 rfl 178 rfl ?_
    refine q_getI (C := RX5) (T := TX5) (N := 26) (ci := 5) hC inX5_readLine_X5 (hF.ob 52 (by decide) (fun _ => rfl)) rfl 14 (by decide) (List.mem_of_getElem? (i := 3) (by decide +kernel)) rfl (fun _ => rfl) dX5_readLine_178 181 rfl ?_
    refine q_if_ne hC 202 dX5_readLine_181 (by decide) 184 rfl hw (fun hw => ?_) (fun hw => ?_)
    · exact XX.sub [0] rfl (B202 M hw)
    · refine q_aload_n hC dX5_readLine_184 0 rfl 185 rfl ?_
      refine q_aload_n hC dX5_readLine_185 0 rfl 186 rfl ?_
      refine q_getI (C := RX5) (T := TX5) (N := 26) (ci := 5) hC inX5_readLine_X5 (hF.ob 52 (by decide) (fun _ => rfl)) rfl 12 (by decide) (List.mem_of_getElem? (i := 1) (by decide +kernel)) rfl (fun _ => rfl) dX5_readLine_186 189 rfl ?_
      refine q_iconst (v := 3) hC dX5_readLine_189 rfl 190 rfl ?_
      refine q_icmp_ne hC 197 dX5_readLine_190 (by decide) 193 rfl hw (fun hw => ?_) (fun hw => ?_)
      · refine q_iconst (v := 0) hC dX5_readLine_197 rfl 198 rfl ?_
        exact XX.sub [0] rfl (B198 M 0 hw)
      · refine q_iconst (v := 1) hC dX5_readLine_193 rfl 194 rfl ?_
        refine q_goto hC 198 dX5_readLine_194 (by decide) ?_
        exact XX.sub [0] rfl (B198 M 1 hw)
  have B105 : ∀ (M : MM) (v1 : Int32), wX5_readLine_105 Q M v1 → XX z g Qf 2 105 [(0, .ref (gA g 52)), (1, .int v1)] [] M := by
    intro M v1 hw
    refine q_aload_n hC dX5_readLine_105 0 rfl 106 rfl ?_
    refine r_callV hC (go_V (q := (RX5, TX5, 26)) (As := []) (rest := []) hC (ctX5_next (zl z) g M _ hF hw) 0 gX5_readLine_X5_next rfl ⟨rfl, rfl⟩ (by decide +kernel) ⟨Nat.le_of_ble_eq_true rfl, Nat.le_of_ble_eq_true rfl⟩ (hF.ob 52 (by decide) (fun _ => rfl)) rfl rfl rfl (Nat.le_of_ble_eq_true rfl) dX5_readLine_106) 109 rfl (fun M7 hw => ?_)
    refine q_aload_n hC dX5_readLine_109 0 rfl 110 rfl ?_
    refine q_getI (C := RX5) (T := TX5) (N := 26) (ci := 5) hC inX5_readLine_X5 (hF.ob 52 (by decide) (fun _ => rfl)) rfl 14 (by decide) (List.mem_of_getElem? (i := 3) (by decide +kernel)) rfl (fun _ => rfl) dX5_readLine_110 113 rfl ?_
    refine q_if_le hC 117 dX5_readLine_113 (by decide) 116 rfl hw (fun hw => ?_) (fun hw => ?_)
    · refine q_iload_n hC dX5_readLine_117 1 rfl 118 rfl ?_
      refine q_bipush (v := 10) hC dX5_readLine_118 (by decide) 120 rfl ?_
      refine q_icmp_ne hC 130 dX5_readLine_120 (by decide) 123 rfl hw (fun hw => ?_) (fun hw => ?_)
      · refine q_iload_n hC dX5_readLine_130 1 rfl 131 rfl ?_
        refine q_bipush (v := 11) hC dX5_readLine_131 (by decide) 133 rfl ?_
        refine q_icmp_ne hC 159 dX5_readLine_133 (by decide) 136 rfl hw (fun hw => ?_) (fun hw => ?_)
        · refine q_aload_n hC dX5_readLine_159 0 rfl 160 rfl ?_
          refine q_getR (C := RX5) (T := TX5) (N := 26) (ci := 5) hC inX5_readLine_X5 (hF.ob 52 (by decide) (fun _ => rfl)) rfl 3 (by decide) (List.mem_of_getElem? (i := 6) (by decide +kernel)) rfl 56 (fun _ => rfl) dX5_readLine_160 163 rfl ?_
          refine q_iload_n hC dX5_readLine_163 1 rfl 164 rfl ?_
          refine q_aload_n hC dX5_readLine_164 0 rfl 165 rfl ?_
          refine q_iload_n hC dX5_readLine_165 1 rfl 166 rfl ?_
          refine r_callI hC (go_T (As := [.int v1]) (rest := [.ref (gA g 52), .int v1, .ref (gA g 56)]) hC (ctX5_lowest (zl z) g M7 v1 _ hw) 1 gX5_readLine_X5_lowest rfl ⟨rfl, rfl⟩ (by decide +kernel) ⟨Nat.le_of_ble_eq_true rfl, Nat.le_of_ble_eq_true rfl⟩ rfl rfl (Nat.le_of_ble_eq_true rfl) dX5_readLine_166) 169 rfl (fun r8 M9 hw => ?_)
          refine q_iload_n hC dX5_readLine_169 1 rfl 170 rfl ?_
          refine r_callI hC (go_T (As := [.int v1]) (rest := [.int r8, .ref (gA g 52), .int v1, .ref (gA g 56)]) hC (ctX5_highest (zl z) g M9 v1 _ hw) 1 gX5_readLine_X5_highest rfl ⟨rfl, rfl⟩ (by decide +kernel) ⟨Nat.le_of_ble_eq_true rfl, Nat.le_of_ble_eq_true rfl⟩ rfl rfl (Nat.le_of_ble_eq_true rfl) dX5_readLine_170) 173 rfl (fun r10 M11 hw => ?_)
          refine r_callI hC (go_V (q := (RX5, TX5, 26)) (As := [.int r8, .int r10]) (rest := [.int v1, .ref (gA g 56)]) hC (ctX5_readNumber (zl z) g M11 r8 r10 _ hF hw) 2 gX5_readLine_X5_readNumber rfl ⟨rfl, rfl⟩ (by decide +kernel) ⟨Nat.le_of_ble_eq_true rfl, Nat.le_of_ble_eq_true rfl⟩ (hF.ob 52 (by decide) (fun _ => rfl)) rfl rfl rfl (Nat.le_of_ble_eq_true rfl) dX5_readLine_173) 176 rfl (fun r12 M13 hw => ?_)
          obtain ⟨hin, hw⟩ := hw
          refine q_iast hC (hF.ar 56 (by decide) (fun _ => rfl)) hin dX5_readLine_176 177 rfl (fun M14 eM14 => ?_)
          have hw := hw M14 eM14
          exact XX.sub [0] rfl (B177 M14 hw)
        · refine q_aload_n hC dX5_readLine_136 0 rfl 137 rfl ?_
          refine q_getR (C := RX5) (T := TX5) (N := 26) (ci := 5) hC inX5_readLine_X5 (hF.ob 52 (by decide) (fun _ => rfl)) rfl 5 (by decide) (List.mem_of_getElem? (i := 5) (by decide +kernel)) rfl 57 (fun _ => rfl) dX5_readLine_137 140 rfl ?_
          refine q_aload_n hC dX5_readLine_140 0 rfl 141 rfl ?_
          refine q_getI (C := RX5) (T := TX5) (N := 26) (ci := 5) hC inX5_readLine_X5 (hF.ob 52 (by decide) (fun _ => rfl)) rfl 4 (by decide) (List.mem_of_getElem? (i := 2) (by decide +kernel)) rfl (fun _ => rfl) dX5_readLine_141 144 rfl ?_
          refine q_iconst (v := 0) hC dX5_readLine_144 rfl 145 rfl ?_
          obtain ⟨hin, hw⟩ := hw
          refine q_iast hC (hF.ar 57 (by decide) (fun _ => rfl)) hin dX5_readLine_145 146 rfl (fun M15 eM15 => ?_)
          have hw := hw M15 eM15
          refine q_aload_n hC dX5_readLine_146 0 rfl 147 rfl ?_
          refine q_dup hC dX5_readLine_147 rfl 148 rfl ?_
          refine q_getI (C := RX5) (T := TX5) (N := 26) (ci := 5) hC inX5_readLine_X5 (hF.ob 52 (by decide) (fun _ => rfl)) rfl 4 (by decide) (List.mem_of_getElem? (i := 2) (by decide +kernel)) rfl (fun _ => rfl) dX5_readLine_148 151 rfl ?_
          refine q_iconst (v := 1) hC dX5_readLine_151 rfl 152 rfl ?_
          refine q_iadd hC dX5_readLine_152 153 rfl ?_
          refine q_putI (C := RX5) (T := TX5) (N := 26) (ci := 5) hC inX5_readLine_X5 tyX5 tyX5_ok nmX5 (hF.ob 52 (by decide) (fun _ => rfl)) rfl 4 (by decide) (List.mem_of_getElem? (i := 2) (by decide +kernel)) rfl rfl rfl (fun _ => Nat.le_of_ble_eq_true rfl) (fun _ => rfl) dX5_readLine_153 156 rfl (fun M16 eM16 => ?_)
          have hw := hw M16 eM16
          refine q_goto hC 177 dX5_readLine_156 (by decide) ?_
          exact XX.sub [0] rfl (B177 M16 hw)
      · refine q_aload_n hC dX5_readLine_123 0 rfl 124 rfl ?_
        refine r_callV hC (go_V (q := (RX5, TX5, 26)) (As := []) (rest := []) hC (ctX5_readBlock (zl z) g M7 _ hF hw) 0 gX5_readLine_X5_readBlock rfl ⟨rfl, rfl⟩ (by decide +kernel) ⟨Nat.le_of_ble_eq_true rfl, Nat.le_of_ble_eq_true rfl⟩ (hF.ob 52 (by decide) (fun _ => rfl)) rfl rfl rfl (Nat.le_of_ble_eq_true rfl) dX5_readLine_124) 127 rfl (fun M17 hw => ?_)
        refine q_goto hC 177 dX5_readLine_127 (by decide) ?_
        exact XX.sub [0] rfl (B177 M17 hw)
    · exact r_vret hR dX5_readLine_116 hw
  have B89 : ∀ (M : MM) (v1 : Int32) (p0 : Int32), wX5_readLine_89 Q M v1 p0 → XX z g Qf 2 89 [(0, .ref (gA g 52)), (1, .int v1)] [.int p0, .ref (gA g 52)] M := by
    intro M v1 p0 hw
    refine q_iconst (v := 4) hC dX5_readLine_89 rfl 90 rfl ?_
    refine r_callV hC (go_V (q := (RX5, TX5, 26)) (As := [.int p0, .int 4]) (rest := []) hC (ctX5_needs (zl z) g M p0 4 _ hF hw) 2 gX5_readLine_X5_needs rfl ⟨rfl, rfl⟩ (by decide +kernel) ⟨Nat.le_of_ble_eq_true rfl, Nat.le_of_ble_eq_true rfl⟩ (hF.ob 52 (by decide) (fun _ => rfl)) rfl rfl rfl (Nat.le_of_ble_eq_true rfl) dX5_readLine_90) 93 rfl (fun M5 hw => ?_)
    refine q_aload_n hC dX5_readLine_93 0 rfl 94 rfl ?_
    refine q_dup hC dX5_readLine_94 rfl 95 rfl ?_
    refine q_getI (C := RX5) (T := TX5) (N := 26) (ci := 5) hC inX5_readLine_X5 (hF.ob 52 (by decide) (fun _ => rfl)) rfl 7 (by decide) (List.mem_of_getElem? (i := 4) (by decide +kernel)) rfl (fun _ => rfl) dX5_readLine_95 98 rfl ?_
    refine q_iconst (v := 1) hC dX5_readLine_98 rfl 99 rfl ?_
    refine q_iload_n hC dX5_readLine_99 1 rfl 100 rfl ?_
    refine q_ishl hC dX5_readLine_100 101 rfl ?_
    refine q_ior hC dX5_readLine_101 102 rfl ?_
    refine q_putI (C := RX5) (T := TX5) (N := 26) (ci := 5) hC inX5_readLine_X5 tyX5 tyX5_ok nmX5 (hF.ob 52 (by decide) (fun _ => rfl)) rfl 7 (by decide) (List.mem_of_getElem? (i := 4) (by decide +kernel)) rfl rfl rfl (fun _ => Nat.le_of_ble_eq_true rfl) (fun _ => rfl) dX5_readLine_102 105 rfl (fun M6 eM6 => ?_)
    have hw := hw M6 eM6
    exact XX.sub [0, 1] rfl (B105 M6 v1 hw)
  have B55 : ∀ (M : MM) (v1 : Int32) (p0 : Int32), wX5_readLine_55 Q M v1 p0 → XX z g Qf 2 55 [(0, .ref (gA g 52)), (1, .int v1)] [.int p0, .ref (gA g 52)] M := by
    intro M v1 p0 hw
    refine q_iconst (v := 5) hC dX5_readLine_55 rfl 56 rfl ?_
    refine r_callV hC (go_V (q := (RX5, TX5, 26)) (As := [.int p0, .int 5]) (rest := []) hC (ctX5_needs (zl z) g M p0 5 _ hF hw) 2 gX5_readLine_X5_needs rfl ⟨rfl, rfl⟩ (by decide +kernel) ⟨Nat.le_of_ble_eq_true rfl, Nat.le_of_ble_eq_true rfl⟩ (hF.ob 52 (by decide) (fun _ => rfl)) rfl rfl rfl (Nat.le_of_ble_eq_true rfl) dX5_readLine_56) 59 rfl (fun M4 hw => ?_)
    refine q_aload_n hC dX5_readLine_59 0 rfl 60 rfl ?_
    refine q_getI (C := RX5) (T := TX5) (N := 26) (ci := 5) hC inX5_readLine_X5 (hF.ob 52 (by decide) (fun _ => rfl)) rfl 14 (by decide) (List.mem_of_getElem? (i := 3) (by decide +kernel)) rfl (fun _ => rfl) dX5_readLine_60 63 rfl ?_
    refine q_if_ne hC 105 dX5_readLine_63 (by decide) 66 rfl hw (fun hw => ?_) (fun hw => ?_)
    · exact XX.sub [0, 1] rfl (B105 M4 v1 hw)
    · refine q_iload_n hC dX5_readLine_66 1 rfl 67 rfl ?_
      refine q_bipush (v := 10) hC dX5_readLine_67 (by decide) 69 rfl ?_
      refine q_icmp_ge hC 105 dX5_readLine_69 (by decide) 72 rfl hw (fun hw => ?_) (fun hw => ?_)
      · exact XX.sub [0, 1] rfl (B105 M4 v1 hw)
      · refine q_aload_n hC dX5_readLine_72 0 rfl 73 rfl ?_
        refine q_aload_n hC dX5_readLine_73 0 rfl 74 rfl ?_
        refine q_getI (C := RX5) (T := TX5) (N := 26) (ci := 5) hC inX5_readLine_X5 (hF.ob 52 (by decide) (fun _ => rfl)) rfl 7 (by decide) (List.mem_of_getElem? (i := 4) (by decide +kernel)) rfl (fun _ => rfl) dX5_readLine_74 77 rfl ?_
        refine q_iload_n hC dX5_readLine_77 1 rfl 78 rfl ?_
        refine q_ishr hC dX5_readLine_78 79 rfl ?_
        refine q_iconst (v := 1) hC dX5_readLine_79 rfl 80 rfl ?_
        refine q_iand hC dX5_readLine_80 81 rfl ?_
        refine q_if_ne hC 88 dX5_readLine_81 (by decide) 84 rfl hw (fun hw => ?_) (fun hw => ?_)
        · refine q_iconst (v := 0) hC dX5_readLine_88 rfl 89 rfl ?_
          exact XX.sub [0, 1] rfl (B89 M4 v1 0 hw)
        · refine q_iconst (v := 1) hC dX5_readLine_84 rfl 85 rfl ?_
          refine q_goto hC 89 dX5_readLine_85 (by decide) ?_
          exact XX.sub [0, 1] rfl (B89 M4 v1 1 hw)
  have B50 : ∀ (M : MM) (v1 : Int32), wX5_readLine_50 Q M v1 → XX z g Qf 2 50 [(0, .ref (gA g 52)), (1, .int v1)] [.ref (gA g 52)] M := by
    intro M v1 hw
    refine q_iconst (v := 1) hC dX5_readLine_50 rfl 51 rfl ?_
    refine q_goto hC 55 dX5_readLine_51 (by decide) ?_
    exact XX.sub [0, 1] rfl (B55 M v1 1 hw)
  have B30 : ∀ (M : MM) (v1 : Int32) (p0 : Int32), wX5_readLine_30 Q M v1 p0 → XX z g Qf 2 30 [(0, .ref (gA g 52)), (1, .int v1)] [.int p0, .ref (gA g 52)] M := by
    intro M v1 p0 hw
    refine q_iconst (v := 2) hC dX5_readLine_30 rfl 31 rfl ?_
    refine r_callV hC (go_V (q := (RX5, TX5, 26)) (As := [.int p0, .int 2]) (rest := []) hC (ctX5_needs (zl z) g M p0 2 _ hF hw) 2 gX5_readLine_X5_needs rfl ⟨rfl, rfl⟩ (by decide +kernel) ⟨Nat.le_of_ble_eq_true rfl, Nat.le_of_ble_eq_true rfl⟩ (hF.ob 52 (by decide) (fun _ => rfl)) rfl rfl rfl (Nat.le_of_ble_eq_true rfl) dX5_readLine_31) 34 rfl (fun M3 hw => ?_)
    refine q_aload_n hC dX5_readLine_34 0 rfl 35 rfl ?_
    refine q_iload_n hC dX5_readLine_35 1 rfl 36 rfl ?_
    refine q_bipush (v := 10) hC dX5_readLine_36 (by decide) 38 rfl ?_
    refine q_icmp_lt hC 50 dX5_readLine_38 (by decide) 41 rfl hw (fun hw => ?_) (fun hw => ?_)
    · exact XX.sub [0, 1] rfl (B50 M3 v1 hw)
    · refine q_aload_n hC dX5_readLine_41 0 rfl 42 rfl ?_
      refine q_getI (C := RX5) (T := TX5) (N := 26) (ci := 5) hC inX5_readLine_X5 (hF.ob 52 (by decide) (fun _ => rfl)) rfl 4 (by decide) (List.mem_of_getElem? (i := 2) (by decide +kernel)) rfl (fun _ => rfl) dX5_readLine_42 45 rfl ?_
      refine q_bipush (v := 12) hC dX5_readLine_45 (by decide) 47 rfl ?_
      refine q_icmp_ge hC 54 dX5_readLine_47 (by decide) 50 rfl hw (fun hw => ?_) (fun hw => ?_)
      · refine q_iconst (v := 0) hC dX5_readLine_54 rfl 55 rfl ?_
        exact XX.sub [0, 1] rfl (B55 M3 v1 0 hw)
      · exact XX.sub [0, 1] rfl (B50 M3 v1 hw)
  have B17 : ∀ (M : MM) (p0 : Int32), wX5_readLine_17 Q M p0 → XX z g Qf 2 17 [(0, .ref (gA g 52))] [.int p0] M := by
    intro M p0 hw
    refine q_istore_n (L' := [(1, .int p0), (0, .ref (gA g 52))]) hC dX5_readLine_17 (by decide) rfl 18 rfl ?_
    refine q_aload_n hC dX5_readLine_18 1 rfl 19 rfl ?_
    refine q_iload_n hC dX5_readLine_19 0 rfl 20 rfl ?_
    refine q_bipush (v := (-4)) hC dX5_readLine_20 (by decide) 22 rfl ?_
    refine q_icmp_eq hC 29 dX5_readLine_22 (by decide) 25 rfl hw (fun hw => ?_) (fun hw => ?_)
    · refine q_iconst (v := 0) hC dX5_readLine_29 rfl 30 rfl ?_
      exact XX.sub [1, 0] rfl (B30 M p0 0 hw)
    · refine q_iconst (v := 1) hC dX5_readLine_25 rfl 26 rfl ?_
      refine q_goto hC 30 dX5_readLine_26 (by decide) ?_
      exact XX.sub [1, 0] rfl (B30 M p0 1 hw)
  refine q_aload_n hC dX5_readLine_0 0 rfl 1 rfl ?_
  refine q_getI (C := RX5) (T := TX5) (N := 26) (ci := 5) hC inX5_readLine_X5 (hF.ob 52 (by decide) (fun _ => rfl)) rfl 12 (by decide) (List.mem_of_getElem? (i := 1) (by decide +kernel)) rfl (fun _ => rfl) dX5_readLine_1 4 rfl ?_
  refine q_iconst (v := 1) hC dX5_readLine_4 rfl 5 rfl ?_
  refine q_icmp_ne hC 15 dX5_readLine_5 (by decide) 8 rfl hw (fun hw => ?_) (fun hw => ?_)
  · refine q_bipush (v := (-4)) hC dX5_readLine_15 (by decide) 17 rfl ?_
    exact XX.sub [0] rfl (B17 M (-4) hw)
  · refine q_aload_n hC dX5_readLine_8 0 rfl 9 rfl ?_
    refine r_callI hC (go_V (q := (RX5, TX5, 26)) (As := []) (rest := []) hC (ctX5_nameNow (zl z) g M _ hF hw) 0 gX5_readLine_X5_nameNow rfl ⟨rfl, rfl⟩ (by decide +kernel) ⟨Nat.le_of_ble_eq_true rfl, Nat.le_of_ble_eq_true rfl⟩ (hF.ob 52 (by decide) (fun _ => rfl)) rfl rfl rfl (Nat.le_of_ble_eq_true rfl) dX5_readLine_9) 12 rfl (fun r1 M2 hw => ?_)
    refine q_goto hC 17 dX5_readLine_12 (by decide) ?_
    exact XX.sub [0] rfl (B17 M2 r1 hw)
set_option maxRecDepth 20000 in
theorem inX5_text_X5 : ∀ w ∈ u_ws RX5 TX5 26, w ∈ wsX5_text := by decide +kernel
set_option maxRecDepth 100000 in
set_option maxHeartbeats 4000000 in
theorem ctX5_text (l : Launch) (g : GG) (M : MM)  (Q : Int32 → MM → Prop) (hF : full g) (hw : wX5_text Q M ) : MI g l yX5_text wsX5_text (rmOf 5 113) [.ref (gA g 52)] M Q := by
  refine mk_MI (cc := cX5_text) (maxL := 2) (by decide) rfl (Nat.le_of_ble_eq_true rfl) ?_
  intro z Qf hC hR
  show XX z g Qf 2 0 [(0, .ref (gA g 52))] [] M
  have B75 : ∀ (M : MM) (v1 : Int32), wX5_text_75 Q M v1 → XX z g Qf 2 75 [(0, .ref (gA g 52)), (1, .int v1)] [] M := by
    intro M v1 hw
    refine q_aload_n hC dX5_text_75 0 rfl 76 rfl ?_
    refine q_iconst (v := 0) hC dX5_text_76 rfl 77 rfl ?_
    refine q_putI (C := RX5) (T := TX5) (N := 26) (ci := 5) hC inX5_text_X5 tyX5 tyX5_ok nmX5 (hF.ob 52 (by decide) (fun _ => rfl)) rfl 9 (by decide) (List.mem_of_getElem? (i := 5) (by decide +kernel)) rfl rfl rfl (fun _ => Nat.le_of_ble_eq_true rfl) (fun _ => rfl) dX5_text_77 80 rfl (fun M9 eM9 => ?_)
    have hw := hw M9 eM9
    refine q_aload_n hC dX5_text_80 0 rfl 81 rfl ?_
    refine q_getI (C := RX5) (T := TX5) (N := 26) (ci := 5) hC inX5_text_X5 (hF.ob 52 (by decide) (fun _ => rfl)) rfl 14 (by decide) (List.mem_of_getElem? (i := 1) (by decide +kernel)) rfl (fun _ => rfl) dX5_text_81 84 rfl ?_
    refine q_if_le hC 95 dX5_text_84 (by decide) 87 rfl hw (fun hw => ?_) (fun hw => ?_)
    · refine q_aload_n hC dX5_text_95 0 rfl 96 rfl ?_
      refine r_callV hC (go_V (q := (RX5, TX5, 26)) (As := []) (rest := []) hC (ctX5_keepDraft (zl z) g M9 _ hF hw) 0 gX5_text_X5_keepDraft rfl ⟨rfl, rfl⟩ (by decide +kernel) ⟨Nat.le_of_ble_eq_true rfl, Nat.le_of_ble_eq_true rfl⟩ (hF.ob 52 (by decide) (fun _ => rfl)) rfl rfl rfl (Nat.le_of_ble_eq_true rfl) dX5_text_96) 99 rfl (fun M10 hw => ?_)
      refine q_iload_n hC dX5_text_99 1 rfl 100 rfl ?_
      exact r_iret hR dX5_text_100 hw
    · refine q_bipush (v := (-10)) hC dX5_text_87 (by decide) 89 rfl ?_
      refine q_aload_n hC dX5_text_89 0 rfl 90 rfl ?_
      refine q_getI (C := RX5) (T := TX5) (N := 26) (ci := 5) hC inX5_text_X5 (hF.ob 52 (by decide) (fun _ => rfl)) rfl 15 (by decide) (List.mem_of_getElem? (i := 6) (by decide +kernel)) rfl (fun _ => rfl) dX5_text_90 93 rfl ?_
      refine q_isub hC dX5_text_93 94 rfl ?_
      exact r_iret hR dX5_text_94 hw
  have B70 : ∀ (M : MM) (v1 : Int32) (p0 : Int32), wX5_text_70 Q M v1 p0 → XX z g Qf 2 70 [(0, .ref (gA g 52)), (1, .int v1)] [.int p0, .ref (gA g 52)] M := by
    intro M v1 p0 hw
    refine q_bipush (v := 6) hC dX5_text_70 (by decide) 72 rfl ?_
    refine r_callV hC (go_V (q := (RX5, TX5, 26)) (As := [.int p0, .int 6]) (rest := []) hC (ctX5_needs (zl z) g M p0 6 _ hF hw) 2 gX5_text_X5_needs rfl ⟨rfl, rfl⟩ (by decide +kernel) ⟨Nat.le_of_ble_eq_true rfl, Nat.le_of_ble_eq_true rfl⟩ (hF.ob 52 (by decide) (fun _ => rfl)) rfl rfl rfl (Nat.le_of_ble_eq_true rfl) dX5_text_72) 75 rfl (fun M8 hw => ?_)
    exact XX.sub [0, 1] rfl (B75 M8 v1 hw)
  have B44 : ∀ (M : MM) (v1 : Int32), wX5_text_44 Q M v1 → XX z g Qf 2 44 [(0, .ref (gA g 52)), (1, .int v1)] [] M := by
    intro M v1 hw
    refine q_aload_n hC dX5_text_44 0 rfl 45 rfl ?_
    refine q_getI (C := RX5) (T := TX5) (N := 26) (ci := 5) hC inX5_text_X5 (hF.ob 52 (by decide) (fun _ => rfl)) rfl 14 (by decide) (List.mem_of_getElem? (i := 1) (by decide +kernel)) rfl (fun _ => rfl) dX5_text_45 48 rfl ?_
    refine q_if_ne hC 75 dX5_text_48 (by decide) 51 rfl hw (fun hw => ?_) (fun hw => ?_)
    · exact XX.sub [0, 1] rfl (B75 M v1 hw)
    · refine q_aload_n hC dX5_text_51 0 rfl 52 rfl ?_
      refine q_aload_n hC dX5_text_52 0 rfl 53 rfl ?_
      refine r_callI hC (go_V (q := (RX5, TX5, 26)) (As := []) (rest := [.ref (gA g 52)]) hC (ctX5_draftEnd (zl z) g M _ hF hw) 0 gX5_text_X5_draftEnd rfl ⟨rfl, rfl⟩ (by decide +kernel) ⟨Nat.le_of_ble_eq_true rfl, Nat.le_of_ble_eq_true rfl⟩ (hF.ob 52 (by decide) (fun _ => rfl)) rfl rfl rfl (Nat.le_of_ble_eq_true rfl) dX5_text_53) 56 rfl (fun r6 M7 hw => ?_)
      refine q_aload_n hC dX5_text_56 0 rfl 57 rfl ?_
      refine q_getR (C := RX5) (T := TX5) (N := 26) (ci := 5) hC inX5_text_X5 (hF.ob 52 (by decide) (fun _ => rfl)) rfl 3 (by decide) (List.mem_of_getElem? (i := 4) (by decide +kernel)) rfl 56 (fun _ => rfl) dX5_text_57 60 rfl ?_
      refine q_iconst (v := 0) hC dX5_text_60 rfl 61 rfl ?_
      obtain ⟨hin, hw⟩ := hw
      refine q_iald hC (hF.ar 56 (by decide) (fun _ => rfl)) hin dX5_text_61 62 rfl ?_
      refine q_icmp_gt hC 69 dX5_text_62 (by decide) 65 rfl hw (fun hw => ?_) (fun hw => ?_)
      · refine q_iconst (v := 0) hC dX5_text_69 rfl 70 rfl ?_
        exact XX.sub [0, 1] rfl (B70 M7 v1 0 hw)
      · refine q_iconst (v := 1) hC dX5_text_65 rfl 66 rfl ?_
        refine q_goto hC 70 dX5_text_66 (by decide) ?_
        exact XX.sub [0, 1] rfl (B70 M7 v1 1 hw)
  have B20 : ∀ (n : Nat) (M : MM) (v1 : Int32) , wX5_text_20 Q n M v1 → XX z g Qf 2 20 [(0, .ref (gA g 52)), (1, .int v1)] [] M := by
    intro n
    induction n with
    | zero =>
      intro M v1 hw
      exact hw.elim
    | succ n ih =>
      intro M v1 hw
      refine q_aload_n hC dX5_text_20 0 rfl 21 rfl ?_
      refine q_getI (C := RX5) (T := TX5) (N := 26) (ci := 5) hC inX5_text_X5 (hF.ob 52 (by decide) (fun _ => rfl)) rfl 14 (by decide) (List.mem_of_getElem? (i := 1) (by decide +kernel)) rfl (fun _ => rfl) dX5_text_21 24 rfl ?_
      refine q_if_ne hC 44 dX5_text_24 (by decide) 27 rfl hw (fun hw => ?_) (fun hw => ?_)
      · exact XX.sub [0, 1] rfl (B44 M v1 hw)
      · refine q_aload_n hC dX5_text_27 0 rfl 28 rfl ?_
        refine q_getI (C := RX5) (T := TX5) (N := 26) (ci := 5) hC inX5_text_X5 (hF.ob 52 (by decide) (fun _ => rfl)) rfl 12 (by decide) (List.mem_of_getElem? (i := 3) (by decide +kernel)) rfl (fun _ => rfl) dX5_text_28 31 rfl ?_
        refine q_if_eq hC 44 dX5_text_31 (by decide) 34 rfl hw (fun hw => ?_) (fun hw => ?_)
        · exact XX.sub [0, 1] rfl (B44 M v1 hw)
        · refine q_aload_n hC dX5_text_34 0 rfl 35 rfl ?_
          refine r_callV hC (go_V (q := (RX5, TX5, 26)) (As := []) (rest := []) hC (ctX5_readLine (zl z) g M _ hF hw) 0 gX5_text_X5_readLine rfl ⟨rfl, rfl⟩ (by decide +kernel) ⟨Nat.le_of_ble_eq_true rfl, Nat.le_of_ble_eq_true rfl⟩ (hF.ob 52 (by decide) (fun _ => rfl)) rfl rfl rfl (Nat.le_of_ble_eq_true rfl) dX5_text_35) 38 rfl (fun M5 hw => ?_)
          refine q_iinc (v := v1 + 1) (L' := [(1, .int (v1 + 1)), (0, .ref (gA g 52))]) hC dX5_text_38 1 rfl rfl (by decide) rfl 41 rfl ?_
          refine q_goto hC 20 dX5_text_41 (by decide) ?_
          exact XX.sub [1, 0] rfl (ih M5 (v1 + 1) hw)
  refine q_iconst (v := 0) hC dX5_text_0 rfl 1 rfl ?_
  refine q_istore_n (L' := [(1, .int 0), (0, .ref (gA g 52))]) hC dX5_text_1 (by decide) rfl 2 rfl ?_
  refine q_aload_n hC dX5_text_2 1 rfl 3 rfl ?_
  refine q_iconst (v := 0) hC dX5_text_3 rfl 4 rfl ?_
  refine q_putI (C := RX5) (T := TX5) (N := 26) (ci := 5) hC inX5_text_X5 tyX5 tyX5_ok nmX5 (hF.ob 52 (by decide) (fun _ => rfl)) rfl 14 (by decide) (List.mem_of_getElem? (i := 1) (by decide +kernel)) rfl rfl rfl (fun _ => Nat.le_of_ble_eq_true rfl) (fun _ => rfl) dX5_text_4 7 rfl (fun M1 eM1 => ?_)
  have hw := hw M1 eM1
  refine q_aload_n hC dX5_text_7 1 rfl 8 rfl ?_
  refine q_iconst (v := 0) hC dX5_text_8 rfl 9 rfl ?_
  refine q_putI (C := RX5) (T := TX5) (N := 26) (ci := 5) hC inX5_text_X5 tyX5 tyX5_ok nmX5 (hF.ob 52 (by decide) (fun _ => rfl)) rfl 10 (by decide) (List.mem_of_getElem? (i := 2) (by decide +kernel)) rfl rfl rfl (fun _ => Nat.le_of_ble_eq_true rfl) (fun _ => rfl) dX5_text_9 12 rfl (fun M2 eM2 => ?_)
  have hw := hw M2 eM2
  refine q_aload_n hC dX5_text_12 1 rfl 13 rfl ?_
  refine r_callV hC (go_V (q := (RX5, TX5, 26)) (As := []) (rest := []) hC (ctX5_firstDraft (zl z) g M2 _ hF hw) 0 gX5_text_X5_firstDraft rfl ⟨rfl, rfl⟩ (by decide +kernel) ⟨Nat.le_of_ble_eq_true rfl, Nat.le_of_ble_eq_true rfl⟩ (hF.ob 52 (by decide) (fun _ => rfl)) rfl rfl rfl (Nat.le_of_ble_eq_true rfl) dX5_text_13) 16 rfl (fun M3 hw => ?_)
  refine q_aload_n hC dX5_text_16 1 rfl 17 rfl ?_
  refine r_callV hC (go_V (q := (RX5, TX5, 26)) (As := []) (rest := []) hC (ctX5_next (zl z) g M3 _ hF hw) 0 gX5_text_X5_next rfl ⟨rfl, rfl⟩ (by decide +kernel) ⟨Nat.le_of_ble_eq_true rfl, Nat.le_of_ble_eq_true rfl⟩ (hF.ob 52 (by decide) (fun _ => rfl)) rfl rfl rfl (Nat.le_of_ble_eq_true rfl) dX5_text_17) 20 rfl (fun M4 hw => ?_)
  obtain ⟨n0, hw⟩ := hw
  exact XX.sub [1, 0] rfl (B20 n0 M4 0 hw)
set_option maxRecDepth 20000 in
theorem inX5_fault_X5 : ∀ w ∈ u_ws RX5 TX5 26, w ∈ wsX5_fault := by decide +kernel
set_option maxRecDepth 100000 in
set_option maxHeartbeats 4000000 in
theorem ctX5_fault (l : Launch) (g : GG) (M : MM)  (Q : Int32 → MM → Prop) (hF : full g) (hw : wX5_fault Q M ) : MI g l yX5_fault wsX5_fault (rmOf 0 0) [.ref (gA g 52)] M Q := by
  refine mk_MI (cc := cX5_fault) (maxL := 1) (by decide) rfl (Nat.le_of_ble_eq_true rfl) ?_
  intro z Qf hC hR
  show XX z g Qf 1 0 [(0, .ref (gA g 52))] [] M
  refine q_aload_n hC dX5_fault_0 0 rfl 1 rfl ?_
  refine q_getI (C := RX5) (T := TX5) (N := 26) (ci := 5) hC inX5_fault_X5 (hF.ob 52 (by decide) (fun _ => rfl)) rfl 14 (by decide) (List.mem_of_getElem? (i := 1) (by decide +kernel)) rfl (fun _ => rfl) dX5_fault_1 4 rfl ?_
  exact r_iret hR dX5_fault_4 hw
set_option maxRecDepth 20000 in
theorem inX5_rule_X5 : ∀ w ∈ u_ws RX5 TX5 26, w ∈ wsX5_rule := by decide +kernel
set_option maxRecDepth 100000 in
set_option maxHeartbeats 4000000 in
theorem ctX5_rule (l : Launch) (g : GG) (M : MM) (v1 : Int32) (Q : Int32 → MM → Prop) (hF : full g) (hw : wX5_rule Q M v1) : MI g l yX5_rule wsX5_rule (rmOf 1 25) [.ref (gA g 52), .int v1] M Q := by
  refine mk_MI (cc := cX5_rule) (maxL := 2) (by decide) rfl (Nat.le_of_ble_eq_true rfl) ?_
  intro z Qf hC hR
  show XX z g Qf 2 0 [(0, .ref (gA g 52)), (1, .int v1)] [] M
  refine q_iload_n hC dX5_rule_0 1 rfl 1 rfl ?_
  refine q_if_ne hC 15 dX5_rule_1 (by decide) 4 rfl hw (fun hw => ?_) (fun hw => ?_)
  · refine q_iload_n hC dX5_rule_15 1 rfl 16 rfl ?_
    refine q_i2l hC dX5_rule_16 17 rfl ?_
    refine q_lconst (v := 1) hC dX5_rule_17 rfl 18 rfl ?_
    refine q_ldc2 (v := 8) hC (List.mem_of_getElem? (i := 2) (by decide +kernel)) dX5_rule_18 21 rfl ?_
    refine r_callI hC (go_T (As := [.long (v1.toInt64), .long 1, .long 8]) (rest := []) hC (ctX5_in (zl z) g M (v1.toInt64) 1 8 _ hw) 3 gX5_rule_X5_in rfl ⟨rfl, rfl⟩ (by decide +kernel) ⟨Nat.le_of_ble_eq_true rfl, Nat.le_of_ble_eq_true rfl⟩ rfl rfl (Nat.le_of_ble_eq_true rfl) dX5_rule_21) 24 rfl (fun r1 M2 hw => ?_)
    refine q_if_eq hC 36 dX5_rule_24 (by decide) 27 rfl hw (fun hw => ?_) (fun hw => ?_)
    · refine q_iconst (v := (-1)) hC dX5_rule_36 rfl 37 rfl ?_
      exact r_iret hR dX5_rule_37 hw
    · refine q_aload_n hC dX5_rule_27 0 rfl 28 rfl ?_
      refine q_getR (C := RX5) (T := TX5) (N := 26) (ci := 5) hC inX5_rule_X5 (hF.ob 52 (by decide) (fun _ => rfl)) rfl 2 (by decide) (List.mem_of_getElem? (i := 3) (by decide +kernel)) rfl 55 (fun _ => rfl) dX5_rule_28 31 rfl ?_
      refine q_iload_n hC dX5_rule_31 1 rfl 32 rfl ?_
      obtain ⟨hin, hw⟩ := hw
      refine q_iald hC (hF.ar 55 (by decide) (fun _ => rfl)) hin dX5_rule_32 33 rfl ?_
      refine q_goto hC 37 dX5_rule_33 (by decide) ?_
      exact r_iret hR dX5_rule_37 hw
  · refine q_aload_n hC dX5_rule_4 0 rfl 5 rfl ?_
    refine q_getR (C := RX5) (T := TX5) (N := 26) (ci := 5) hC inX5_rule_X5 (hF.ob 52 (by decide) (fun _ => rfl)) rfl 0 (by decide) (List.mem_of_getElem? (i := 1) (by decide +kernel)) rfl 53 (fun _ => rfl) dX5_rule_5 8 rfl ?_
    refine q_sipush (v := 366) hC dX5_rule_8 (by decide) 11 rfl ?_
    obtain ⟨hin, hw⟩ := hw
    refine q_iald hC (hF.ar 53 (by decide) (fun _ => rfl)) hin dX5_rule_11 12 rfl ?_
    refine q_goto hC 37 dX5_rule_12 (by decide) ?_
    exact r_iret hR dX5_rule_37 hw
set_option maxRecDepth 100000 in
set_option maxHeartbeats 4000000 in
theorem ctX5_turnsOf (l : Launch) (g : GG) (M : MM) (v0 : Int32) (v1 : Int32) (v2 : Int32) (Q : Int32 → MM → Prop)  (hw : wX5_turnsOf Q M v0 v1 v2) : MI g l yX5_turnsOf wsX5_turnsOf (rmOf 0 0) [.int v0, .int v1, .int v2] M Q := by
  refine mk_MI (cc := cX5_turnsOf) (maxL := 5) (by decide) rfl (Nat.le_of_ble_eq_true rfl) ?_
  intro z Qf hC hR
  show XX z g Qf 5 0 [(0, .int v0), (1, .int v1), (2, .int v2)] [] M
  have B5 : ∀ (n : Nat) (M : MM) (v3 : Int32) (v4 : Int32) , wX5_turnsOf_5 Q v0 v1 v2 n M v3 v4 → XX z g Qf 5 5 [(0, .int v0), (1, .int v1), (2, .int v2), (3, .int v3), (4, .int v4)] [] M := by
    intro n
    induction n with
    | zero =>
      intro M v3 v4 hw
      exact hw.elim
    | succ n ih =>
      intro M v3 v4 hw
      refine q_iload hC dX5_turnsOf_5 4 rfl 7 rfl ?_
      refine q_iload_n hC dX5_turnsOf_7 1 rfl 8 rfl ?_
      refine q_iadd hC dX5_turnsOf_8 9 rfl ?_
      refine q_iload_n hC dX5_turnsOf_9 2 rfl 10 rfl ?_
      refine q_iload_n hC dX5_turnsOf_10 3 rfl 11 rfl ?_
      refine q_imul hC dX5_turnsOf_11 12 rfl ?_
      refine q_iadd hC dX5_turnsOf_12 13 rfl ?_
      refine q_iload_n hC dX5_turnsOf_13 0 rfl 14 rfl ?_
      refine q_icmp_gt hC 33 dX5_turnsOf_14 (by decide) 17 rfl hw (fun hw => ?_) (fun hw => ?_)
      · refine q_iload_n hC dX5_turnsOf_33 3 rfl 34 rfl ?_
        exact r_iret hR dX5_turnsOf_34 hw
      · refine q_iload hC dX5_turnsOf_17 4 rfl 19 rfl ?_
        refine q_iload_n hC dX5_turnsOf_19 1 rfl 20 rfl ?_
        refine q_iload_n hC dX5_turnsOf_20 2 rfl 21 rfl ?_
        refine q_iload_n hC dX5_turnsOf_21 3 rfl 22 rfl ?_
        refine q_imul hC dX5_turnsOf_22 23 rfl ?_
        refine q_iadd hC dX5_turnsOf_23 24 rfl ?_
        refine q_iadd hC dX5_turnsOf_24 25 rfl ?_
        refine q_nameI (fun x1 ex1 => ?_)
        have hw := hw x1 ex1
        refine q_istore (L' := [(4, .int x1), (0, .int v0), (1, .int v1), (2, .int v2), (3, .int v3)]) hC dX5_turnsOf_25 (by decide) rfl 27 rfl ?_
        refine q_iinc (v := v3 + 1) (L' := [(3, .int (v3 + 1)), (4, .int x1), (0, .int v0), (1, .int v1), (2, .int v2)]) hC dX5_turnsOf_27 4 rfl rfl (by decide) rfl 30 rfl ?_
        refine q_goto hC 5 dX5_turnsOf_30 (by decide) ?_
        exact XX.sub [2, 3, 4, 0, 1] rfl (ih M (v3 + 1) x1 hw)
  refine q_iconst (v := 0) hC dX5_turnsOf_0 rfl 1 rfl ?_
  refine q_istore_n (L' := [(3, .int 0), (0, .int v0), (1, .int v1), (2, .int v2)]) hC dX5_turnsOf_1 (by decide) rfl 2 rfl ?_
  refine q_iconst (v := 0) hC dX5_turnsOf_2 rfl 3 rfl ?_
  refine q_istore (L' := [(4, .int 0), (3, .int 0), (0, .int v0), (1, .int v1), (2, .int v2)]) hC dX5_turnsOf_3 (by decide) rfl 5 rfl ?_
  obtain ⟨n0, hw⟩ := hw
  exact XX.sub [2, 3, 4, 1, 0] rfl (B5 n0 M 0 0 hw)
set_option maxRecDepth 20000 in
theorem inX5_turnsAt_X5 : ∀ w ∈ u_ws RX5 TX5 26, w ∈ wsX5_turnsAt := by decide +kernel
set_option maxRecDepth 100000 in
set_option maxHeartbeats 4000000 in
theorem ctX5_turnsAt (l : Launch) (g : GG) (M : MM) (v1 : Int32) (Q : Int32 → MM → Prop) (hF : full g) (hw : wX5_turnsAt Q M v1) : MI g l yX5_turnsAt wsX5_turnsAt (rmOf 1 24) [.ref (gA g 52), .int v1] M Q := by
  refine mk_MI (cc := cX5_turnsAt) (maxL := 2) (by decide) rfl (Nat.le_of_ble_eq_true rfl) ?_
  intro z Qf hC hR
  show XX z g Qf 2 0 [(0, .ref (gA g 52)), (1, .int v1)] [] M
  refine q_iload_n hC dX5_turnsAt_0 1 rfl 1 rfl ?_
  refine q_aload_n hC dX5_turnsAt_1 0 rfl 2 rfl ?_
  refine q_getR (C := RX5) (T := TX5) (N := 26) (ci := 5) hC inX5_turnsAt_X5 (hF.ob 52 (by decide) (fun _ => rfl)) rfl 2 (by decide) (List.mem_of_getElem? (i := 1) (by decide +kernel)) rfl 55 (fun _ => rfl) dX5_turnsAt_2 5 rfl ?_
  refine q_iconst (v := 1) hC dX5_turnsAt_5 rfl 6 rfl ?_
  obtain ⟨hin, hw⟩ := hw
  refine q_iald hC (hF.ar 55 (by decide) (fun _ => rfl)) hin dX5_turnsAt_6 7 rfl ?_
  refine q_aload_n hC dX5_turnsAt_7 0 rfl 8 rfl ?_
  refine q_getR (C := RX5) (T := TX5) (N := 26) (ci := 5) hC inX5_turnsAt_X5 (hF.ob 52 (by decide) (fun _ => rfl)) rfl 2 (by decide) (List.mem_of_getElem? (i := 1) (by decide +kernel)) rfl 55 (fun _ => rfl) dX5_turnsAt_8 11 rfl ?_
  refine q_iconst (v := 2) hC dX5_turnsAt_11 rfl 12 rfl ?_
  obtain ⟨hin, hw⟩ := hw
  refine q_iald hC (hF.ar 55 (by decide) (fun _ => rfl)) hin dX5_turnsAt_12 13 rfl ?_
  refine r_callI hC (go_T (As := [.int v1, .int (M 55 (1 : Int32).toNatClampNeg), .int (M 55 (2 : Int32).toNatClampNeg)]) (rest := []) hC (ctX5_turnsOf (zl z) g M v1 (M 55 (1 : Int32).toNatClampNeg) (M 55 (2 : Int32).toNatClampNeg) _ hw) 3 gX5_turnsAt_X5_turnsOf rfl ⟨rfl, rfl⟩ (by decide +kernel) ⟨Nat.le_of_ble_eq_true rfl, Nat.le_of_ble_eq_true rfl⟩ rfl rfl (Nat.le_of_ble_eq_true rfl) dX5_turnsAt_13) 16 rfl (fun r1 M2 hw => ?_)
  exact r_iret hR dX5_turnsAt_16 hw
set_option maxRecDepth 20000 in
theorem inX5_isPlace_X5 : ∀ w ∈ u_ws RX5 TX5 26, w ∈ wsX5_isPlace := by decide +kernel
set_option maxRecDepth 100000 in
set_option maxHeartbeats 4000000 in
theorem ctX5_isPlace (l : Launch) (g : GG) (M : MM) (v1 : Int32) (Q : Int32 → MM → Prop) (hF : full g) (hw : wX5_isPlace Q M v1) : MI g l yX5_isPlace wsX5_isPlace (rmOf 1 25) [.ref (gA g 52), .int v1] M Q := by
  refine mk_MZ (cc := cX5_isPlace) (maxL := 2) (by decide) rfl (Nat.le_of_ble_eq_true rfl) ?_
  intro z Qf hC hR
  show XX z g Qf 2 0 [(0, .ref (gA g 52)), (1, .int v1)] [] M
  refine q_iload_n hC dX5_isPlace_0 1 rfl 1 rfl ?_
  refine q_i2l hC dX5_isPlace_1 2 rfl ?_
  refine q_lconst (v := 0) hC dX5_isPlace_2 rfl 3 rfl ?_
  refine q_aload_n hC dX5_isPlace_3 0 rfl 4 rfl ?_
  refine q_getR (C := RX5) (T := TX5) (N := 26) (ci := 5) hC inX5_isPlace_X5 (hF.ob 52 (by decide) (fun _ => rfl)) rfl 0 (by decide) (List.mem_of_getElem? (i := 1) (by decide +kernel)) rfl 53 (fun _ => rfl) dX5_isPlace_4 7 rfl ?_
  refine q_sipush (v := 366) hC dX5_isPlace_7 (by decide) 10 rfl ?_
  obtain ⟨hin, hw⟩ := hw
  refine q_iald hC (hF.ar 53 (by decide) (fun _ => rfl)) hin dX5_isPlace_10 11 rfl ?_
  refine q_i2l hC dX5_isPlace_11 12 rfl ?_
  refine r_callI hC (go_T (As := [.long (v1.toInt64), .long 0, .long ((M 53 (366 : Int32).toNatClampNeg).toInt64)]) (rest := []) hC (ctX5_in (zl z) g M (v1.toInt64) 0 ((M 53 (366 : Int32).toNatClampNeg).toInt64) _ hw) 3 gX5_isPlace_X5_in rfl ⟨rfl, rfl⟩ (by decide +kernel) ⟨Nat.le_of_ble_eq_true rfl, Nat.le_of_ble_eq_true rfl⟩ rfl rfl (Nat.le_of_ble_eq_true rfl) dX5_isPlace_12) 15 rfl (fun r1 M2 hw => ?_)
  exact r_iret hR dX5_isPlace_15 hw
set_option maxRecDepth 20000 in
theorem inX5_turns_X5 : ∀ w ∈ u_ws RX5 TX5 26, w ∈ wsX5_turns := by decide +kernel
set_option maxRecDepth 100000 in
set_option maxHeartbeats 4000000 in
theorem ctX5_turns (l : Launch) (g : GG) (M : MM) (v1 : Int32) (v2 : Int32) (Q : Int32 → MM → Prop) (hF : full g) (hw : wX5_turns Q M v1 v2) : MI g l yX5_turns wsX5_turns (rmOf 2 46) [.ref (gA g 52), .int v1, .int v2] M Q := by
  refine mk_MI (cc := cX5_turns) (maxL := 3) (by decide) rfl (Nat.le_of_ble_eq_true rfl) ?_
  intro z Qf hC hR
  show XX z g Qf 3 0 [(0, .ref (gA g 52)), (1, .int v1), (2, .int v2)] [] M
  have B31 : ∀ (M : MM) (p0 : Int32), wX5_turns_31 Q v1 v2 M p0 → XX z g Qf 3 31 [] [.int p0, .ref (gA g 52)] M := by
    intro M p0 hw
    refine r_callI hC (go_V (q := (RX5, TX5, 26)) (As := [.int p0]) (rest := []) hC (ctX5_turnsAt (zl z) g M p0 _ hF hw) 1 gX5_turns_X5_turnsAt rfl ⟨rfl, rfl⟩ (by decide +kernel) ⟨Nat.le_of_ble_eq_true rfl, Nat.le_of_ble_eq_true rfl⟩ (hF.ob 52 (by decide) (fun _ => rfl)) rfl rfl rfl (Nat.le_of_ble_eq_true rfl) dX5_turns_31) 34 rfl (fun r3 M4 hw => ?_)
    exact r_iret hR dX5_turns_34 hw
  refine q_aload_n hC dX5_turns_0 0 rfl 1 rfl ?_
  refine q_iload_n hC dX5_turns_1 1 rfl 2 rfl ?_
  refine r_callI hC (go_V (q := (RX5, TX5, 26)) (As := [.int v1]) (rest := []) hC (ctX5_isPlace (zl z) g M v1 _ hF hw) 1 gX5_turns_X5_isPlace rfl ⟨rfl, rfl⟩ (by decide +kernel) ⟨Nat.le_of_ble_eq_true rfl, Nat.le_of_ble_eq_true rfl⟩ (hF.ob 52 (by decide) (fun _ => rfl)) rfl rfl rfl (Nat.le_of_ble_eq_true rfl) dX5_turns_2) 5 rfl (fun r1 M2 hw => ?_)
  refine q_if_ne hC 12 dX5_turns_5 (by decide) 8 rfl hw (fun hw => ?_) (fun hw => ?_)
  · refine q_aload_n hC dX5_turns_12 0 rfl 13 rfl ?_
    refine q_iload_n hC dX5_turns_13 2 rfl 14 rfl ?_
    refine q_if_eq hC 30 dX5_turns_14 (by decide) 17 rfl hw (fun hw => ?_) (fun hw => ?_)
    · refine q_iload_n hC dX5_turns_30 1 rfl 31 rfl ?_
      exact XX.sub [] rfl (B31 M2 v1 hw)
    · refine q_aload_n hC dX5_turns_17 0 rfl 18 rfl ?_
      refine q_getR (C := RX5) (T := TX5) (N := 26) (ci := 5) hC inX5_turns_X5 (hF.ob 52 (by decide) (fun _ => rfl)) rfl 0 (by decide) (List.mem_of_getElem? (i := 1) (by decide +kernel)) rfl 53 (fun _ => rfl) dX5_turns_18 21 rfl ?_
      refine q_sipush (v := 366) hC dX5_turns_21 (by decide) 24 rfl ?_
      obtain ⟨hin, hw⟩ := hw
      refine q_iald hC (hF.ar 53 (by decide) (fun _ => rfl)) hin dX5_turns_24 25 rfl ?_
      refine q_iload_n hC dX5_turns_25 1 rfl 26 rfl ?_
      refine q_isub hC dX5_turns_26 27 rfl ?_
      refine q_goto hC 31 dX5_turns_27 (by decide) ?_
      exact XX.sub [] rfl (B31 M2 ((M2 53 (366 : Int32).toNatClampNeg) - v1) hw)
  · refine q_iconst (v := (-1)) hC dX5_turns_8 rfl 9 rfl ?_
    refine q_goto hC 34 dX5_turns_9 (by decide) ?_
    exact r_iret hR dX5_turns_34 hw
set_option maxRecDepth 20000 in
theorem inX5_shows_X5 : ∀ w ∈ u_ws RX5 TX5 26, w ∈ wsX5_shows := by decide +kernel
set_option maxRecDepth 100000 in
set_option maxHeartbeats 4000000 in
theorem ctX5_shows (l : Launch) (g : GG) (M : MM) (v1 : Int32) (v2 : Int32) (Q : Int32 → MM → Prop) (hF : full g) (hw : wX5_shows Q M v1 v2) : MI g l yX5_shows wsX5_shows (rmOf 2 45) [.ref (gA g 52), .int v1, .int v2] M Q := by
  refine mk_MI (cc := cX5_shows) (maxL := 6) (by decide) rfl (Nat.le_of_ble_eq_true rfl) ?_
  intro z Qf hC hR
  show XX z g Qf 6 0 [(0, .ref (gA g 52)), (1, .int v1), (2, .int v2)] [] M
  have B66 : ∀ (K26 : MM → Int32 → Int32 → Int32 → Prop) (hK26 : ∀ (M : MM) (v3 : Int32) (v4 : Int32) (v5 : Int32) , K26 M v3 v4 v5 → XX z g Qf 6 26 [(0, .ref (gA g 52)), (1, .int v1), (2, .int v2), (3, .int v3), (4, .int v4), (5, .int v5)] [] M) (M : MM) (v3 : Int32) (v4 : Int32) (v5 : Int32), wX5_shows_66 Q K26 v1 v2 M v3 v4 v5 → XX z g Qf 6 66 [(0, .ref (gA g 52)), (1, .int v1), (2, .int v2), (3, .int v3), (4, .int v4), (5, .int v5)] [] M := by
    intro K26 hK26 M v3 v4 v5 hw
    refine q_iinc (v := v5 + 1) (L' := [(5, .int (v5 + 1)), (0, .ref (gA g 52)), (1, .int v1), (2, .int v2), (3, .int v3), (4, .int v4)]) hC dX5_shows_66 5 rfl rfl (by decide) rfl 69 rfl ?_
    refine q_goto hC 26 dX5_shows_69 (by decide) ?_
    exact XX.sub [1, 2, 3, 4, 5, 0] rfl (hK26 M v3 v4 (v5 + 1) hw)
  have B61 : ∀ (K26 : MM → Int32 → Int32 → Int32 → Prop) (hK26 : ∀ (M : MM) (v3 : Int32) (v4 : Int32) (v5 : Int32) , K26 M v3 v4 v5 → XX z g Qf 6 26 [(0, .ref (gA g 52)), (1, .int v1), (2, .int v2), (3, .int v3), (4, .int v4), (5, .int v5)] [] M) (M : MM) (v5 : Int32) (p0 : Int32), wX5_shows_61 Q K26 v1 v2 M v5 p0 → XX z g Qf 6 61 [(0, .ref (gA g 52)), (1, .int v1), (2, .int v2), (5, .int v5)] [.int p0] M := by
    intro K26 hK26 M v5 p0 hw
    refine q_istore_n (L' := [(3, .int p0), (0, .ref (gA g 52)), (1, .int v1), (2, .int v2), (5, .int v5)]) hC dX5_shows_61 (by decide) rfl 62 rfl ?_
    refine q_iload hC dX5_shows_62 4 rfl 64 rfl ?_
    refine q_istore (L' := [(4, .int v5), (3, .int p0), (0, .ref (gA g 52)), (1, .int v1), (2, .int v2), (5, .int v5)]) hC dX5_shows_64 (by decide) rfl 66 rfl ?_
    exact XX.sub [2, 3, 4, 1, 0, 5] rfl (B66 _ hK26 M p0 v5 v5 hw)
  have B26 : ∀ (n : Nat) (M : MM) (v3 : Int32) (v4 : Int32) (v5 : Int32) , wX5_shows_26 Q v1 v2 n M v3 v4 v5 → XX z g Qf 6 26 [(0, .ref (gA g 52)), (1, .int v1), (2, .int v2), (3, .int v3), (4, .int v4), (5, .int v5)] [] M := by
    intro n
    induction n with
    | zero =>
      intro M v3 v4 v5 hw
      exact hw.elim
    | succ n ih =>
      intro M v3 v4 v5 hw
      refine q_iload hC dX5_shows_26 5 rfl 28 rfl ?_
      refine q_aload_n hC dX5_shows_28 0 rfl 29 rfl ?_
      refine q_getR (C := RX5) (T := TX5) (N := 26) (ci := 5) hC inX5_shows_X5 (hF.ob 52 (by decide) (fun _ => rfl)) rfl 0 (by decide) (List.mem_of_getElem? (i := 1) (by decide +kernel)) rfl 53 (fun _ => rfl) dX5_shows_29 32 rfl ?_
      refine q_sipush (v := 366) hC dX5_shows_32 (by decide) 35 rfl ?_
      obtain ⟨hin, hw⟩ := hw
      refine q_iald hC (hF.ar 53 (by decide) (fun _ => rfl)) hin dX5_shows_35 36 rfl ?_
      refine q_icmp_gt hC 72 dX5_shows_36 (by decide) 39 rfl hw (fun hw => ?_) (fun hw => ?_)
      · refine q_iload_n hC dX5_shows_72 2 rfl 73 rfl ?_
        refine q_if_ne hC 80 dX5_shows_73 (by decide) 76 rfl hw (fun hw => ?_) (fun hw => ?_)
        · refine q_iload hC dX5_shows_80 4 rfl 82 rfl ?_
          exact r_iret hR dX5_shows_82 hw
        · refine q_iload_n hC dX5_shows_76 3 rfl 77 rfl ?_
          refine q_goto hC 82 dX5_shows_77 (by decide) ?_
          exact r_iret hR dX5_shows_82 hw
      · refine q_aload_n hC dX5_shows_39 0 rfl 40 rfl ?_
        refine q_iload hC dX5_shows_40 5 rfl 42 rfl ?_
        refine r_callI hC (go_V (q := (RX5, TX5, 26)) (As := [.int v5]) (rest := []) hC (ctX5_turnsAt (zl z) g M v5 _ hF hw) 1 gX5_shows_X5_turnsAt rfl ⟨rfl, rfl⟩ (by decide +kernel) ⟨Nat.le_of_ble_eq_true rfl, Nat.le_of_ble_eq_true rfl⟩ (hF.ob 52 (by decide) (fun _ => rfl)) rfl rfl rfl (Nat.le_of_ble_eq_true rfl) dX5_shows_42) 45 rfl (fun r3 M4 hw => ?_)
        refine q_iload_n hC dX5_shows_45 1 rfl 46 rfl ?_
        refine q_icmp_ne hC 66 dX5_shows_46 (by decide) 49 rfl hw (fun hw => ?_) (fun hw => ?_)
        · exact XX.sub [0, 1, 2, 3, 4, 5] rfl (B66 _ (fun M v3 v4 v5 hw => ih M v3 v4 v5 hw) M4 v3 v4 v5 hw)
        · refine q_iload_n hC dX5_shows_49 3 rfl 50 rfl ?_
          refine q_bipush (v := (-4)) hC dX5_shows_50 (by decide) 52 rfl ?_
          refine q_icmp_ne hC 60 dX5_shows_52 (by decide) 55 rfl hw (fun hw => ?_) (fun hw => ?_)
          · refine q_iload_n hC dX5_shows_60 3 rfl 61 rfl ?_
            exact XX.sub [0, 1, 2, 5] rfl (B61 _ (fun M v3 v4 v5 hw => ih M v3 v4 v5 hw) M4 v5 v3 hw)
          · refine q_iload hC dX5_shows_55 5 rfl 57 rfl ?_
            refine q_goto hC 61 dX5_shows_57 (by decide) ?_
            exact XX.sub [0, 1, 2, 5] rfl (B61 _ (fun M v3 v4 v5 hw => ih M v3 v4 v5 hw) M4 v5 v5 hw)
  refine q_iload_n hC dX5_shows_0 1 rfl 1 rfl ?_
  refine q_if_lt hC 14 dX5_shows_1 (by decide) 4 rfl hw (fun hw => ?_) (fun hw => ?_)
  · refine q_iconst (v := (-1)) hC dX5_shows_14 rfl 15 rfl ?_
    exact r_iret hR dX5_shows_15 hw
  · refine q_iload_n hC dX5_shows_4 2 rfl 5 rfl ?_
    refine q_i2l hC dX5_shows_5 6 rfl ?_
    refine q_lconst (v := 0) hC dX5_shows_6 rfl 7 rfl ?_
    refine q_lconst (v := 1) hC dX5_shows_7 rfl 8 rfl ?_
    refine r_callI hC (go_T (As := [.long (v2.toInt64), .long 0, .long 1]) (rest := []) hC (ctX5_in (zl z) g M (v2.toInt64) 0 1 _ hw) 3 gX5_shows_X5_in rfl ⟨rfl, rfl⟩ (by decide +kernel) ⟨Nat.le_of_ble_eq_true rfl, Nat.le_of_ble_eq_true rfl⟩ rfl rfl (Nat.le_of_ble_eq_true rfl) dX5_shows_8) 11 rfl (fun r1 M2 hw => ?_)
    refine q_if_ne hC 16 dX5_shows_11 (by decide) 14 rfl hw (fun hw => ?_) (fun hw => ?_)
    · refine q_bipush (v := (-4)) hC dX5_shows_16 (by decide) 18 rfl ?_
      refine q_istore_n (L' := [(3, .int (-4)), (0, .ref (gA g 52)), (1, .int v1), (2, .int v2)]) hC dX5_shows_18 (by decide) rfl 19 rfl ?_
      refine q_bipush (v := (-4)) hC dX5_shows_19 (by decide) 21 rfl ?_
      refine q_istore (L' := [(4, .int (-4)), (3, .int (-4)), (0, .ref (gA g 52)), (1, .int v1), (2, .int v2)]) hC dX5_shows_21 (by decide) rfl 23 rfl ?_
      refine q_iconst (v := 0) hC dX5_shows_23 rfl 24 rfl ?_
      refine q_istore (L' := [(5, .int 0), (4, .int (-4)), (3, .int (-4)), (0, .ref (gA g 52)), (1, .int v1), (2, .int v2)]) hC dX5_shows_24 (by decide) rfl 26 rfl ?_
      obtain ⟨n0, hw⟩ := hw
      exact XX.sub [3, 4, 5, 2, 1, 0] rfl (B26 n0 M2 (-4) (-4) 0 hw)
    · refine q_iconst (v := (-1)) hC dX5_shows_14 rfl 15 rfl ?_
      exact r_iret hR dX5_shows_15 hw
set_option maxRecDepth 20000 in
theorem inX5_meet_X5 : ∀ w ∈ u_ws RX5 TX5 26, w ∈ wsX5_meet := by decide +kernel
set_option maxRecDepth 100000 in
set_option maxHeartbeats 4000000 in
theorem ctX5_meet (l : Launch) (g : GG) (M : MM)  (Q : Int32 → MM → Prop) (hF : full g) (hw : wX5_meet Q M ) : MI g l yX5_meet wsX5_meet (rmOf 2 45) [.ref (gA g 52)] M Q := by
  refine mk_MI (cc := cX5_meet) (maxL := 2) (by decide) rfl (Nat.le_of_ble_eq_true rfl) ?_
  intro z Qf hC hR
  show XX z g Qf 2 0 [(0, .ref (gA g 52))] [] M
  have B2 : ∀ (n : Nat) (M : MM) (v1 : Int32) , wX5_meet_2 Q n M v1 → XX z g Qf 2 2 [(0, .ref (gA g 52)), (1, .int v1)] [] M := by
    intro n
    induction n with
    | zero =>
      intro M v1 hw
      exact hw.elim
    | succ n ih =>
      intro M v1 hw
      refine q_aload_n hC dX5_meet_2 0 rfl 3 rfl ?_
      refine q_iload_n hC dX5_meet_3 1 rfl 4 rfl ?_
      refine r_callI hC (go_V (q := (RX5, TX5, 26)) (As := [.int v1]) (rest := []) hC (ctX5_turnsAt (zl z) g M v1 _ hF hw) 1 gX5_meet_X5_turnsAt rfl ⟨rfl, rfl⟩ (by decide +kernel) ⟨Nat.le_of_ble_eq_true rfl, Nat.le_of_ble_eq_true rfl⟩ (hF.ob 52 (by decide) (fun _ => rfl)) rfl rfl rfl (Nat.le_of_ble_eq_true rfl) dX5_meet_4) 7 rfl (fun r1 M2 hw => ?_)
      refine q_aload_n hC dX5_meet_7 0 rfl 8 rfl ?_
      refine q_aload_n hC dX5_meet_8 0 rfl 9 rfl ?_
      refine q_getR (C := RX5) (T := TX5) (N := 26) (ci := 5) hC inX5_meet_X5 (hF.ob 52 (by decide) (fun _ => rfl)) rfl 0 (by decide) (List.mem_of_getElem? (i := 1) (by decide +kernel)) rfl 53 (fun _ => rfl) dX5_meet_9 12 rfl ?_
      refine q_sipush (v := 366) hC dX5_meet_12 (by decide) 15 rfl ?_
      obtain ⟨hin, hw⟩ := hw
      refine q_iald hC (hF.ar 53 (by decide) (fun _ => rfl)) hin dX5_meet_15 16 rfl ?_
      refine q_iload_n hC dX5_meet_16 1 rfl 17 rfl ?_
      refine q_isub hC dX5_meet_17 18 rfl ?_
      refine r_callI hC (go_V (q := (RX5, TX5, 26)) (As := [.int ((M2 53 (366 : Int32).toNatClampNeg) - v1)]) (rest := [.int r1]) hC (ctX5_turnsAt (zl z) g M2 ((M2 53 (366 : Int32).toNatClampNeg) - v1) _ hF hw) 1 gX5_meet_X5_turnsAt rfl ⟨rfl, rfl⟩ (by decide +kernel) ⟨Nat.le_of_ble_eq_true rfl, Nat.le_of_ble_eq_true rfl⟩ (hF.ob 52 (by decide) (fun _ => rfl)) rfl rfl rfl (Nat.le_of_ble_eq_true rfl) dX5_meet_18) 21 rfl (fun r3 M4 hw => ?_)
      refine q_icmp_ge hC 30 dX5_meet_21 (by decide) 24 rfl hw (fun hw => ?_) (fun hw => ?_)
      · refine q_iload_n hC dX5_meet_30 1 rfl 31 rfl ?_
        exact r_iret hR dX5_meet_31 hw
      · refine q_iinc (v := v1 + 1) (L' := [(1, .int (v1 + 1)), (0, .ref (gA g 52))]) hC dX5_meet_24 1 rfl rfl (by decide) rfl 27 rfl ?_
        refine q_goto hC 2 dX5_meet_27 (by decide) ?_
        exact XX.sub [1, 0] rfl (ih M4 (v1 + 1) hw)
  refine q_iconst (v := 0) hC dX5_meet_0 rfl 1 rfl ?_
  refine q_istore_n (L' := [(1, .int 0), (0, .ref (gA g 52))]) hC dX5_meet_1 (by decide) rfl 2 rfl ?_
  obtain ⟨n0, hw⟩ := hw
  exact XX.sub [1, 0] rfl (B2 n0 M 0 hw)
set_option maxRecDepth 100000 in
set_option maxHeartbeats 4000000 in
theorem ctX5_apart (l : Launch) (g : GG) (M : MM) (v0 : Int32) (v1 : Int32) (Q : Int32 → MM → Prop)  (hw : wX5_apart Q M v0 v1) : MI g l yX5_apart wsX5_apart (rmOf 0 0) [.int v0, .int v1] M Q := by
  refine mk_MI (cc := cX5_apart) (maxL := 2) (by decide) rfl (Nat.le_of_ble_eq_true rfl) ?_
  intro z Qf hC hR
  show XX z g Qf 2 0 [(0, .int v0), (1, .int v1)] [] M
  refine q_iload_n hC dX5_apart_0 0 rfl 1 rfl ?_
  refine q_iload_n hC dX5_apart_1 1 rfl 2 rfl ?_
  refine q_icmp_ge hC 11 dX5_apart_2 (by decide) 5 rfl hw (fun hw => ?_) (fun hw => ?_)
  · refine q_iload_n hC dX5_apart_11 0 rfl 12 rfl ?_
    refine q_iload_n hC dX5_apart_12 1 rfl 13 rfl ?_
    refine q_isub hC dX5_apart_13 14 rfl ?_
    exact r_iret hR dX5_apart_14 hw
  · refine q_iload_n hC dX5_apart_5 1 rfl 6 rfl ?_
    refine q_iload_n hC dX5_apart_6 0 rfl 7 rfl ?_
    refine q_isub hC dX5_apart_7 8 rfl ?_
    refine q_goto hC 14 dX5_apart_8 (by decide) ?_
    exact r_iret hR dX5_apart_14 hw
set_option maxRecDepth 20000 in
theorem inX5_playedTo_X5 : ∀ w ∈ u_ws RX5 TX5 26, w ∈ wsX5_playedTo := by decide +kernel
set_option maxRecDepth 100000 in
set_option maxHeartbeats 4000000 in
theorem ctX5_playedTo (l : Launch) (g : GG) (M : MM) (v1 : Int32) (v2 : Int32) (Q : Int32 → MM → Prop) (hF : full g) (hw : wX5_playedTo Q M v1 v2) : MI g l yX5_playedTo wsX5_playedTo (rmOf 1 21) [.ref (gA g 52), .int v1, .int v2] M Q := by
  refine mk_MI (cc := cX5_playedTo) (maxL := 3) (by decide) rfl (Nat.le_of_ble_eq_true rfl) ?_
  intro z Qf hC hR
  show XX z g Qf 3 0 [(0, .ref (gA g 52)), (1, .int v1), (2, .int v2)] [] M
  refine q_iload_n hC dX5_playedTo_0 1 rfl 1 rfl ?_
  refine q_iload_n hC dX5_playedTo_1 2 rfl 2 rfl ?_
  refine q_icmp_ne hC 9 dX5_playedTo_2 (by decide) 5 rfl hw (fun hw => ?_) (fun hw => ?_)
  · refine q_aload_n hC dX5_playedTo_9 0 rfl 10 rfl ?_
    refine q_getR (C := RX5) (T := TX5) (N := 26) (ci := 5) hC inX5_playedTo_X5 (hF.ob 52 (by decide) (fun _ => rfl)) rfl 2 (by decide) (List.mem_of_getElem? (i := 1) (by decide +kernel)) rfl 55 (fun _ => rfl) dX5_playedTo_10 13 rfl ?_
    refine q_iconst (v := 5) hC dX5_playedTo_13 rfl 14 rfl ?_
    obtain ⟨hin, hw⟩ := hw
    refine q_iald hC (hF.ar 55 (by decide) (fun _ => rfl)) hin dX5_playedTo_14 15 rfl ?_
    refine q_aload_n hC dX5_playedTo_15 0 rfl 16 rfl ?_
    refine q_getR (C := RX5) (T := TX5) (N := 26) (ci := 5) hC inX5_playedTo_X5 (hF.ob 52 (by decide) (fun _ => rfl)) rfl 2 (by decide) (List.mem_of_getElem? (i := 1) (by decide +kernel)) rfl 55 (fun _ => rfl) dX5_playedTo_16 19 rfl ?_
    refine q_iconst (v := 3) hC dX5_playedTo_19 rfl 20 rfl ?_
    obtain ⟨hin, hw⟩ := hw
    refine q_iald hC (hF.ar 55 (by decide) (fun _ => rfl)) hin dX5_playedTo_20 21 rfl ?_
    refine q_iload_n hC dX5_playedTo_21 1 rfl 22 rfl ?_
    refine q_iload_n hC dX5_playedTo_22 2 rfl 23 rfl ?_
    refine r_callI hC (go_T (As := [.int v1, .int v2]) (rest := [.int (M 55 (3 : Int32).toNatClampNeg), .int (M 55 (5 : Int32).toNatClampNeg)]) hC (ctX5_apart (zl z) g M v1 v2 _ hw) 2 gX5_playedTo_X5_apart rfl ⟨rfl, rfl⟩ (by decide +kernel) ⟨Nat.le_of_ble_eq_true rfl, Nat.le_of_ble_eq_true rfl⟩ rfl rfl (Nat.le_of_ble_eq_true rfl) dX5_playedTo_23) 26 rfl (fun r1 M2 hw => ?_)
    refine q_imul hC dX5_playedTo_26 27 rfl ?_
    refine q_iadd hC dX5_playedTo_27 28 rfl ?_
    exact r_iret hR dX5_playedTo_28 hw
  · refine q_iconst (v := 0) hC dX5_playedTo_5 rfl 6 rfl ?_
    refine q_goto hC 28 dX5_playedTo_6 (by decide) ?_
    exact r_iret hR dX5_playedTo_28 hw
set_option maxRecDepth 20000 in
theorem inX5_woundTo_X5 : ∀ w ∈ u_ws RX5 TX5 26, w ∈ wsX5_woundTo := by decide +kernel
set_option maxRecDepth 100000 in
set_option maxHeartbeats 4000000 in
theorem ctX5_woundTo (l : Launch) (g : GG) (M : MM) (v1 : Int32) (v2 : Int32) (Q : Int32 → MM → Prop) (hF : full g) (hw : wX5_woundTo Q M v1 v2) : MI g l yX5_woundTo wsX5_woundTo (rmOf 2 45) [.ref (gA g 52), .int v1, .int v2] M Q := by
  refine mk_MI (cc := cX5_woundTo) (maxL := 4) (by decide) rfl (Nat.le_of_ble_eq_true rfl) ?_
  intro z Qf hC hR
  show XX z g Qf 4 0 [(0, .ref (gA g 52)), (1, .int v1), (2, .int v2)] [] M
  have B55 : ∀ (M : MM) (p0 : Int32), wX5_woundTo_55 Q v1 v2 M p0 → XX z g Qf 4 55 [(0, .ref (gA g 52))] [.int p0] M := by
    intro M p0 hw
    refine q_istore_n (L' := [(3, .int p0), (0, .ref (gA g 52))]) hC dX5_woundTo_55 (by decide) rfl 56 rfl ?_
    refine q_iconst (v := 2) hC dX5_woundTo_56 rfl 57 rfl ?_
    refine q_aload_n hC dX5_woundTo_57 1 rfl 58 rfl ?_
    refine q_getR (C := RX5) (T := TX5) (N := 26) (ci := 5) hC inX5_woundTo_X5 (hF.ob 52 (by decide) (fun _ => rfl)) rfl 2 (by decide) (List.mem_of_getElem? (i := 2) (by decide +kernel)) rfl 55 (fun _ => rfl) dX5_woundTo_58 61 rfl ?_
    refine q_iconst (v := 5) hC dX5_woundTo_61 rfl 62 rfl ?_
    obtain ⟨hin, hw⟩ := hw
    refine q_iald hC (hF.ar 55 (by decide) (fun _ => rfl)) hin dX5_woundTo_62 63 rfl ?_
    refine q_imul hC dX5_woundTo_63 64 rfl ?_
    refine q_aload_n hC dX5_woundTo_64 1 rfl 65 rfl ?_
    refine q_getR (C := RX5) (T := TX5) (N := 26) (ci := 5) hC inX5_woundTo_X5 (hF.ob 52 (by decide) (fun _ => rfl)) rfl 2 (by decide) (List.mem_of_getElem? (i := 2) (by decide +kernel)) rfl 55 (fun _ => rfl) dX5_woundTo_65 68 rfl ?_
    refine q_iconst (v := 4) hC dX5_woundTo_68 rfl 69 rfl ?_
    obtain ⟨hin, hw⟩ := hw
    refine q_iald hC (hF.ar 55 (by decide) (fun _ => rfl)) hin dX5_woundTo_69 70 rfl ?_
    refine q_iload_n hC dX5_woundTo_70 0 rfl 71 rfl ?_
    refine q_imul hC dX5_woundTo_71 72 rfl ?_
    refine q_iadd hC dX5_woundTo_72 73 rfl ?_
    exact r_iret hR dX5_woundTo_73 hw
  refine q_iload_n hC dX5_woundTo_0 1 rfl 1 rfl ?_
  refine q_iload_n hC dX5_woundTo_1 2 rfl 2 rfl ?_
  refine q_icmp_ne hC 7 dX5_woundTo_2 (by decide) 5 rfl hw (fun hw => ?_) (fun hw => ?_)
  · refine q_iload_n hC dX5_woundTo_7 2 rfl 8 rfl ?_
    refine q_iload_n hC dX5_woundTo_8 1 rfl 9 rfl ?_
    refine q_icmp_le hC 26 dX5_woundTo_9 (by decide) 12 rfl hw (fun hw => ?_) (fun hw => ?_)
    · refine q_aload_n hC dX5_woundTo_26 0 rfl 27 rfl ?_
      refine q_aload_n hC dX5_woundTo_27 0 rfl 28 rfl ?_
      refine q_getR (C := RX5) (T := TX5) (N := 26) (ci := 5) hC inX5_woundTo_X5 (hF.ob 52 (by decide) (fun _ => rfl)) rfl 0 (by decide) (List.mem_of_getElem? (i := 1) (by decide +kernel)) rfl 53 (fun _ => rfl) dX5_woundTo_28 31 rfl ?_
      refine q_sipush (v := 366) hC dX5_woundTo_31 (by decide) 34 rfl ?_
      obtain ⟨hin, hw⟩ := hw
      refine q_iald hC (hF.ar 53 (by decide) (fun _ => rfl)) hin dX5_woundTo_34 35 rfl ?_
      refine q_iload_n hC dX5_woundTo_35 2 rfl 36 rfl ?_
      refine q_isub hC dX5_woundTo_36 37 rfl ?_
      refine r_callI hC (go_V (q := (RX5, TX5, 26)) (As := [.int ((M 53 (366 : Int32).toNatClampNeg) - v2)]) (rest := []) hC (ctX5_turnsAt (zl z) g M ((M 53 (366 : Int32).toNatClampNeg) - v2) _ hF hw) 1 gX5_woundTo_X5_turnsAt rfl ⟨rfl, rfl⟩ (by decide +kernel) ⟨Nat.le_of_ble_eq_true rfl, Nat.le_of_ble_eq_true rfl⟩ (hF.ob 52 (by decide) (fun _ => rfl)) rfl rfl rfl (Nat.le_of_ble_eq_true rfl) dX5_woundTo_37) 40 rfl (fun r1 M2 hw => ?_)
      refine q_aload_n hC dX5_woundTo_40 0 rfl 41 rfl ?_
      refine q_aload_n hC dX5_woundTo_41 0 rfl 42 rfl ?_
      refine q_getR (C := RX5) (T := TX5) (N := 26) (ci := 5) hC inX5_woundTo_X5 (hF.ob 52 (by decide) (fun _ => rfl)) rfl 0 (by decide) (List.mem_of_getElem? (i := 1) (by decide +kernel)) rfl 53 (fun _ => rfl) dX5_woundTo_42 45 rfl ?_
      refine q_sipush (v := 366) hC dX5_woundTo_45 (by decide) 48 rfl ?_
      obtain ⟨hin, hw⟩ := hw
      refine q_iald hC (hF.ar 53 (by decide) (fun _ => rfl)) hin dX5_woundTo_48 49 rfl ?_
      refine q_iload_n hC dX5_woundTo_49 1 rfl 50 rfl ?_
      refine q_isub hC dX5_woundTo_50 51 rfl ?_
      refine r_callI hC (go_V (q := (RX5, TX5, 26)) (As := [.int ((M2 53 (366 : Int32).toNatClampNeg) - v1)]) (rest := [.int r1]) hC (ctX5_turnsAt (zl z) g M2 ((M2 53 (366 : Int32).toNatClampNeg) - v1) _ hF hw) 1 gX5_woundTo_X5_turnsAt rfl ⟨rfl, rfl⟩ (by decide +kernel) ⟨Nat.le_of_ble_eq_true rfl, Nat.le_of_ble_eq_true rfl⟩ (hF.ob 52 (by decide) (fun _ => rfl)) rfl rfl rfl (Nat.le_of_ble_eq_true rfl) dX5_woundTo_51) 54 rfl (fun r3 M4 hw => ?_)
      refine q_isub hC dX5_woundTo_54 55 rfl ?_
      exact XX.sub [0] rfl (B55 M4 (r1 - r3) hw)
    · refine q_aload_n hC dX5_woundTo_12 0 rfl 13 rfl ?_
      refine q_iload_n hC dX5_woundTo_13 2 rfl 14 rfl ?_
      refine r_callI hC (go_V (q := (RX5, TX5, 26)) (As := [.int v2]) (rest := []) hC (ctX5_turnsAt (zl z) g M v2 _ hF hw) 1 gX5_woundTo_X5_turnsAt rfl ⟨rfl, rfl⟩ (by decide +kernel) ⟨Nat.le_of_ble_eq_true rfl, Nat.le_of_ble_eq_true rfl⟩ (hF.ob 52 (by decide) (fun _ => rfl)) rfl rfl rfl (Nat.le_of_ble_eq_true rfl) dX5_woundTo_14) 17 rfl (fun r5 M6 hw => ?_)
      refine q_aload_n hC dX5_woundTo_17 0 rfl 18 rfl ?_
      refine q_iload_n hC dX5_woundTo_18 1 rfl 19 rfl ?_
      refine r_callI hC (go_V (q := (RX5, TX5, 26)) (As := [.int v1]) (rest := [.int r5]) hC (ctX5_turnsAt (zl z) g M6 v1 _ hF hw) 1 gX5_woundTo_X5_turnsAt rfl ⟨rfl, rfl⟩ (by decide +kernel) ⟨Nat.le_of_ble_eq_true rfl, Nat.le_of_ble_eq_true rfl⟩ (hF.ob 52 (by decide) (fun _ => rfl)) rfl rfl rfl (Nat.le_of_ble_eq_true rfl) dX5_woundTo_19) 22 rfl (fun r7 M8 hw => ?_)
      refine q_isub hC dX5_woundTo_22 23 rfl ?_
      refine q_goto hC 55 dX5_woundTo_23 (by decide) ?_
      exact XX.sub [0] rfl (B55 M8 (r5 - r7) hw)
  · refine q_iconst (v := 0) hC dX5_woundTo_5 rfl 6 rfl ?_
    exact r_iret hR dX5_woundTo_6 hw
set_option maxRecDepth 100000 in
set_option maxHeartbeats 4000000 in
theorem ctX5_sooner (l : Launch) (g : GG) (M : MM) (v1 : Int32) (v2 : Int32) (Q : Int32 → MM → Prop) (hF : full g) (hw : wX5_sooner Q M v1 v2) : MI g l yX5_sooner wsX5_sooner (rmOf 3 68) [.ref (gA g 52), .int v1, .int v2] M Q := by
  refine mk_MI (cc := cX5_sooner) (maxL := 3) (by decide) rfl (Nat.le_of_ble_eq_true rfl) ?_
  intro z Qf hC hR
  show XX z g Qf 3 0 [(0, .ref (gA g 52)), (1, .int v1), (2, .int v2)] [] M
  refine q_aload_n hC dX5_sooner_0 0 rfl 1 rfl ?_
  refine q_iload_n hC dX5_sooner_1 1 rfl 2 rfl ?_
  refine q_iload_n hC dX5_sooner_2 2 rfl 3 rfl ?_
  refine r_callI hC (go_V (q := (RX5, TX5, 26)) (As := [.int v1, .int v2]) (rest := []) hC (ctX5_playedTo (zl z) g M v1 v2 _ hF hw) 2 gX5_sooner_X5_playedTo rfl ⟨rfl, rfl⟩ (by decide +kernel) ⟨Nat.le_of_ble_eq_true rfl, Nat.le_of_ble_eq_true rfl⟩ (hF.ob 52 (by decide) (fun _ => rfl)) rfl rfl rfl (Nat.le_of_ble_eq_true rfl) dX5_sooner_3) 6 rfl (fun r1 M2 hw => ?_)
  refine q_aload_n hC dX5_sooner_6 0 rfl 7 rfl ?_
  refine q_iload_n hC dX5_sooner_7 1 rfl 8 rfl ?_
  refine q_iload_n hC dX5_sooner_8 2 rfl 9 rfl ?_
  refine r_callI hC (go_V (q := (RX5, TX5, 26)) (As := [.int v1, .int v2]) (rest := [.int r1]) hC (ctX5_woundTo (zl z) g M2 v1 v2 _ hF hw) 2 gX5_sooner_X5_woundTo rfl ⟨rfl, rfl⟩ (by decide +kernel) ⟨Nat.le_of_ble_eq_true rfl, Nat.le_of_ble_eq_true rfl⟩ (hF.ob 52 (by decide) (fun _ => rfl)) rfl rfl rfl (Nat.le_of_ble_eq_true rfl) dX5_sooner_9) 12 rfl (fun r3 M4 hw => ?_)
  refine r_callI hC (go_T (As := [.int r1, .int r3]) (rest := []) hC (ctX5_less (zl z) g M4 r1 r3 _ hw) 2 gX5_sooner_X5_less rfl ⟨rfl, rfl⟩ (by decide +kernel) ⟨Nat.le_of_ble_eq_true rfl, Nat.le_of_ble_eq_true rfl⟩ rfl rfl (Nat.le_of_ble_eq_true rfl) dX5_sooner_12) 15 rfl (fun r5 M6 hw => ?_)
  exact r_iret hR dX5_sooner_15 hw
set_option maxRecDepth 100000 in
set_option maxHeartbeats 4000000 in
theorem ctX5_ticks (l : Launch) (g : GG) (M : MM) (v1 : Int32) (v2 : Int32) (v3 : Int32) (Q : Int32 → MM → Prop) (hF : full g) (hw : wX5_ticks Q M v1 v2 v3) : MI g l yX5_ticks wsX5_ticks (rmOf 4 90) [.ref (gA g 52), .int v1, .int v2, .int v3] M Q := by
  refine mk_MI (cc := cX5_ticks) (maxL := 4) (by decide) rfl (Nat.le_of_ble_eq_true rfl) ?_
  intro z Qf hC hR
  show XX z g Qf 4 0 [(0, .ref (gA g 52)), (1, .int v1), (2, .int v2), (3, .int v3)] [] M
  refine q_aload_n hC dX5_ticks_0 0 rfl 1 rfl ?_
  refine q_iload_n hC dX5_ticks_1 1 rfl 2 rfl ?_
  refine r_callI hC (go_V (q := (RX5, TX5, 26)) (As := [.int v1]) (rest := []) hC (ctX5_isPlace (zl z) g M v1 _ hF hw) 1 gX5_ticks_X5_isPlace rfl ⟨rfl, rfl⟩ (by decide +kernel) ⟨Nat.le_of_ble_eq_true rfl, Nat.le_of_ble_eq_true rfl⟩ (hF.ob 52 (by decide) (fun _ => rfl)) rfl rfl rfl (Nat.le_of_ble_eq_true rfl) dX5_ticks_2) 5 rfl (fun r1 M2 hw => ?_)
  refine q_if_eq hC 28 dX5_ticks_5 (by decide) 8 rfl hw (fun hw => ?_) (fun hw => ?_)
  · refine q_iconst (v := (-1)) hC dX5_ticks_28 rfl 29 rfl ?_
    exact r_iret hR dX5_ticks_29 hw
  · refine q_aload_n hC dX5_ticks_8 0 rfl 9 rfl ?_
    refine q_iload_n hC dX5_ticks_9 2 rfl 10 rfl ?_
    refine r_callI hC (go_V (q := (RX5, TX5, 26)) (As := [.int v2]) (rest := []) hC (ctX5_isPlace (zl z) g M2 v2 _ hF hw) 1 gX5_ticks_X5_isPlace rfl ⟨rfl, rfl⟩ (by decide +kernel) ⟨Nat.le_of_ble_eq_true rfl, Nat.le_of_ble_eq_true rfl⟩ (hF.ob 52 (by decide) (fun _ => rfl)) rfl rfl rfl (Nat.le_of_ble_eq_true rfl) dX5_ticks_10) 13 rfl (fun r3 M4 hw => ?_)
    refine q_if_eq hC 28 dX5_ticks_13 (by decide) 16 rfl hw (fun hw => ?_) (fun hw => ?_)
    · refine q_iconst (v := (-1)) hC dX5_ticks_28 rfl 29 rfl ?_
      exact r_iret hR dX5_ticks_29 hw
    · refine q_iload_n hC dX5_ticks_16 3 rfl 17 rfl ?_
      refine q_i2l hC dX5_ticks_17 18 rfl ?_
      refine q_lconst (v := 0) hC dX5_ticks_18 rfl 19 rfl ?_
      refine q_ldc2 (v := 2) hC (List.mem_of_getElem? (i := 1) (by decide +kernel)) dX5_ticks_19 22 rfl ?_
      refine r_callI hC (go_T (As := [.long (v3.toInt64), .long 0, .long 2]) (rest := []) hC (ctX5_in (zl z) g M4 (v3.toInt64) 0 2 _ hw) 3 gX5_ticks_X5_in rfl ⟨rfl, rfl⟩ (by decide +kernel) ⟨Nat.le_of_ble_eq_true rfl, Nat.le_of_ble_eq_true rfl⟩ rfl rfl (Nat.le_of_ble_eq_true rfl) dX5_ticks_22) 25 rfl (fun r5 M6 hw => ?_)
      refine q_if_ne hC 30 dX5_ticks_25 (by decide) 28 rfl hw (fun hw => ?_) (fun hw => ?_)
      · refine q_iload_n hC dX5_ticks_30 3 rfl 31 rfl ?_
        refine q_if_ne hC 43 dX5_ticks_31 (by decide) 34 rfl hw (fun hw => ?_) (fun hw => ?_)
        · refine q_iload_n hC dX5_ticks_43 3 rfl 44 rfl ?_
          refine q_iconst (v := 1) hC dX5_ticks_44 rfl 45 rfl ?_
          refine q_icmp_ne hC 57 dX5_ticks_45 (by decide) 48 rfl hw (fun hw => ?_) (fun hw => ?_)
          · refine q_aload_n hC dX5_ticks_57 0 rfl 58 rfl ?_
            refine q_iload_n hC dX5_ticks_58 1 rfl 59 rfl ?_
            refine q_iload_n hC dX5_ticks_59 2 rfl 60 rfl ?_
            refine r_callI hC (go_V (q := (RX5, TX5, 26)) (As := [.int v1, .int v2]) (rest := []) hC (ctX5_sooner (zl z) g M6 v1 v2 _ hF hw) 2 gX5_ticks_X5_sooner rfl ⟨rfl, rfl⟩ (by decide +kernel) ⟨Nat.le_of_ble_eq_true rfl, Nat.le_of_ble_eq_true rfl⟩ (hF.ob 52 (by decide) (fun _ => rfl)) rfl rfl rfl (Nat.le_of_ble_eq_true rfl) dX5_ticks_60) 63 rfl (fun r7 M8 hw => ?_)
            exact r_iret hR dX5_ticks_63 hw
          · refine q_aload_n hC dX5_ticks_48 0 rfl 49 rfl ?_
            refine q_iload_n hC dX5_ticks_49 1 rfl 50 rfl ?_
            refine q_iload_n hC dX5_ticks_50 2 rfl 51 rfl ?_
            refine r_callI hC (go_V (q := (RX5, TX5, 26)) (As := [.int v1, .int v2]) (rest := []) hC (ctX5_woundTo (zl z) g M6 v1 v2 _ hF hw) 2 gX5_ticks_X5_woundTo rfl ⟨rfl, rfl⟩ (by decide +kernel) ⟨Nat.le_of_ble_eq_true rfl, Nat.le_of_ble_eq_true rfl⟩ (hF.ob 52 (by decide) (fun _ => rfl)) rfl rfl rfl (Nat.le_of_ble_eq_true rfl) dX5_ticks_51) 54 rfl (fun r9 M10 hw => ?_)
            refine q_goto hC 63 dX5_ticks_54 (by decide) ?_
            exact r_iret hR dX5_ticks_63 hw
        · refine q_aload_n hC dX5_ticks_34 0 rfl 35 rfl ?_
          refine q_iload_n hC dX5_ticks_35 1 rfl 36 rfl ?_
          refine q_iload_n hC dX5_ticks_36 2 rfl 37 rfl ?_
          refine r_callI hC (go_V (q := (RX5, TX5, 26)) (As := [.int v1, .int v2]) (rest := []) hC (ctX5_playedTo (zl z) g M6 v1 v2 _ hF hw) 2 gX5_ticks_X5_playedTo rfl ⟨rfl, rfl⟩ (by decide +kernel) ⟨Nat.le_of_ble_eq_true rfl, Nat.le_of_ble_eq_true rfl⟩ (hF.ob 52 (by decide) (fun _ => rfl)) rfl rfl rfl (Nat.le_of_ble_eq_true rfl) dX5_ticks_37) 40 rfl (fun r11 M12 hw => ?_)
          refine q_goto hC 63 dX5_ticks_40 (by decide) ?_
          exact r_iret hR dX5_ticks_63 hw
      · refine q_iconst (v := (-1)) hC dX5_ticks_28 rfl 29 rfl ?_
        exact r_iret hR dX5_ticks_29 hw
set_option maxRecDepth 20000 in
theorem inX5_goesTo_X5 : ∀ w ∈ u_ws RX5 TX5 26, w ∈ wsX5_goesTo := by decide +kernel
set_option maxRecDepth 100000 in
set_option maxHeartbeats 4000000 in
theorem ctX5_goesTo (l : Launch) (g : GG) (M : MM) (v1 : Int32) (Q : Int32 → MM → Prop) (hF : full g) (hw : wX5_goesTo Q M v1) : MI g l yX5_goesTo wsX5_goesTo (rmOf 4 90) [.ref (gA g 52), .int v1] M Q := by
  refine mk_MI (cc := cX5_goesTo) (maxL := 3) (by decide) rfl (Nat.le_of_ble_eq_true rfl) ?_
  intro z Qf hC hR
  show XX z g Qf 3 0 [(0, .ref (gA g 52)), (1, .int v1)] [] M
  refine q_aload_n hC dX5_goesTo_0 0 rfl 1 rfl ?_
  refine q_aload_n hC dX5_goesTo_1 0 rfl 2 rfl ?_
  refine q_getR (C := RX5) (T := TX5) (N := 26) (ci := 5) hC inX5_goesTo_X5 (hF.ob 52 (by decide) (fun _ => rfl)) rfl 0 (by decide) (List.mem_of_getElem? (i := 1) (by decide +kernel)) rfl 53 (fun _ => rfl) dX5_goesTo_2 5 rfl ?_
  refine q_sipush (v := 325) hC dX5_goesTo_5 (by decide) 8 rfl ?_
  obtain ⟨hin, hw⟩ := hw
  refine q_iald hC (hF.ar 53 (by decide) (fun _ => rfl)) hin dX5_goesTo_8 9 rfl ?_
  refine q_iload_n hC dX5_goesTo_9 1 rfl 10 rfl ?_
  refine r_callI hC (go_V (q := (RX5, TX5, 26)) (As := [.int (M 53 (325 : Int32).toNatClampNeg), .int v1]) (rest := []) hC (ctX5_sooner (zl z) g M (M 53 (325 : Int32).toNatClampNeg) v1 _ hF hw) 2 gX5_goesTo_X5_sooner rfl ⟨rfl, rfl⟩ (by decide +kernel) ⟨Nat.le_of_ble_eq_true rfl, Nat.le_of_ble_eq_true rfl⟩ (hF.ob 52 (by decide) (fun _ => rfl)) rfl rfl rfl (Nat.le_of_ble_eq_true rfl) dX5_goesTo_10) 13 rfl (fun r1 M2 hw => ?_)
  refine q_istore_n (L' := [(2, .int r1), (0, .ref (gA g 52)), (1, .int v1)]) hC dX5_goesTo_13 (by decide) rfl 14 rfl ?_
  refine q_aload_n hC dX5_goesTo_14 1 rfl 15 rfl ?_
  refine q_getR (C := RX5) (T := TX5) (N := 26) (ci := 5) hC inX5_goesTo_X5 (hF.ob 52 (by decide) (fun _ => rfl)) rfl 0 (by decide) (List.mem_of_getElem? (i := 1) (by decide +kernel)) rfl 53 (fun _ => rfl) dX5_goesTo_15 18 rfl ?_
  refine q_sipush (v := 325) hC dX5_goesTo_18 (by decide) 21 rfl ?_
  refine q_iload_n hC dX5_goesTo_21 2 rfl 22 rfl ?_
  obtain ⟨hin, hw⟩ := hw
  refine q_iast hC (hF.ar 53 (by decide) (fun _ => rfl)) hin dX5_goesTo_22 23 rfl (fun M3 eM3 => ?_)
  have hw := hw M3 eM3
  refine q_aload_n hC dX5_goesTo_23 1 rfl 24 rfl ?_
  refine q_getR (C := RX5) (T := TX5) (N := 26) (ci := 5) hC inX5_goesTo_X5 (hF.ob 52 (by decide) (fun _ => rfl)) rfl 0 (by decide) (List.mem_of_getElem? (i := 1) (by decide +kernel)) rfl 53 (fun _ => rfl) dX5_goesTo_24 27 rfl ?_
  refine q_sipush (v := 326) hC dX5_goesTo_27 (by decide) 30 rfl ?_
  refine q_dup2 hC dX5_goesTo_30 rfl rfl 31 rfl ?_
  obtain ⟨hin, hw⟩ := hw
  refine q_iald hC (hF.ar 53 (by decide) (fun _ => rfl)) hin dX5_goesTo_31 32 rfl ?_
  refine q_iload_n hC dX5_goesTo_32 0 rfl 33 rfl ?_
  refine q_iadd hC dX5_goesTo_33 34 rfl ?_
  obtain ⟨hin, hw⟩ := hw
  refine q_iast hC (hF.ar 53 (by decide) (fun _ => rfl)) hin dX5_goesTo_34 35 rfl (fun M4 eM4 => ?_)
  have hw := hw M4 eM4
  refine q_iload_n hC dX5_goesTo_35 0 rfl 36 rfl ?_
  exact r_iret hR dX5_goesTo_36 hw
set_option maxRecDepth 100000 in
set_option maxHeartbeats 4000000 in
theorem ctX5_go (l : Launch) (g : GG) (M : MM) (v1 : Int32) (Q : Int32 → MM → Prop) (hF : full g) (hw : wX5_go Q M v1) : MI g l yX5_go wsX5_go (rmOf 5 112) [.ref (gA g 52), .int v1] M Q := by
  refine mk_MI (cc := cX5_go) (maxL := 2) (by decide) rfl (Nat.le_of_ble_eq_true rfl) ?_
  intro z Qf hC hR
  show XX z g Qf 2 0 [(0, .ref (gA g 52)), (1, .int v1)] [] M
  refine q_aload_n hC dX5_go_0 0 rfl 1 rfl ?_
  refine q_iload_n hC dX5_go_1 1 rfl 2 rfl ?_
  refine r_callI hC (go_V (q := (RX5, TX5, 26)) (As := [.int v1]) (rest := []) hC (ctX5_isPlace (zl z) g M v1 _ hF hw) 1 gX5_go_X5_isPlace rfl ⟨rfl, rfl⟩ (by decide +kernel) ⟨Nat.le_of_ble_eq_true rfl, Nat.le_of_ble_eq_true rfl⟩ (hF.ob 52 (by decide) (fun _ => rfl)) rfl rfl rfl (Nat.le_of_ble_eq_true rfl) dX5_go_2) 5 rfl (fun r1 M2 hw => ?_)
  refine q_if_eq hC 16 dX5_go_5 (by decide) 8 rfl hw (fun hw => ?_) (fun hw => ?_)
  · refine q_iconst (v := (-1)) hC dX5_go_16 rfl 17 rfl ?_
    exact r_iret hR dX5_go_17 hw
  · refine q_aload_n hC dX5_go_8 0 rfl 9 rfl ?_
    refine q_iload_n hC dX5_go_9 1 rfl 10 rfl ?_
    refine r_callI hC (go_V (q := (RX5, TX5, 26)) (As := [.int v1]) (rest := []) hC (ctX5_goesTo (zl z) g M2 v1 _ hF hw) 1 gX5_go_X5_goesTo rfl ⟨rfl, rfl⟩ (by decide +kernel) ⟨Nat.le_of_ble_eq_true rfl, Nat.le_of_ble_eq_true rfl⟩ (hF.ob 52 (by decide) (fun _ => rfl)) rfl rfl rfl (Nat.le_of_ble_eq_true rfl) dX5_go_10) 13 rfl (fun r3 M4 hw => ?_)
    refine q_goto hC 17 dX5_go_13 (by decide) ?_
    exact r_iret hR dX5_go_17 hw
set_option maxRecDepth 20000 in
theorem inX5_endOfAll_X5 : ∀ w ∈ u_ws RX5 TX5 26, w ∈ wsX5_endOfAll := by decide +kernel
set_option maxRecDepth 100000 in
set_option maxHeartbeats 4000000 in
theorem ctX5_endOfAll (l : Launch) (g : GG) (M : MM)  (Q : Int32 → MM → Prop) (hF : full g) (hw : wX5_endOfAll Q M ) : MI g l yX5_endOfAll wsX5_endOfAll (rmOf 2 42) [.ref (gA g 52)] M Q := by
  refine mk_MI (cc := cX5_endOfAll) (maxL := 1) (by decide) rfl (Nat.le_of_ble_eq_true rfl) ?_
  intro z Qf hC hR
  show XX z g Qf 1 0 [(0, .ref (gA g 52))] [] M
  refine q_aload_n hC dX5_endOfAll_0 0 rfl 1 rfl ?_
  refine q_getR (C := RX5) (T := TX5) (N := 26) (ci := 5) hC inX5_endOfAll_X5 (hF.ob 52 (by decide) (fun _ => rfl)) rfl 0 (by decide) (List.mem_of_getElem? (i := 1) (by decide +kernel)) rfl 53 (fun _ => rfl) dX5_endOfAll_1 4 rfl ?_
  refine q_iconst (v := 0) hC dX5_endOfAll_4 rfl 5 rfl ?_
  obtain ⟨hin, hw⟩ := hw
  refine q_iald hC (hF.ar 53 (by decide) (fun _ => rfl)) hin dX5_endOfAll_5 6 rfl ?_
  refine q_if_ne hC 13 dX5_endOfAll_6 (by decide) 9 rfl hw (fun hw => ?_) (fun hw => ?_)
  · refine q_aload_n hC dX5_endOfAll_13 0 rfl 14 rfl ?_
    refine q_aload_n hC dX5_endOfAll_14 0 rfl 15 rfl ?_
    refine q_getR (C := RX5) (T := TX5) (N := 26) (ci := 5) hC inX5_endOfAll_X5 (hF.ob 52 (by decide) (fun _ => rfl)) rfl 0 (by decide) (List.mem_of_getElem? (i := 1) (by decide +kernel)) rfl 53 (fun _ => rfl) dX5_endOfAll_15 18 rfl ?_
    refine q_iconst (v := 0) hC dX5_endOfAll_18 rfl 19 rfl ?_
    obtain ⟨hin, hw⟩ := hw
    refine q_iald hC (hF.ar 53 (by decide) (fun _ => rfl)) hin dX5_endOfAll_19 20 rfl ?_
    refine q_iconst (v := 1) hC dX5_endOfAll_20 rfl 21 rfl ?_
    refine q_isub hC dX5_endOfAll_21 22 rfl ?_
    refine r_callI hC (go_V (q := (RX5, TX5, 26)) (As := [.int ((M 53 (0 : Int32).toNatClampNeg) - (1 : Int32))]) (rest := []) hC (ctX5_endOf (zl z) g M ((M 53 (0 : Int32).toNatClampNeg) - (1 : Int32)) _ hF hw) 1 gX5_endOfAll_X5_endOf rfl ⟨rfl, rfl⟩ (by decide +kernel) ⟨Nat.le_of_ble_eq_true rfl, Nat.le_of_ble_eq_true rfl⟩ (hF.ob 52 (by decide) (fun _ => rfl)) rfl rfl rfl (Nat.le_of_ble_eq_true rfl) dX5_endOfAll_22) 25 rfl (fun r1 M2 hw => ?_)
    exact r_iret hR dX5_endOfAll_25 hw
  · refine q_iconst (v := 0) hC dX5_endOfAll_9 rfl 10 rfl ?_
    refine q_goto hC 25 dX5_endOfAll_10 (by decide) ?_
    exact r_iret hR dX5_endOfAll_25 hw
set_option maxRecDepth 20000 in
theorem inX5_now_X5 : ∀ w ∈ u_ws RX5 TX5 26, w ∈ wsX5_now := by decide +kernel
set_option maxRecDepth 100000 in
set_option maxHeartbeats 4000000 in
theorem ctX5_now (l : Launch) (g : GG) (M : MM) (v1 : Int32) (Q : Int32 → MM → Prop) (hF : full g) (hw : wX5_now Q M v1) : MI g l yX5_now wsX5_now (rmOf 3 62) [.ref (gA g 52), .int v1] M Q := by
  refine mk_MI (cc := cX5_now) (maxL := 2) (by decide) rfl (Nat.le_of_ble_eq_true rfl) ?_
  intro z Qf hC hR
  show XX z g Qf 2 0 [(0, .ref (gA g 52)), (1, .int v1)] [] M
  refine q_iload_n hC dX5_now_0 1 rfl 1 rfl ?_
  by_cases c0 : v1 = 0
  · have hw := hw.1 c0
    refine q_tabIn hC 40 dX5_now_1 (by rw [c0]; decide) (by rw [c0]; decide) (by rw [c0]; rfl) (by decide) ?_
    refine q_aload_n hC dX5_now_40 0 rfl 41 rfl ?_
    refine q_getR (C := RX5) (T := TX5) (N := 26) (ci := 5) hC inX5_now_X5 (hF.ob 52 (by decide) (fun _ => rfl)) rfl 0 (by decide) (List.mem_of_getElem? (i := 1) (by decide +kernel)) rfl 53 (fun _ => rfl) dX5_now_41 44 rfl ?_
    refine q_sipush (v := 325) hC dX5_now_44 (by decide) 47 rfl ?_
    obtain ⟨hin, hw⟩ := hw
    refine q_iald hC (hF.ar 53 (by decide) (fun _ => rfl)) hin dX5_now_47 48 rfl ?_
    exact r_iret hR dX5_now_48 hw
  · have hw := hw.2 c0
    by_cases c1 : v1 = 1
    · have hw := hw.1 c1
      refine q_tabIn hC 49 dX5_now_1 (by rw [c1]; decide) (by rw [c1]; decide) (by rw [c1]; rfl) (by decide) ?_
      refine q_aload_n hC dX5_now_49 0 rfl 50 rfl ?_
      refine q_getR (C := RX5) (T := TX5) (N := 26) (ci := 5) hC inX5_now_X5 (hF.ob 52 (by decide) (fun _ => rfl)) rfl 0 (by decide) (List.mem_of_getElem? (i := 1) (by decide +kernel)) rfl 53 (fun _ => rfl) dX5_now_50 53 rfl ?_
      refine q_sipush (v := 326) hC dX5_now_53 (by decide) 56 rfl ?_
      obtain ⟨hin, hw⟩ := hw
      refine q_iald hC (hF.ar 53 (by decide) (fun _ => rfl)) hin dX5_now_56 57 rfl ?_
      exact r_iret hR dX5_now_57 hw
    · have hw := hw.2 c1
      by_cases c2 : v1 = 2
      · have hw := hw.1 c2
        refine q_tabIn hC 58 dX5_now_1 (by rw [c2]; decide) (by rw [c2]; decide) (by rw [c2]; rfl) (by decide) ?_
        refine q_aload_n hC dX5_now_58 0 rfl 59 rfl ?_
        refine q_aload_n hC dX5_now_59 0 rfl 60 rfl ?_
        refine q_getR (C := RX5) (T := TX5) (N := 26) (ci := 5) hC inX5_now_X5 (hF.ob 52 (by decide) (fun _ => rfl)) rfl 0 (by decide) (List.mem_of_getElem? (i := 1) (by decide +kernel)) rfl 53 (fun _ => rfl) dX5_now_60 63 rfl ?_
        refine q_sipush (v := 325) hC dX5_now_63 (by decide) 66 rfl ?_
        obtain ⟨hin, hw⟩ := hw
        refine q_iald hC (hF.ar 53 (by decide) (fun _ => rfl)) hin dX5_now_66 67 rfl ?_
        refine r_callI hC (go_V (q := (RX5, TX5, 26)) (As := [.int (M 53 (325 : Int32).toNatClampNeg)]) (rest := []) hC (ctX5_turnsAt (zl z) g M (M 53 (325 : Int32).toNatClampNeg) _ hF hw) 1 gX5_now_X5_turnsAt rfl ⟨rfl, rfl⟩ (by decide +kernel) ⟨Nat.le_of_ble_eq_true rfl, Nat.le_of_ble_eq_true rfl⟩ (hF.ob 52 (by decide) (fun _ => rfl)) rfl rfl rfl (Nat.le_of_ble_eq_true rfl) dX5_now_67) 70 rfl (fun r1 M2 hw => ?_)
        exact r_iret hR dX5_now_70 hw
      · have hw := hw.2 c2
        by_cases c3 : v1 = 3
        · have hw := hw.1 c3
          refine q_tabIn hC 71 dX5_now_1 (by rw [c3]; decide) (by rw [c3]; decide) (by rw [c3]; rfl) (by decide) ?_
          refine q_aload_n hC dX5_now_71 0 rfl 72 rfl ?_
          refine q_getR (C := RX5) (T := TX5) (N := 26) (ci := 5) hC inX5_now_X5 (hF.ob 52 (by decide) (fun _ => rfl)) rfl 0 (by decide) (List.mem_of_getElem? (i := 1) (by decide +kernel)) rfl 53 (fun _ => rfl) dX5_now_72 75 rfl ?_
          refine q_sipush (v := 340) hC dX5_now_75 (by decide) 78 rfl ?_
          obtain ⟨hin, hw⟩ := hw
          refine q_iald hC (hF.ar 53 (by decide) (fun _ => rfl)) hin dX5_now_78 79 rfl ?_
          exact r_iret hR dX5_now_79 hw
        · have hw := hw.2 c3
          by_cases c4 : v1 = 4
          · have hw := hw.1 c4
            refine q_tabIn hC 80 dX5_now_1 (by rw [c4]; decide) (by rw [c4]; decide) (by rw [c4]; rfl) (by decide) ?_
            refine q_aload_n hC dX5_now_80 0 rfl 81 rfl ?_
            refine q_getR (C := RX5) (T := TX5) (N := 26) (ci := 5) hC inX5_now_X5 (hF.ob 52 (by decide) (fun _ => rfl)) rfl 0 (by decide) (List.mem_of_getElem? (i := 1) (by decide +kernel)) rfl 53 (fun _ => rfl) dX5_now_81 84 rfl ?_
            refine q_sipush (v := 327) hC dX5_now_84 (by decide) 87 rfl ?_
            obtain ⟨hin, hw⟩ := hw
            refine q_iald hC (hF.ar 53 (by decide) (fun _ => rfl)) hin dX5_now_87 88 rfl ?_
            exact r_iret hR dX5_now_88 hw
          · have hw := hw.2 c4
            by_cases c5 : v1 = 5
            · have hw := hw.1 c5
              refine q_tabIn hC 89 dX5_now_1 (by rw [c5]; decide) (by rw [c5]; decide) (by rw [c5]; rfl) (by decide) ?_
              refine q_aload_n hC dX5_now_89 0 rfl 90 rfl ?_
              refine q_getR (C := RX5) (T := TX5) (N := 26) (ci := 5) hC inX5_now_X5 (hF.ob 52 (by decide) (fun _ => rfl)) rfl 0 (by decide) (List.mem_of_getElem? (i := 1) (by decide +kernel)) rfl 53 (fun _ => rfl) dX5_now_90 93 rfl ?_
              refine q_sipush (v := 366) hC dX5_now_93 (by decide) 96 rfl ?_
              obtain ⟨hin, hw⟩ := hw
              refine q_iald hC (hF.ar 53 (by decide) (fun _ => rfl)) hin dX5_now_96 97 rfl ?_
              refine q_aload_n hC dX5_now_97 0 rfl 98 rfl ?_
              refine r_callI hC (go_V (q := (RX5, TX5, 26)) (As := []) (rest := [.int (M 53 (366 : Int32).toNatClampNeg)]) hC (ctX5_endOfAll (zl z) g M _ hF hw) 0 gX5_now_X5_endOfAll rfl ⟨rfl, rfl⟩ (by decide +kernel) ⟨Nat.le_of_ble_eq_true rfl, Nat.le_of_ble_eq_true rfl⟩ (hF.ob 52 (by decide) (fun _ => rfl)) rfl rfl rfl (Nat.le_of_ble_eq_true rfl) dX5_now_98) 101 rfl (fun r3 M4 hw => ?_)
              refine q_isub hC dX5_now_101 102 rfl ?_
              exact r_iret hR dX5_now_102 hw
            · have hw := hw.2 c5
              refine q_tabOut hC 103 dX5_now_1 (tab_out5 c0 c1 c2 c3 c4 c5) (by decide) ?_
              refine q_iconst (v := (-1)) hC dX5_now_103 rfl 104 rfl ?_
              exact r_iret hR dX5_now_104 hw
set_option maxRecDepth 20000 in
theorem inX5_within_X5 : ∀ w ∈ u_ws RX5 TX5 26, w ∈ wsX5_within := by decide +kernel
set_option maxRecDepth 100000 in
set_option maxHeartbeats 4000000 in
theorem ctX5_within (l : Launch) (g : GG) (M : MM) (v1 : Int32) (v2 : Int32) (Q : Int32 → MM → Prop) (hF : full g) (hw : wX5_within Q M v1 v2) : MI g l yX5_within wsX5_within (rmOf 4 90) [.ref (gA g 52), .int v1, .int v2] M Q := by
  refine mk_MI (cc := cX5_within) (maxL := 5) (by decide) rfl (Nat.le_of_ble_eq_true rfl) ?_
  intro z Qf hC hR
  show XX z g Qf 5 0 [(0, .ref (gA g 52)), (1, .int v1), (2, .int v2)] [] M
  have B124 : ∀ (K83 : MM → Int32 → Int32 → Prop) (hK83 : ∀ (M : MM) (v3 : Int32) (v4 : Int32) , K83 M v3 v4 → XX z g Qf 5 83 [(0, .ref (gA g 52)), (1, .int v1), (2, .int v2), (3, .int v3), (4, .int v4)] [] M) (M : MM) (v4 : Int32) (p0 : Int32), wX5_within_124 Q K83 v1 v2 M v4 p0 → XX z g Qf 5 124 [(0, .ref (gA g 52)), (1, .int v1), (2, .int v2), (4, .int v4)] [.int p0] M := by
    intro K83 hK83 M v4 p0 hw
    refine q_istore_n (L' := [(3, .int p0), (0, .ref (gA g 52)), (1, .int v1), (2, .int v2), (4, .int v4)]) hC dX5_within_124 (by decide) rfl 125 rfl ?_
    refine q_iinc (v := v4 + 1) (L' := [(4, .int (v4 + 1)), (3, .int p0), (0, .ref (gA g 52)), (1, .int v1), (2, .int v2)]) hC dX5_within_125 4 rfl rfl (by decide) rfl 128 rfl ?_
    refine q_goto hC 83 dX5_within_128 (by decide) ?_
    exact XX.sub [2, 3, 4, 1, 0] rfl (hK83 M p0 (v4 + 1) hw)
  have B83 : ∀ (n : Nat) (M : MM) (v3 : Int32) (v4 : Int32) , wX5_within_83 Q v1 v2 n M v3 v4 → XX z g Qf 5 83 [(0, .ref (gA g 52)), (1, .int v1), (2, .int v2), (3, .int v3), (4, .int v4)] [] M := by
    intro n
    induction n with
    | zero =>
      intro M v3 v4 hw
      exact hw.elim
    | succ n ih =>
      intro M v3 v4 hw
      refine q_iload hC dX5_within_83 4 rfl 85 rfl ?_
      refine q_aload_n hC dX5_within_85 0 rfl 86 rfl ?_
      refine q_getR (C := RX5) (T := TX5) (N := 26) (ci := 5) hC inX5_within_X5 (hF.ob 52 (by decide) (fun _ => rfl)) rfl 0 (by decide) (List.mem_of_getElem? (i := 2) (by decide +kernel)) rfl 53 (fun _ => rfl) dX5_within_86 89 rfl ?_
      refine q_sipush (v := 366) hC dX5_within_89 (by decide) 92 rfl ?_
      obtain ⟨hin, hw⟩ := hw
      refine q_iald hC (hF.ar 53 (by decide) (fun _ => rfl)) hin dX5_within_92 93 rfl ?_
      refine q_icmp_gt hC 131 dX5_within_93 (by decide) 96 rfl hw (fun hw => ?_) (fun hw => ?_)
      · refine q_iload_n hC dX5_within_131 3 rfl 132 rfl ?_
        exact r_iret hR dX5_within_132 hw
      · refine q_iload_n hC dX5_within_96 2 rfl 97 rfl ?_
        refine q_if_ne hC 131 dX5_within_97 (by decide) 100 rfl hw (fun hw => ?_) (fun hw => ?_)
        · refine q_iload_n hC dX5_within_131 3 rfl 132 rfl ?_
          exact r_iret hR dX5_within_132 hw
        · refine q_aload_n hC dX5_within_100 0 rfl 101 rfl ?_
          refine q_aload_n hC dX5_within_101 0 rfl 102 rfl ?_
          refine q_getR (C := RX5) (T := TX5) (N := 26) (ci := 5) hC inX5_within_X5 (hF.ob 52 (by decide) (fun _ => rfl)) rfl 0 (by decide) (List.mem_of_getElem? (i := 2) (by decide +kernel)) rfl 53 (fun _ => rfl) dX5_within_102 105 rfl ?_
          refine q_sipush (v := 325) hC dX5_within_105 (by decide) 108 rfl ?_
          obtain ⟨hin, hw⟩ := hw
          refine q_iald hC (hF.ar 53 (by decide) (fun _ => rfl)) hin dX5_within_108 109 rfl ?_
          refine q_iload hC dX5_within_109 4 rfl 111 rfl ?_
          refine r_callI hC (go_V (q := (RX5, TX5, 26)) (As := [.int (M 53 (325 : Int32).toNatClampNeg), .int v4]) (rest := []) hC (ctX5_sooner (zl z) g M (M 53 (325 : Int32).toNatClampNeg) v4 _ hF hw) 2 gX5_within_X5_sooner rfl ⟨rfl, rfl⟩ (by decide +kernel) ⟨Nat.le_of_ble_eq_true rfl, Nat.le_of_ble_eq_true rfl⟩ (hF.ob 52 (by decide) (fun _ => rfl)) rfl rfl rfl (Nat.le_of_ble_eq_true rfl) dX5_within_111) 114 rfl (fun r8 M9 hw => ?_)
          refine q_iload_n hC dX5_within_114 1 rfl 115 rfl ?_
          refine q_icmp_gt hC 123 dX5_within_115 (by decide) 118 rfl hw (fun hw => ?_) (fun hw => ?_)
          · refine q_iload_n hC dX5_within_123 3 rfl 124 rfl ?_
            exact XX.sub [0, 1, 2, 4] rfl (B124 _ (fun M v3 v4 hw => ih M v3 v4 hw) M9 v4 v3 hw)
          · refine q_iload hC dX5_within_118 4 rfl 120 rfl ?_
            refine q_goto hC 124 dX5_within_120 (by decide) ?_
            exact XX.sub [0, 1, 2, 4] rfl (B124 _ (fun M v3 v4 hw => ih M v3 v4 hw) M9 v4 v4 hw)
  have B73 : ∀ (M : MM) (v3 : Int32), wX5_within_73 Q v1 v2 M v3 → XX z g Qf 5 73 [(0, .ref (gA g 52)), (1, .int v1), (2, .int v2), (3, .int v3)] [] M := by
    intro M v3 hw
    refine q_aload_n hC dX5_within_73 0 rfl 74 rfl ?_
    refine q_getR (C := RX5) (T := TX5) (N := 26) (ci := 5) hC inX5_within_X5 (hF.ob 52 (by decide) (fun _ => rfl)) rfl 0 (by decide) (List.mem_of_getElem? (i := 2) (by decide +kernel)) rfl 53 (fun _ => rfl) dX5_within_74 77 rfl ?_
    refine q_sipush (v := 325) hC dX5_within_77 (by decide) 80 rfl ?_
    obtain ⟨hin, hw⟩ := hw
    refine q_iald hC (hF.ar 53 (by decide) (fun _ => rfl)) hin dX5_within_80 81 rfl ?_
    refine q_nameI (fun x7 ex7 => ?_)
    have hw := hw x7 ex7
    refine q_istore (L' := [(4, .int x7), (0, .ref (gA g 52)), (1, .int v1), (2, .int v2), (3, .int v3)]) hC dX5_within_81 (by decide) rfl 83 rfl ?_
    obtain ⟨n0, hw⟩ := hw
    exact XX.sub [1, 2, 3, 4, 0] rfl (B83 n0 M v3 x7 hw)
  have B66 : ∀ (K33 : MM → Int32 → Int32 → Prop) (hK33 : ∀ (M : MM) (v3 : Int32) (v4 : Int32) , K33 M v3 v4 → XX z g Qf 5 33 [(0, .ref (gA g 52)), (1, .int v1), (2, .int v2), (3, .int v3), (4, .int v4)] [] M) (M : MM) (v4 : Int32) (p0 : Int32), wX5_within_66 Q K33 v1 v2 M v4 p0 → XX z g Qf 5 66 [(0, .ref (gA g 52)), (1, .int v1), (2, .int v2), (4, .int v4)] [.int p0] M := by
    intro K33 hK33 M v4 p0 hw
    refine q_istore_n (L' := [(3, .int p0), (0, .ref (gA g 52)), (1, .int v1), (2, .int v2), (4, .int v4)]) hC dX5_within_66 (by decide) rfl 67 rfl ?_
    refine q_iinc (v := v4 + (-1)) (L' := [(4, .int (v4 + (-1))), (3, .int p0), (0, .ref (gA g 52)), (1, .int v1), (2, .int v2)]) hC dX5_within_67 4 rfl rfl (by decide) rfl 70 rfl ?_
    refine q_goto hC 33 dX5_within_70 (by decide) ?_
    exact XX.sub [2, 3, 4, 1, 0] rfl (hK33 M p0 (v4 + (-1)) hw)
  have B33 : ∀ (n : Nat) (M : MM) (v3 : Int32) (v4 : Int32) , wX5_within_33 Q v1 v2 n M v3 v4 → XX z g Qf 5 33 [(0, .ref (gA g 52)), (1, .int v1), (2, .int v2), (3, .int v3), (4, .int v4)] [] M := by
    intro n
    induction n with
    | zero =>
      intro M v3 v4 hw
      exact hw.elim
    | succ n ih =>
      intro M v3 v4 hw
      refine q_iload hC dX5_within_33 4 rfl 35 rfl ?_
      refine q_if_lt hC 73 dX5_within_35 (by decide) 38 rfl hw (fun hw => ?_) (fun hw => ?_)
      · exact XX.sub [0, 1, 2, 3] rfl (B73 M v3 hw)
      · refine q_iload_n hC dX5_within_38 2 rfl 39 rfl ?_
        refine q_if_eq hC 73 dX5_within_39 (by decide) 42 rfl hw (fun hw => ?_) (fun hw => ?_)
        · exact XX.sub [0, 1, 2, 3] rfl (B73 M v3 hw)
        · refine q_aload_n hC dX5_within_42 0 rfl 43 rfl ?_
          refine q_aload_n hC dX5_within_43 0 rfl 44 rfl ?_
          refine q_getR (C := RX5) (T := TX5) (N := 26) (ci := 5) hC inX5_within_X5 (hF.ob 52 (by decide) (fun _ => rfl)) rfl 0 (by decide) (List.mem_of_getElem? (i := 2) (by decide +kernel)) rfl 53 (fun _ => rfl) dX5_within_44 47 rfl ?_
          refine q_sipush (v := 325) hC dX5_within_47 (by decide) 50 rfl ?_
          obtain ⟨hin, hw⟩ := hw
          refine q_iald hC (hF.ar 53 (by decide) (fun _ => rfl)) hin dX5_within_50 51 rfl ?_
          refine q_iload hC dX5_within_51 4 rfl 53 rfl ?_
          refine r_callI hC (go_V (q := (RX5, TX5, 26)) (As := [.int (M 53 (325 : Int32).toNatClampNeg), .int v4]) (rest := []) hC (ctX5_sooner (zl z) g M (M 53 (325 : Int32).toNatClampNeg) v4 _ hF hw) 2 gX5_within_X5_sooner rfl ⟨rfl, rfl⟩ (by decide +kernel) ⟨Nat.le_of_ble_eq_true rfl, Nat.le_of_ble_eq_true rfl⟩ (hF.ob 52 (by decide) (fun _ => rfl)) rfl rfl rfl (Nat.le_of_ble_eq_true rfl) dX5_within_53) 56 rfl (fun r5 M6 hw => ?_)
          refine q_iload_n hC dX5_within_56 1 rfl 57 rfl ?_
          refine q_icmp_gt hC 65 dX5_within_57 (by decide) 60 rfl hw (fun hw => ?_) (fun hw => ?_)
          · refine q_iload_n hC dX5_within_65 3 rfl 66 rfl ?_
            exact XX.sub [0, 1, 2, 4] rfl (B66 _ (fun M v3 v4 hw => ih M v3 v4 hw) M6 v4 v3 hw)
          · refine q_iload hC dX5_within_60 4 rfl 62 rfl ?_
            refine q_goto hC 66 dX5_within_62 (by decide) ?_
            exact XX.sub [0, 1, 2, 4] rfl (B66 _ (fun M v3 v4 hw => ih M v3 v4 hw) M6 v4 v4 hw)
  refine q_iload_n hC dX5_within_0 1 rfl 1 rfl ?_
  refine q_i2l hC dX5_within_1 2 rfl ?_
  refine q_lconst (v := 0) hC dX5_within_2 rfl 3 rfl ?_
  refine q_ldc2 (v := 999999) hC (List.mem_of_getElem? (i := 1) (by decide +kernel)) dX5_within_3 6 rfl ?_
  refine r_callI hC (go_T (As := [.long (v1.toInt64), .long 0, .long 999999]) (rest := []) hC (ctX5_in (zl z) g M (v1.toInt64) 0 999999 _ hw) 3 gX5_within_X5_in rfl ⟨rfl, rfl⟩ (by decide +kernel) ⟨Nat.le_of_ble_eq_true rfl, Nat.le_of_ble_eq_true rfl⟩ rfl rfl (Nat.le_of_ble_eq_true rfl) dX5_within_6) 9 rfl (fun r1 M2 hw => ?_)
  refine q_if_ne hC 14 dX5_within_9 (by decide) 12 rfl hw (fun hw => ?_) (fun hw => ?_)
  · refine q_aload_n hC dX5_within_14 0 rfl 15 rfl ?_
    refine q_getR (C := RX5) (T := TX5) (N := 26) (ci := 5) hC inX5_within_X5 (hF.ob 52 (by decide) (fun _ => rfl)) rfl 0 (by decide) (List.mem_of_getElem? (i := 2) (by decide +kernel)) rfl 53 (fun _ => rfl) dX5_within_15 18 rfl ?_
    refine q_sipush (v := 325) hC dX5_within_18 (by decide) 21 rfl ?_
    obtain ⟨hin, hw⟩ := hw
    refine q_iald hC (hF.ar 53 (by decide) (fun _ => rfl)) hin dX5_within_21 22 rfl ?_
    refine q_nameI (fun x3 ex3 => ?_)
    have hw := hw x3 ex3
    refine q_istore_n (L' := [(3, .int x3), (0, .ref (gA g 52)), (1, .int v1), (2, .int v2)]) hC dX5_within_22 (by decide) rfl 23 rfl ?_
    refine q_aload_n hC dX5_within_23 1 rfl 24 rfl ?_
    refine q_getR (C := RX5) (T := TX5) (N := 26) (ci := 5) hC inX5_within_X5 (hF.ob 52 (by decide) (fun _ => rfl)) rfl 0 (by decide) (List.mem_of_getElem? (i := 2) (by decide +kernel)) rfl 53 (fun _ => rfl) dX5_within_24 27 rfl ?_
    refine q_sipush (v := 325) hC dX5_within_27 (by decide) 30 rfl ?_
    obtain ⟨hin, hw⟩ := hw
    refine q_iald hC (hF.ar 53 (by decide) (fun _ => rfl)) hin dX5_within_30 31 rfl ?_
    refine q_nameI (fun x4 ex4 => ?_)
    have hw := hw x4 ex4
    refine q_istore (L' := [(4, .int x4), (3, .int x3), (0, .ref (gA g 52)), (1, .int v1), (2, .int v2)]) hC dX5_within_31 (by decide) rfl 33 rfl ?_
    obtain ⟨n0, hw⟩ := hw
    exact XX.sub [2, 3, 4, 1, 0] rfl (B33 n0 M2 x3 x4 hw)
  · refine q_iconst (v := (-1)) hC dX5_within_12 rfl 13 rfl ?_
    exact r_iret hR dX5_within_13 hw
set_option maxRecDepth 20000 in
theorem inX5_isBlock_X5 : ∀ w ∈ u_ws RX5 TX5 26, w ∈ wsX5_isBlock := by decide +kernel
set_option maxRecDepth 100000 in
set_option maxHeartbeats 4000000 in
theorem ctX5_isBlock (l : Launch) (g : GG) (M : MM) (v1 : Int32) (Q : Int32 → MM → Prop) (hF : full g) (hw : wX5_isBlock Q M v1) : MI g l yX5_isBlock wsX5_isBlock (rmOf 1 25) [.ref (gA g 52), .int v1] M Q := by
  refine mk_MZ (cc := cX5_isBlock) (maxL := 2) (by decide) rfl (Nat.le_of_ble_eq_true rfl) ?_
  intro z Qf hC hR
  show XX z g Qf 2 0 [(0, .ref (gA g 52)), (1, .int v1)] [] M
  refine q_iload_n hC dX5_isBlock_0 1 rfl 1 rfl ?_
  refine q_i2l hC dX5_isBlock_1 2 rfl ?_
  refine q_lconst (v := 0) hC dX5_isBlock_2 rfl 3 rfl ?_
  refine q_aload_n hC dX5_isBlock_3 0 rfl 4 rfl ?_
  refine q_getR (C := RX5) (T := TX5) (N := 26) (ci := 5) hC inX5_isBlock_X5 (hF.ob 52 (by decide) (fun _ => rfl)) rfl 0 (by decide) (List.mem_of_getElem? (i := 1) (by decide +kernel)) rfl 53 (fun _ => rfl) dX5_isBlock_4 7 rfl ?_
  refine q_iconst (v := 0) hC dX5_isBlock_7 rfl 8 rfl ?_
  obtain ⟨hin, hw⟩ := hw
  refine q_iald hC (hF.ar 53 (by decide) (fun _ => rfl)) hin dX5_isBlock_8 9 rfl ?_
  refine q_iconst (v := 1) hC dX5_isBlock_9 rfl 10 rfl ?_
  refine q_isub hC dX5_isBlock_10 11 rfl ?_
  refine q_i2l hC dX5_isBlock_11 12 rfl ?_
  refine r_callI hC (go_T (As := [.long (v1.toInt64), .long 0, .long (((M 53 (0 : Int32).toNatClampNeg) - (1 : Int32)).toInt64)]) (rest := []) hC (ctX5_in (zl z) g M (v1.toInt64) 0 (((M 53 (0 : Int32).toNatClampNeg) - (1 : Int32)).toInt64) _ hw) 3 gX5_isBlock_X5_in rfl ⟨rfl, rfl⟩ (by decide +kernel) ⟨Nat.le_of_ble_eq_true rfl, Nat.le_of_ble_eq_true rfl⟩ rfl rfl (Nat.le_of_ble_eq_true rfl) dX5_isBlock_12) 15 rfl (fun r1 M2 hw => ?_)
  exact r_iret hR dX5_isBlock_15 hw
set_option maxRecDepth 20000 in
theorem inX5_columnOf_X5 : ∀ w ∈ u_ws RX5 TX5 26, w ∈ wsX5_columnOf := by decide +kernel
set_option maxRecDepth 100000 in
set_option maxHeartbeats 4000000 in
theorem ctX5_columnOf (l : Launch) (g : GG) (M : MM) (v1 : Int32) (v2 : Int32) (Q : Int32 → MM → Prop) (hF : full g) (hw : wX5_columnOf Q M v1 v2) : MI g l yX5_columnOf wsX5_columnOf (rmOf 0 0) [.ref (gA g 52), .int v1, .int v2] M Q := by
  refine mk_MI (cc := cX5_columnOf) (maxL := 3) (by decide) rfl (Nat.le_of_ble_eq_true rfl) ?_
  intro z Qf hC hR
  show XX z g Qf 3 0 [(0, .ref (gA g 52)), (1, .int v1), (2, .int v2)] [] M
  refine q_aload_n hC dX5_columnOf_0 0 rfl 1 rfl ?_
  refine q_getR (C := RX5) (T := TX5) (N := 26) (ci := 5) hC inX5_columnOf_X5 (hF.ob 52 (by decide) (fun _ => rfl)) rfl 0 (by decide) (List.mem_of_getElem? (i := 1) (by decide +kernel)) rfl 53 (fun _ => rfl) dX5_columnOf_1 4 rfl ?_
  refine q_bipush (v := 25) hC dX5_columnOf_4 (by decide) 6 rfl ?_
  refine q_bipush (v := 13) hC dX5_columnOf_6 (by decide) 8 rfl ?_
  refine q_iload_n hC dX5_columnOf_8 1 rfl 9 rfl ?_
  refine q_imul hC dX5_columnOf_9 10 rfl ?_
  refine q_iadd hC dX5_columnOf_10 11 rfl ?_
  refine q_iload_n hC dX5_columnOf_11 2 rfl 12 rfl ?_
  refine q_iadd hC dX5_columnOf_12 13 rfl ?_
  obtain ⟨hin, hw⟩ := hw
  refine q_iald hC (hF.ar 53 (by decide) (fun _ => rfl)) hin dX5_columnOf_13 14 rfl ?_
  exact r_iret hR dX5_columnOf_14 hw
set_option maxRecDepth 20000 in
theorem inX5_block_X5 : ∀ w ∈ u_ws RX5 TX5 26, w ∈ wsX5_block := by decide +kernel
set_option maxRecDepth 100000 in
set_option maxHeartbeats 4000000 in
theorem ctX5_block (l : Launch) (g : GG) (M : MM) (v1 : Int32) (v2 : Int32) (Q : Int32 → MM → Prop) (hF : full g) (hw : wX5_block Q M v1 v2) : MI g l yX5_block wsX5_block (rmOf 2 46) [.ref (gA g 52), .int v1, .int v2] M Q := by
  refine mk_MI (cc := cX5_block) (maxL := 4) (by decide) rfl (Nat.le_of_ble_eq_true rfl) ?_
  intro z Qf hC hR
  show XX z g Qf 4 0 [(0, .ref (gA g 52)), (1, .int v1), (2, .int v2)] [] M
  refine q_aload_n hC dX5_block_0 0 rfl 1 rfl ?_
  refine q_iload_n hC dX5_block_1 1 rfl 2 rfl ?_
  refine r_callI hC (go_V (q := (RX5, TX5, 26)) (As := [.int v1]) (rest := []) hC (ctX5_isBlock (zl z) g M v1 _ hF hw) 1 gX5_block_X5_isBlock rfl ⟨rfl, rfl⟩ (by decide +kernel) ⟨Nat.le_of_ble_eq_true rfl, Nat.le_of_ble_eq_true rfl⟩ (hF.ob 52 (by decide) (fun _ => rfl)) rfl rfl rfl (Nat.le_of_ble_eq_true rfl) dX5_block_2) 5 rfl (fun r1 M2 hw => ?_)
  refine q_if_ne hC 10 dX5_block_5 (by decide) 8 rfl hw (fun hw => ?_) (fun hw => ?_)
  · refine q_aload_n hC dX5_block_10 0 rfl 11 rfl ?_
    refine q_getR (C := RX5) (T := TX5) (N := 26) (ci := 5) hC inX5_block_X5 (hF.ob 52 (by decide) (fun _ => rfl)) rfl 0 (by decide) (List.mem_of_getElem? (i := 1) (by decide +kernel)) rfl 53 (fun _ => rfl) dX5_block_11 14 rfl ?_
    refine q_bipush (v := 13) hC dX5_block_14 (by decide) 16 rfl ?_
    refine q_iload_n hC dX5_block_16 1 rfl 17 rfl ?_
    refine q_iadd hC dX5_block_17 18 rfl ?_
    obtain ⟨hin, hw⟩ := hw
    refine q_iald hC (hF.ar 53 (by decide) (fun _ => rfl)) hin dX5_block_18 19 rfl ?_
    refine q_nameI (fun x3 ex3 => ?_)
    have hw := hw x3 ex3
    refine q_istore_n (L' := [(3, .int x3), (0, .ref (gA g 52)), (1, .int v1), (2, .int v2)]) hC dX5_block_19 (by decide) rfl 20 rfl ?_
    refine q_iload_n hC dX5_block_20 3 rfl 21 rfl ?_
    by_cases c0 : v2 = 0
    · have hw := hw.1 c0
      refine q_tabIn hC 56 dX5_block_21 (by rw [c0]; decide) (by rw [c0]; decide) (by rw [c0]; rfl) (by decide) ?_
      refine q_aload_n hC dX5_block_56 1 rfl 57 rfl ?_
      refine q_getR (C := RX5) (T := TX5) (N := 26) (ci := 5) hC inX5_block_X5 (hF.ob 52 (by decide) (fun _ => rfl)) rfl 0 (by decide) (List.mem_of_getElem? (i := 1) (by decide +kernel)) rfl 53 (fun _ => rfl) dX5_block_57 60 rfl ?_
      refine q_iconst (v := 1) hC dX5_block_60 rfl 61 rfl ?_
      refine q_iload_n hC dX5_block_61 2 rfl 62 rfl ?_
      refine q_iadd hC dX5_block_62 63 rfl ?_
      obtain ⟨hin, hw⟩ := hw
      refine q_iald hC (hF.ar 53 (by decide) (fun _ => rfl)) hin dX5_block_63 64 rfl ?_
      exact r_iret hR dX5_block_64 hw
    · have hw := hw.2 c0
      by_cases c1 : v2 = 1
      · have hw := hw.1 c1
        refine q_tabIn hC 65 dX5_block_21 (by rw [c1]; decide) (by rw [c1]; decide) (by rw [c1]; rfl) (by decide) ?_
        refine q_aload_n hC dX5_block_65 1 rfl 66 rfl ?_
        refine q_iload_n hC dX5_block_66 0 rfl 67 rfl ?_
        refine r_callI hC (go_V (q := (RX5, TX5, 26)) (As := [.int x3]) (rest := []) hC (ctX5_longOf (zl z) g M2 x3 _ hF hw) 1 gX5_block_X5_longOf rfl ⟨rfl, rfl⟩ (by decide +kernel) ⟨Nat.le_of_ble_eq_true rfl, Nat.le_of_ble_eq_true rfl⟩ (hF.ob 52 (by decide) (fun _ => rfl)) rfl rfl rfl (Nat.le_of_ble_eq_true rfl) dX5_block_67) 70 rfl (fun r4 M5 hw => ?_)
        exact r_iret hR dX5_block_70 hw
      · have hw := hw.2 c1
        by_cases c2 : v2 = 2
        · have hw := hw.1 c2
          refine q_tabIn hC 71 dX5_block_21 (by rw [c2]; decide) (by rw [c2]; decide) (by rw [c2]; rfl) (by decide) ?_
          refine q_iload_n hC dX5_block_71 0 rfl 72 rfl ?_
          exact r_iret hR dX5_block_72 hw
        · have hw := hw.2 c2
          by_cases c3 : v2 = 3
          · have hw := hw.1 c3
            refine q_tabIn hC 73 dX5_block_21 (by rw [c3]; decide) (by rw [c3]; decide) (by rw [c3]; rfl) (by decide) ?_
            refine q_iload_n hC dX5_block_73 0 rfl 74 rfl ?_
            refine q_if_ne hC 81 dX5_block_74 (by decide) 77 rfl hw (fun hw => ?_) (fun hw => ?_)
            · refine q_aload_n hC dX5_block_81 1 rfl 82 rfl ?_
              refine q_iload_n hC dX5_block_82 2 rfl 83 rfl ?_
              refine q_iload_n hC dX5_block_83 0 rfl 84 rfl ?_
              refine r_callI hC (go_V (q := (RX5, TX5, 26)) (As := [.int v1, .int x3]) (rest := []) hC (ctX5_columnOf (zl z) g M2 v1 x3 _ hF hw) 2 gX5_block_X5_columnOf rfl ⟨rfl, rfl⟩ (by decide +kernel) ⟨Nat.le_of_ble_eq_true rfl, Nat.le_of_ble_eq_true rfl⟩ (hF.ob 52 (by decide) (fun _ => rfl)) rfl rfl rfl (Nat.le_of_ble_eq_true rfl) dX5_block_84) 87 rfl (fun r6 M7 hw => ?_)
              exact r_iret hR dX5_block_87 hw
            · refine q_iconst (v := 0) hC dX5_block_77 rfl 78 rfl ?_
              refine q_goto hC 87 dX5_block_78 (by decide) ?_
              exact r_iret hR dX5_block_87 hw
          · have hw := hw.2 c3
            by_cases c4 : v2 = 4
            · have hw := hw.1 c4
              refine q_tabIn hC 88 dX5_block_21 (by rw [c4]; decide) (by rw [c4]; decide) (by rw [c4]; rfl) (by decide) ?_
              refine q_aload_n hC dX5_block_88 1 rfl 89 rfl ?_
              refine q_iload_n hC dX5_block_89 2 rfl 90 rfl ?_
              refine r_callI hC (go_V (q := (RX5, TX5, 26)) (As := [.int v1]) (rest := []) hC (ctX5_endOf (zl z) g M2 v1 _ hF hw) 1 gX5_block_X5_endOf rfl ⟨rfl, rfl⟩ (by decide +kernel) ⟨Nat.le_of_ble_eq_true rfl, Nat.le_of_ble_eq_true rfl⟩ (hF.ob 52 (by decide) (fun _ => rfl)) rfl rfl rfl (Nat.le_of_ble_eq_true rfl) dX5_block_90) 93 rfl (fun r8 M9 hw => ?_)
              exact r_iret hR dX5_block_93 hw
            · have hw := hw.2 c4
              refine q_tabOut hC 94 dX5_block_21 (tab_out4 c0 c1 c2 c3 c4) (by decide) ?_
              refine q_iconst (v := (-1)) hC dX5_block_94 rfl 95 rfl ?_
              exact r_iret hR dX5_block_95 hw
  · refine q_iconst (v := (-1)) hC dX5_block_8 rfl 9 rfl ?_
    exact r_iret hR dX5_block_9 hw
set_option maxRecDepth 20000 in
theorem inX5_blockAt_X5 : ∀ w ∈ u_ws RX5 TX5 26, w ∈ wsX5_blockAt := by decide +kernel
set_option maxRecDepth 100000 in
set_option maxHeartbeats 4000000 in
theorem ctX5_blockAt (l : Launch) (g : GG) (M : MM) (v1 : Int32) (Q : Int32 → MM → Prop) (hF : full g) (hw : wX5_blockAt Q M v1) : MI g l yX5_blockAt wsX5_blockAt (rmOf 2 46) [.ref (gA g 52), .int v1] M Q := by
  refine mk_MI (cc := cX5_blockAt) (maxL := 4) (by decide) rfl (Nat.le_of_ble_eq_true rfl) ?_
  intro z Qf hC hR
  show XX z g Qf 4 0 [(0, .ref (gA g 52)), (1, .int v1)] [] M
  have B55 : ∀ (K15 : MM → Int32 → Int32 → Prop) (hK15 : ∀ (M : MM) (v2 : Int32) (v3 : Int32) , K15 M v2 v3 → XX z g Qf 4 15 [(0, .ref (gA g 52)), (1, .int v1), (2, .int v2), (3, .int v3)] [] M) (M : MM) (v3 : Int32) (p0 : Int32), wX5_blockAt_55 Q K15 v1 M v3 p0 → XX z g Qf 4 55 [(0, .ref (gA g 52)), (1, .int v1), (3, .int v3)] [.int p0] M := by
    intro K15 hK15 M v3 p0 hw
    refine q_istore_n (L' := [(2, .int p0), (0, .ref (gA g 52)), (1, .int v1), (3, .int v3)]) hC dX5_blockAt_55 (by decide) rfl 56 rfl ?_
    refine q_iinc (v := v3 + 1) (L' := [(3, .int (v3 + 1)), (2, .int p0), (0, .ref (gA g 52)), (1, .int v1)]) hC dX5_blockAt_56 3 rfl rfl (by decide) rfl 59 rfl ?_
    refine q_goto hC 15 dX5_blockAt_59 (by decide) ?_
    exact XX.sub [2, 3, 1, 0] rfl (hK15 M p0 (v3 + 1) hw)
  have B15 : ∀ (n : Nat) (M : MM) (v2 : Int32) (v3 : Int32) , wX5_blockAt_15 Q v1 n M v2 v3 → XX z g Qf 4 15 [(0, .ref (gA g 52)), (1, .int v1), (2, .int v2), (3, .int v3)] [] M := by
    intro n
    induction n with
    | zero =>
      intro M v2 v3 hw
      exact hw.elim
    | succ n ih =>
      intro M v2 v3 hw
      refine q_iload_n hC dX5_blockAt_15 3 rfl 16 rfl ?_
      refine q_aload_n hC dX5_blockAt_16 0 rfl 17 rfl ?_
      refine q_getR (C := RX5) (T := TX5) (N := 26) (ci := 5) hC inX5_blockAt_X5 (hF.ob 52 (by decide) (fun _ => rfl)) rfl 0 (by decide) (List.mem_of_getElem? (i := 1) (by decide +kernel)) rfl 53 (fun _ => rfl) dX5_blockAt_17 20 rfl ?_
      refine q_iconst (v := 0) hC dX5_blockAt_20 rfl 21 rfl ?_
      obtain ⟨hin, hw⟩ := hw
      refine q_iald hC (hF.ar 53 (by decide) (fun _ => rfl)) hin dX5_blockAt_21 22 rfl ?_
      refine q_icmp_ge hC 62 dX5_blockAt_22 (by decide) 25 rfl hw (fun hw => ?_) (fun hw => ?_)
      · refine q_iload_n hC dX5_blockAt_62 2 rfl 63 rfl ?_
        exact r_iret hR dX5_blockAt_63 hw
      · refine q_iload_n hC dX5_blockAt_25 1 rfl 26 rfl ?_
        refine q_i2l hC dX5_blockAt_26 27 rfl ?_
        refine q_aload_n hC dX5_blockAt_27 0 rfl 28 rfl ?_
        refine q_getR (C := RX5) (T := TX5) (N := 26) (ci := 5) hC inX5_blockAt_X5 (hF.ob 52 (by decide) (fun _ => rfl)) rfl 0 (by decide) (List.mem_of_getElem? (i := 1) (by decide +kernel)) rfl 53 (fun _ => rfl) dX5_blockAt_28 31 rfl ?_
        refine q_iconst (v := 1) hC dX5_blockAt_31 rfl 32 rfl ?_
        refine q_iload_n hC dX5_blockAt_32 3 rfl 33 rfl ?_
        refine q_iadd hC dX5_blockAt_33 34 rfl ?_
        obtain ⟨hin, hw⟩ := hw
        refine q_iald hC (hF.ar 53 (by decide) (fun _ => rfl)) hin dX5_blockAt_34 35 rfl ?_
        refine q_i2l hC dX5_blockAt_35 36 rfl ?_
        refine q_aload_n hC dX5_blockAt_36 0 rfl 37 rfl ?_
        refine q_iload_n hC dX5_blockAt_37 3 rfl 38 rfl ?_
        refine r_callI hC (go_V (q := (RX5, TX5, 26)) (As := [.int v3]) (rest := [.long ((M 53 ((1 : Int32) + v3).toNatClampNeg).toInt64), .long (v1.toInt64)]) hC (ctX5_endOf (zl z) g M v3 _ hF hw) 1 gX5_blockAt_X5_endOf rfl ⟨rfl, rfl⟩ (by decide +kernel) ⟨Nat.le_of_ble_eq_true rfl, Nat.le_of_ble_eq_true rfl⟩ (hF.ob 52 (by decide) (fun _ => rfl)) rfl rfl rfl (Nat.le_of_ble_eq_true rfl) dX5_blockAt_38) 41 rfl (fun r3 M4 hw => ?_)
        refine q_iconst (v := 1) hC dX5_blockAt_41 rfl 42 rfl ?_
        refine q_isub hC dX5_blockAt_42 43 rfl ?_
        refine q_i2l hC dX5_blockAt_43 44 rfl ?_
        refine r_callI hC (go_T (As := [.long (v1.toInt64), .long ((M 53 ((1 : Int32) + v3).toNatClampNeg).toInt64), .long ((r3 - (1 : Int32)).toInt64)]) (rest := []) hC (ctX5_in (zl z) g M4 (v1.toInt64) ((M 53 ((1 : Int32) + v3).toNatClampNeg).toInt64) ((r3 - (1 : Int32)).toInt64) _ hw) 3 gX5_blockAt_X5_in rfl ⟨rfl, rfl⟩ (by decide +kernel) ⟨Nat.le_of_ble_eq_true rfl, Nat.le_of_ble_eq_true rfl⟩ rfl rfl (Nat.le_of_ble_eq_true rfl) dX5_blockAt_44) 47 rfl (fun r5 M6 hw => ?_)
        refine q_if_eq hC 54 dX5_blockAt_47 (by decide) 50 rfl hw (fun hw => ?_) (fun hw => ?_)
        · refine q_iload_n hC dX5_blockAt_54 2 rfl 55 rfl ?_
          exact XX.sub [0, 1, 3] rfl (B55 _ (fun M v2 v3 hw => ih M v2 v3 hw) M6 v3 v2 hw)
        · refine q_iload_n hC dX5_blockAt_50 3 rfl 51 rfl ?_
          refine q_goto hC 55 dX5_blockAt_51 (by decide) ?_
          exact XX.sub [0, 1, 3] rfl (B55 _ (fun M v2 v3 hw => ih M v2 v3 hw) M6 v3 v3 hw)
  refine q_aload_n hC dX5_blockAt_0 0 rfl 1 rfl ?_
  refine q_iload_n hC dX5_blockAt_1 1 rfl 2 rfl ?_
  refine r_callI hC (go_V (q := (RX5, TX5, 26)) (As := [.int v1]) (rest := []) hC (ctX5_isPlace (zl z) g M v1 _ hF hw) 1 gX5_blockAt_X5_isPlace rfl ⟨rfl, rfl⟩ (by decide +kernel) ⟨Nat.le_of_ble_eq_true rfl, Nat.le_of_ble_eq_true rfl⟩ (hF.ob 52 (by decide) (fun _ => rfl)) rfl rfl rfl (Nat.le_of_ble_eq_true rfl) dX5_blockAt_2) 5 rfl (fun r1 M2 hw => ?_)
  refine q_if_ne hC 10 dX5_blockAt_5 (by decide) 8 rfl hw (fun hw => ?_) (fun hw => ?_)
  · refine q_bipush (v := (-4)) hC dX5_blockAt_10 (by decide) 12 rfl ?_
    refine q_istore_n (L' := [(2, .int (-4)), (0, .ref (gA g 52)), (1, .int v1)]) hC dX5_blockAt_12 (by decide) rfl 13 rfl ?_
    refine q_iconst (v := 0) hC dX5_blockAt_13 rfl 14 rfl ?_
    refine q_istore_n (L' := [(3, .int 0), (2, .int (-4)), (0, .ref (gA g 52)), (1, .int v1)]) hC dX5_blockAt_14 (by decide) rfl 15 rfl ?_
    obtain ⟨n0, hw⟩ := hw
    exact XX.sub [2, 3, 1, 0] rfl (B15 n0 M2 (-4) 0 hw)
  · refine q_iconst (v := (-1)) hC dX5_blockAt_8 rfl 9 rfl ?_
    exact r_iret hR dX5_blockAt_9 hw
set_option maxRecDepth 20000 in
theorem inX5_type_X5 : ∀ w ∈ u_ws RX5 TX5 26, w ∈ wsX5_type := by decide +kernel
set_option maxRecDepth 100000 in
set_option maxHeartbeats 4000000 in
theorem ctX5_type (l : Launch) (g : GG) (M : MM) (v1 : Int32) (Q : Int32 → MM → Prop) (hF : full g) (hw : wX5_type Q M v1) : MI g l yX5_type wsX5_type (rmOf 1 25) [.ref (gA g 52), .int v1] M Q := by
  refine mk_MI (cc := cX5_type) (maxL := 2) (by decide) rfl (Nat.le_of_ble_eq_true rfl) ?_
  intro z Qf hC hR
  show XX z g Qf 2 0 [(0, .ref (gA g 52)), (1, .int v1)] [] M
  refine q_iload_n hC dX5_type_0 1 rfl 1 rfl ?_
  refine q_i2l hC dX5_type_1 2 rfl ?_
  refine q_lconst (v := 0) hC dX5_type_2 rfl 3 rfl ?_
  refine q_ldc2 (v := 255) hC (List.mem_of_getElem? (i := 1) (by decide +kernel)) dX5_type_3 6 rfl ?_
  refine r_callI hC (go_T (As := [.long (v1.toInt64), .long 0, .long 255]) (rest := []) hC (ctX5_in (zl z) g M (v1.toInt64) 0 255 _ hw) 3 gX5_type_X5_in rfl ⟨rfl, rfl⟩ (by decide +kernel) ⟨Nat.le_of_ble_eq_true rfl, Nat.le_of_ble_eq_true rfl⟩ rfl rfl (Nat.le_of_ble_eq_true rfl) dX5_type_6) 9 rfl (fun r1 M2 hw => ?_)
  refine q_if_ne hC 14 dX5_type_9 (by decide) 12 rfl hw (fun hw => ?_) (fun hw => ?_)
  · refine q_aload_n hC dX5_type_14 0 rfl 15 rfl ?_
    refine q_getR (C := RX5) (T := TX5) (N := 26) (ci := 5) hC inX5_type_X5 (hF.ob 52 (by decide) (fun _ => rfl)) rfl 0 (by decide) (List.mem_of_getElem? (i := 2) (by decide +kernel)) rfl 53 (fun _ => rfl) dX5_type_15 18 rfl ?_
    refine q_sipush (v := 327) hC dX5_type_18 (by decide) 21 rfl ?_
    obtain ⟨hin, hw⟩ := hw
    refine q_iald hC (hF.ar 53 (by decide) (fun _ => rfl)) hin dX5_type_21 22 rfl ?_
    refine q_bipush (v := 12) hC dX5_type_22 (by decide) 24 rfl ?_
    refine q_icmp_ne hC 30 dX5_type_24 (by decide) 27 rfl hw (fun hw => ?_) (fun hw => ?_)
    · refine q_aload_n hC dX5_type_30 0 rfl 31 rfl ?_
      refine q_getR (C := RX5) (T := TX5) (N := 26) (ci := 5) hC inX5_type_X5 (hF.ob 52 (by decide) (fun _ => rfl)) rfl 0 (by decide) (List.mem_of_getElem? (i := 2) (by decide +kernel)) rfl 53 (fun _ => rfl) dX5_type_31 34 rfl ?_
      refine q_sipush (v := 328) hC dX5_type_34 (by decide) 37 rfl ?_
      refine q_aload_n hC dX5_type_37 0 rfl 38 rfl ?_
      refine q_getR (C := RX5) (T := TX5) (N := 26) (ci := 5) hC inX5_type_X5 (hF.ob 52 (by decide) (fun _ => rfl)) rfl 0 (by decide) (List.mem_of_getElem? (i := 2) (by decide +kernel)) rfl 53 (fun _ => rfl) dX5_type_38 41 rfl ?_
      refine q_sipush (v := 327) hC dX5_type_41 (by decide) 44 rfl ?_
      obtain ⟨hin, hw⟩ := hw
      refine q_iald hC (hF.ar 53 (by decide) (fun _ => rfl)) hin dX5_type_44 45 rfl ?_
      refine q_iadd hC dX5_type_45 46 rfl ?_
      refine q_iload_n hC dX5_type_46 1 rfl 47 rfl ?_
      obtain ⟨hin, hw⟩ := hw
      refine q_iast hC (hF.ar 53 (by decide) (fun _ => rfl)) hin dX5_type_47 48 rfl (fun M3 eM3 => ?_)
      have hw := hw M3 eM3
      refine q_aload_n hC dX5_type_48 0 rfl 49 rfl ?_
      refine q_getR (C := RX5) (T := TX5) (N := 26) (ci := 5) hC inX5_type_X5 (hF.ob 52 (by decide) (fun _ => rfl)) rfl 0 (by decide) (List.mem_of_getElem? (i := 2) (by decide +kernel)) rfl 53 (fun _ => rfl) dX5_type_49 52 rfl ?_
      refine q_sipush (v := 327) hC dX5_type_52 (by decide) 55 rfl ?_
      refine q_dup2 hC dX5_type_55 rfl rfl 56 rfl ?_
      obtain ⟨hin, hw⟩ := hw
      refine q_iald hC (hF.ar 53 (by decide) (fun _ => rfl)) hin dX5_type_56 57 rfl ?_
      refine q_iconst (v := 1) hC dX5_type_57 rfl 58 rfl ?_
      refine q_iadd hC dX5_type_58 59 rfl ?_
      obtain ⟨hin, hw⟩ := hw
      refine q_iast hC (hF.ar 53 (by decide) (fun _ => rfl)) hin dX5_type_59 60 rfl (fun M4 eM4 => ?_)
      have hw := hw M4 eM4
      refine q_aload_n hC dX5_type_60 0 rfl 61 rfl ?_
      refine q_getR (C := RX5) (T := TX5) (N := 26) (ci := 5) hC inX5_type_X5 (hF.ob 52 (by decide) (fun _ => rfl)) rfl 0 (by decide) (List.mem_of_getElem? (i := 2) (by decide +kernel)) rfl 53 (fun _ => rfl) dX5_type_61 64 rfl ?_
      refine q_sipush (v := 327) hC dX5_type_64 (by decide) 67 rfl ?_
      obtain ⟨hin, hw⟩ := hw
      refine q_iald hC (hF.ar 53 (by decide) (fun _ => rfl)) hin dX5_type_67 68 rfl ?_
      exact r_iret hR dX5_type_68 hw
    · refine q_bipush (v := (-3)) hC dX5_type_27 (by decide) 29 rfl ?_
      exact r_iret hR dX5_type_29 hw
  · refine q_iconst (v := (-1)) hC dX5_type_12 rfl 13 rfl ?_
    exact r_iret hR dX5_type_13 hw
set_option maxRecDepth 20000 in
theorem inX5_writes_X5 : ∀ w ∈ u_ws RX5 TX5 26, w ∈ wsX5_writes := by decide +kernel
set_option maxRecDepth 100000 in
set_option maxHeartbeats 4000000 in
theorem ctX5_writes (l : Launch) (g : GG) (M : MM) (v1 : Int32) (v2 : Int32) (Q : Int32 → MM → Prop) (hF : full g) (hw : wX5_writes Q M v1 v2) : MI g l yX5_writes wsX5_writes (rmOf 5 112) [.ref (gA g 52), .int v1, .int v2] M Q := by
  refine mk_MI (cc := cX5_writes) (maxL := 4) (by decide) rfl (Nat.le_of_ble_eq_true rfl) ?_
  intro z Qf hC hR
  show XX z g Qf 4 0 [(0, .ref (gA g 52)), (1, .int v1), (2, .int v2)] [] M
  refine q_iload_n hC dX5_writes_0 1 rfl 1 rfl ?_
  refine q_bipush (v := 12) hC dX5_writes_1 (by decide) 3 rfl ?_
  refine q_icmp_eq hC 28 dX5_writes_3 (by decide) 6 rfl hw (fun hw => ?_) (fun hw => ?_)
  · refine q_bipush (v := (-3)) hC dX5_writes_28 (by decide) 30 rfl ?_
    exact r_iret hR dX5_writes_30 hw
  · refine q_aload_n hC dX5_writes_6 0 rfl 7 rfl ?_
    refine q_iload_n hC dX5_writes_7 1 rfl 8 rfl ?_
    refine r_callI hC (go_V (q := (RX5, TX5, 26)) (As := [.int v1]) (rest := []) hC (ctX5_beginOf (zl z) g M v1 _ hF hw) 1 gX5_writes_X5_beginOf rfl ⟨rfl, rfl⟩ (by decide +kernel) ⟨Nat.le_of_ble_eq_true rfl, Nat.le_of_ble_eq_true rfl⟩ (hF.ob 52 (by decide) (fun _ => rfl)) rfl rfl rfl (Nat.le_of_ble_eq_true rfl) dX5_writes_8) 11 rfl (fun r1 M2 hw => ?_)
    refine q_aload_n hC dX5_writes_11 0 rfl 12 rfl ?_
    refine q_iload_n hC dX5_writes_12 2 rfl 13 rfl ?_
    refine r_callI hC (go_V (q := (RX5, TX5, 26)) (As := [.int v2]) (rest := [.int r1]) hC (ctX5_longOf (zl z) g M2 v2 _ hF hw) 1 gX5_writes_X5_longOf rfl ⟨rfl, rfl⟩ (by decide +kernel) ⟨Nat.le_of_ble_eq_true rfl, Nat.le_of_ble_eq_true rfl⟩ (hF.ob 52 (by decide) (fun _ => rfl)) rfl rfl rfl (Nat.le_of_ble_eq_true rfl) dX5_writes_13) 16 rfl (fun r3 M4 hw => ?_)
    refine q_iadd hC dX5_writes_16 17 rfl ?_
    refine q_aload_n hC dX5_writes_17 0 rfl 18 rfl ?_
    refine q_getR (C := RX5) (T := TX5) (N := 26) (ci := 5) hC inX5_writes_X5 (hF.ob 52 (by decide) (fun _ => rfl)) rfl 0 (by decide) (List.mem_of_getElem? (i := 1) (by decide +kernel)) rfl 53 (fun _ => rfl) dX5_writes_18 21 rfl ?_
    refine q_sipush (v := 366) hC dX5_writes_21 (by decide) 24 rfl ?_
    obtain ⟨hin, hw⟩ := hw
    refine q_iald hC (hF.ar 53 (by decide) (fun _ => rfl)) hin dX5_writes_24 25 rfl ?_
    refine q_icmp_le hC 31 dX5_writes_25 (by decide) 28 rfl hw (fun hw => ?_) (fun hw => ?_)
    · refine q_aload_n hC dX5_writes_31 0 rfl 32 rfl ?_
      refine q_getR (C := RX5) (T := TX5) (N := 26) (ci := 5) hC inX5_writes_X5 (hF.ob 52 (by decide) (fun _ => rfl)) rfl 0 (by decide) (List.mem_of_getElem? (i := 1) (by decide +kernel)) rfl 53 (fun _ => rfl) dX5_writes_32 35 rfl ?_
      refine q_iconst (v := 0) hC dX5_writes_35 rfl 36 rfl ?_
      refine q_iload_n hC dX5_writes_36 1 rfl 37 rfl ?_
      obtain ⟨hin, hw⟩ := hw
      refine q_iast hC (hF.ar 53 (by decide) (fun _ => rfl)) hin dX5_writes_37 38 rfl (fun M5 eM5 => ?_)
      have hw := hw M5 eM5
      refine q_aload_n hC dX5_writes_38 0 rfl 39 rfl ?_
      refine q_aload_n hC dX5_writes_39 0 rfl 40 rfl ?_
      refine q_iload_n hC dX5_writes_40 1 rfl 41 rfl ?_
      refine r_callI hC (go_V (q := (RX5, TX5, 26)) (As := [.int v1]) (rest := [.ref (gA g 52)]) hC (ctX5_beginOf (zl z) g M5 v1 _ hF hw) 1 gX5_writes_X5_beginOf rfl ⟨rfl, rfl⟩ (by decide +kernel) ⟨Nat.le_of_ble_eq_true rfl, Nat.le_of_ble_eq_true rfl⟩ (hF.ob 52 (by decide) (fun _ => rfl)) rfl rfl rfl (Nat.le_of_ble_eq_true rfl) dX5_writes_41) 44 rfl (fun r6 M7 hw => ?_)
      refine r_callI hC (go_V (q := (RX5, TX5, 26)) (As := [.int r6]) (rest := []) hC (ctX5_goesTo (zl z) g M7 r6 _ hF hw) 1 gX5_writes_X5_goesTo rfl ⟨rfl, rfl⟩ (by decide +kernel) ⟨Nat.le_of_ble_eq_true rfl, Nat.le_of_ble_eq_true rfl⟩ (hF.ob 52 (by decide) (fun _ => rfl)) rfl rfl rfl (Nat.le_of_ble_eq_true rfl) dX5_writes_44) 47 rfl (fun r8 M9 hw => ?_)
      refine q_aload_n hC dX5_writes_47 0 rfl 48 rfl ?_
      refine q_getR (C := RX5) (T := TX5) (N := 26) (ci := 5) hC inX5_writes_X5 (hF.ob 52 (by decide) (fun _ => rfl)) rfl 2 (by decide) (List.mem_of_getElem? (i := 2) (by decide +kernel)) rfl 55 (fun _ => rfl) dX5_writes_48 51 rfl ?_
      refine q_iconst (v := 3) hC dX5_writes_51 rfl 52 rfl ?_
      obtain ⟨hin, hw⟩ := hw
      refine q_iald hC (hF.ar 55 (by decide) (fun _ => rfl)) hin dX5_writes_52 53 rfl ?_
      refine q_aload_n hC dX5_writes_53 0 rfl 54 rfl ?_
      refine q_iload_n hC dX5_writes_54 2 rfl 55 rfl ?_
      refine r_callI hC (go_V (q := (RX5, TX5, 26)) (As := [.int v2]) (rest := [.int (M9 55 (3 : Int32).toNatClampNeg), .int r8]) hC (ctX5_longOf (zl z) g M9 v2 _ hF hw) 1 gX5_writes_X5_longOf rfl ⟨rfl, rfl⟩ (by decide +kernel) ⟨Nat.le_of_ble_eq_true rfl, Nat.le_of_ble_eq_true rfl⟩ (hF.ob 52 (by decide) (fun _ => rfl)) rfl rfl rfl (Nat.le_of_ble_eq_true rfl) dX5_writes_55) 58 rfl (fun r10 M11 hw => ?_)
      refine q_imul hC dX5_writes_58 59 rfl ?_
      refine q_iadd hC dX5_writes_59 60 rfl ?_
      refine q_nameI (fun x12 ex12 => ?_)
      have hw := hw x12 ex12
      refine q_istore_n (L' := [(3, .int x12), (0, .ref (gA g 52)), (1, .int v1), (2, .int v2)]) hC dX5_writes_60 (by decide) rfl 61 rfl ?_
      refine q_aload_n hC dX5_writes_61 1 rfl 62 rfl ?_
      refine q_iload_n hC dX5_writes_62 3 rfl 63 rfl ?_
      refine r_callV hC (go_V (q := (RX5, TX5, 26)) (As := [.int v2]) (rest := []) hC (ctX5_lays (zl z) g M11 v2 _ hF hw) 1 gX5_writes_X5_lays rfl ⟨rfl, rfl⟩ (by decide +kernel) ⟨Nat.le_of_ble_eq_true rfl, Nat.le_of_ble_eq_true rfl⟩ (hF.ob 52 (by decide) (fun _ => rfl)) rfl rfl rfl (Nat.le_of_ble_eq_true rfl) dX5_writes_63) 66 rfl (fun M13 hw => ?_)
      refine q_aload_n hC dX5_writes_66 1 rfl 67 rfl ?_
      refine q_getR (C := RX5) (T := TX5) (N := 26) (ci := 5) hC inX5_writes_X5 (hF.ob 52 (by decide) (fun _ => rfl)) rfl 0 (by decide) (List.mem_of_getElem? (i := 1) (by decide +kernel)) rfl 53 (fun _ => rfl) dX5_writes_67 70 rfl ?_
      refine q_sipush (v := 326) hC dX5_writes_70 (by decide) 73 rfl ?_
      refine q_dup2 hC dX5_writes_73 rfl rfl 74 rfl ?_
      obtain ⟨hin, hw⟩ := hw
      refine q_iald hC (hF.ar 53 (by decide) (fun _ => rfl)) hin dX5_writes_74 75 rfl ?_
      refine q_aload_n hC dX5_writes_75 1 rfl 76 rfl ?_
      refine q_getR (C := RX5) (T := TX5) (N := 26) (ci := 5) hC inX5_writes_X5 (hF.ob 52 (by decide) (fun _ => rfl)) rfl 2 (by decide) (List.mem_of_getElem? (i := 2) (by decide +kernel)) rfl 55 (fun _ => rfl) dX5_writes_76 79 rfl ?_
      refine q_iconst (v := 3) hC dX5_writes_79 rfl 80 rfl ?_
      obtain ⟨hin, hw⟩ := hw
      refine q_iald hC (hF.ar 55 (by decide) (fun _ => rfl)) hin dX5_writes_80 81 rfl ?_
      refine q_aload_n hC dX5_writes_81 1 rfl 82 rfl ?_
      refine q_iload_n hC dX5_writes_82 3 rfl 83 rfl ?_
      refine r_callI hC (go_V (q := (RX5, TX5, 26)) (As := [.int v2]) (rest := [.int (M13 55 (3 : Int32).toNatClampNeg), .int (M13 53 (326 : Int32).toNatClampNeg), .int 326, .ref (gA g 53)]) hC (ctX5_longOf (zl z) g M13 v2 _ hF hw) 1 gX5_writes_X5_longOf rfl ⟨rfl, rfl⟩ (by decide +kernel) ⟨Nat.le_of_ble_eq_true rfl, Nat.le_of_ble_eq_true rfl⟩ (hF.ob 52 (by decide) (fun _ => rfl)) rfl rfl rfl (Nat.le_of_ble_eq_true rfl) dX5_writes_83) 86 rfl (fun r14 M15 hw => ?_)
      refine q_imul hC dX5_writes_86 87 rfl ?_
      refine q_iadd hC dX5_writes_87 88 rfl ?_
      obtain ⟨hin, hw⟩ := hw
      refine q_iast hC (hF.ar 53 (by decide) (fun _ => rfl)) hin dX5_writes_88 89 rfl (fun M16 eM16 => ?_)
      have hw := hw M16 eM16
      refine q_aload_n hC dX5_writes_89 1 rfl 90 rfl ?_
      refine q_getR (C := RX5) (T := TX5) (N := 26) (ci := 5) hC inX5_writes_X5 (hF.ob 52 (by decide) (fun _ => rfl)) rfl 0 (by decide) (List.mem_of_getElem? (i := 1) (by decide +kernel)) rfl 53 (fun _ => rfl) dX5_writes_90 93 rfl ?_
      refine q_sipush (v := 325) hC dX5_writes_93 (by decide) 96 rfl ?_
      refine q_aload_n hC dX5_writes_96 1 rfl 97 rfl ?_
      refine q_iload_n hC dX5_writes_97 2 rfl 98 rfl ?_
      refine r_callI hC (go_V (q := (RX5, TX5, 26)) (As := [.int v1]) (rest := [.int 325, .ref (gA g 53)]) hC (ctX5_endOf (zl z) g M16 v1 _ hF hw) 1 gX5_writes_X5_endOf rfl ⟨rfl, rfl⟩ (by decide +kernel) ⟨Nat.le_of_ble_eq_true rfl, Nat.le_of_ble_eq_true rfl⟩ (hF.ob 52 (by decide) (fun _ => rfl)) rfl rfl rfl (Nat.le_of_ble_eq_true rfl) dX5_writes_98) 101 rfl (fun r17 M18 hw => ?_)
      obtain ⟨hin, hw⟩ := hw
      refine q_iast hC (hF.ar 53 (by decide) (fun _ => rfl)) hin dX5_writes_101 102 rfl (fun M19 eM19 => ?_)
      have hw := hw M19 eM19
      refine q_iload_n hC dX5_writes_102 0 rfl 103 rfl ?_
      exact r_iret hR dX5_writes_103 hw
    · refine q_bipush (v := (-3)) hC dX5_writes_28 (by decide) 30 rfl ?_
      exact r_iret hR dX5_writes_30 hw
set_option maxRecDepth 20000 in
theorem inX5_write_X5 : ∀ w ∈ u_ws RX5 TX5 26, w ∈ wsX5_write := by decide +kernel
set_option maxRecDepth 100000 in
set_option maxHeartbeats 4000000 in
theorem ctX5_write (l : Launch) (g : GG) (M : MM) (v1 : Int32) (Q : Int32 → MM → Prop) (hF : full g) (hw : wX5_write Q M v1) : MI g l yX5_write wsX5_write (rmOf 6 135) [.ref (gA g 52), .int v1] M Q := by
  refine mk_MI (cc := cX5_write) (maxL := 3) (by decide) rfl (Nat.le_of_ble_eq_true rfl) ?_
  intro z Qf hC hR
  show XX z g Qf 3 0 [(0, .ref (gA g 52)), (1, .int v1)] [] M
  have B105 : ∀ (M : MM) (v2 : Int32) (p0 : Int32) (p1 : Int32), wX5_write_105 Q v1 M v2 p0 p1 → XX z g Qf 3 105 [(2, .int v2)] [.int p0, .int p1, .ref (gA g 53)] M := by
    intro M v2 p0 p1 hw
    obtain ⟨hin, hw⟩ := hw
    refine q_iast hC (hF.ar 53 (by decide) (fun _ => rfl)) hin dX5_write_105 106 rfl (fun M6 eM6 => ?_)
    have hw := hw M6 eM6
    refine q_iload_n hC dX5_write_106 0 rfl 107 rfl ?_
    exact r_iret hR dX5_write_107 hw
  have B34 : ∀ (n : Nat) (M : MM) (v2 : Int32) , wX5_write_34 Q v1 n M v2 → XX z g Qf 3 34 [(0, .ref (gA g 52)), (1, .int v1), (2, .int v2)] [] M := by
    intro n
    induction n with
    | zero =>
      intro M v2 hw
      exact hw.elim
    | succ n ih =>
      intro M v2 hw
      refine q_iload_n hC dX5_write_34 2 rfl 35 rfl ?_
      refine q_aload_n hC dX5_write_35 0 rfl 36 rfl ?_
      refine q_getR (C := RX5) (T := TX5) (N := 26) (ci := 5) hC inX5_write_X5 (hF.ob 52 (by decide) (fun _ => rfl)) rfl 0 (by decide) (List.mem_of_getElem? (i := 1) (by decide +kernel)) rfl 53 (fun _ => rfl) dX5_write_36 39 rfl ?_
      refine q_sipush (v := 327) hC dX5_write_39 (by decide) 42 rfl ?_
      obtain ⟨hin, hw⟩ := hw
      refine q_iald hC (hF.ar 53 (by decide) (fun _ => rfl)) hin dX5_write_42 43 rfl ?_
      refine q_icmp_ge hC 68 dX5_write_43 (by decide) 46 rfl hw (fun hw => ?_) (fun hw => ?_)
      · refine q_aload_n hC dX5_write_68 0 rfl 69 rfl ?_
        refine q_iload_n hC dX5_write_69 1 rfl 70 rfl ?_
        refine q_aload_n hC dX5_write_70 0 rfl 71 rfl ?_
        refine q_getR (C := RX5) (T := TX5) (N := 26) (ci := 5) hC inX5_write_X5 (hF.ob 52 (by decide) (fun _ => rfl)) rfl 0 (by decide) (List.mem_of_getElem? (i := 1) (by decide +kernel)) rfl 53 (fun _ => rfl) dX5_write_71 74 rfl ?_
        refine q_sipush (v := 327) hC dX5_write_74 (by decide) 77 rfl ?_
        obtain ⟨hin, hw⟩ := hw
        refine q_iald hC (hF.ar 53 (by decide) (fun _ => rfl)) hin dX5_write_77 78 rfl ?_
        refine r_callI hC (go_V (q := (RX5, TX5, 26)) (As := [.int v1, .int (M 53 (327 : Int32).toNatClampNeg)]) (rest := []) hC (ctX5_writes (zl z) g M v1 (M 53 (327 : Int32).toNatClampNeg) _ hF hw) 2 gX5_write_X5_writes rfl ⟨rfl, rfl⟩ (by decide +kernel) ⟨Nat.le_of_ble_eq_true rfl, Nat.le_of_ble_eq_true rfl⟩ (hF.ob 52 (by decide) (fun _ => rfl)) rfl rfl rfl (Nat.le_of_ble_eq_true rfl) dX5_write_78) 81 rfl (fun r3 M4 hw => ?_)
        refine q_istore_n (L' := [(2, .int r3), (0, .ref (gA g 52)), (1, .int v1)]) hC dX5_write_81 (by decide) rfl 82 rfl ?_
        refine q_aload_n hC dX5_write_82 1 rfl 83 rfl ?_
        refine q_getR (C := RX5) (T := TX5) (N := 26) (ci := 5) hC inX5_write_X5 (hF.ob 52 (by decide) (fun _ => rfl)) rfl 0 (by decide) (List.mem_of_getElem? (i := 1) (by decide +kernel)) rfl 53 (fun _ => rfl) dX5_write_83 86 rfl ?_
        refine q_sipush (v := 327) hC dX5_write_86 (by decide) 89 rfl ?_
        refine q_iload_n hC dX5_write_89 0 rfl 90 rfl ?_
        refine q_if_ge hC 104 dX5_write_90 (by decide) 93 rfl hw (fun hw => ?_) (fun hw => ?_)
        · refine q_iconst (v := 0) hC dX5_write_104 rfl 105 rfl ?_
          exact XX.sub [0] rfl (B105 M4 r3 0 327 hw)
        · refine q_aload_n hC dX5_write_93 1 rfl 94 rfl ?_
          refine q_getR (C := RX5) (T := TX5) (N := 26) (ci := 5) hC inX5_write_X5 (hF.ob 52 (by decide) (fun _ => rfl)) rfl 0 (by decide) (List.mem_of_getElem? (i := 1) (by decide +kernel)) rfl 53 (fun _ => rfl) dX5_write_94 97 rfl ?_
          refine q_sipush (v := 327) hC dX5_write_97 (by decide) 100 rfl ?_
          obtain ⟨hin, hw⟩ := hw
          refine q_iald hC (hF.ar 53 (by decide) (fun _ => rfl)) hin dX5_write_100 101 rfl ?_
          refine q_goto hC 105 dX5_write_101 (by decide) ?_
          exact XX.sub [0] rfl (B105 M4 r3 (M4 53 (327 : Int32).toNatClampNeg) 327 hw)
      · refine q_aload_n hC dX5_write_46 0 rfl 47 rfl ?_
        refine q_getR (C := RX5) (T := TX5) (N := 26) (ci := 5) hC inX5_write_X5 (hF.ob 52 (by decide) (fun _ => rfl)) rfl 16 (by decide) (List.mem_of_getElem? (i := 2) (by decide +kernel)) rfl 60 (fun _ => rfl) dX5_write_47 50 rfl ?_
        refine q_iload_n hC dX5_write_50 2 rfl 51 rfl ?_
        refine q_aload_n hC dX5_write_51 0 rfl 52 rfl ?_
        refine q_getR (C := RX5) (T := TX5) (N := 26) (ci := 5) hC inX5_write_X5 (hF.ob 52 (by decide) (fun _ => rfl)) rfl 0 (by decide) (List.mem_of_getElem? (i := 1) (by decide +kernel)) rfl 53 (fun _ => rfl) dX5_write_52 55 rfl ?_
        refine q_sipush (v := 328) hC dX5_write_55 (by decide) 58 rfl ?_
        refine q_iload_n hC dX5_write_58 2 rfl 59 rfl ?_
        refine q_iadd hC dX5_write_59 60 rfl ?_
        obtain ⟨hin, hw⟩ := hw
        refine q_iald hC (hF.ar 53 (by decide) (fun _ => rfl)) hin dX5_write_60 61 rfl ?_
        obtain ⟨hin, hw⟩ := hw
        refine q_iast hC (hF.ar 60 (by decide) (fun _ => rfl)) hin dX5_write_61 62 rfl (fun M5 eM5 => ?_)
        have hw := hw M5 eM5
        refine q_iinc (v := v2 + 1) (L' := [(2, .int (v2 + 1)), (0, .ref (gA g 52)), (1, .int v1)]) hC dX5_write_62 2 rfl rfl (by decide) rfl 65 rfl ?_
        refine q_goto hC 34 dX5_write_65 (by decide) ?_
        exact XX.sub [1, 2, 0] rfl (ih M5 (v2 + 1) hw)
  refine q_iload_n hC dX5_write_0 1 rfl 1 rfl ?_
  refine q_i2l hC dX5_write_1 2 rfl ?_
  refine q_lconst (v := 0) hC dX5_write_2 rfl 3 rfl ?_
  refine q_aload_n hC dX5_write_3 0 rfl 4 rfl ?_
  refine q_getR (C := RX5) (T := TX5) (N := 26) (ci := 5) hC inX5_write_X5 (hF.ob 52 (by decide) (fun _ => rfl)) rfl 0 (by decide) (List.mem_of_getElem? (i := 1) (by decide +kernel)) rfl 53 (fun _ => rfl) dX5_write_4 7 rfl ?_
  refine q_iconst (v := 0) hC dX5_write_7 rfl 8 rfl ?_
  obtain ⟨hin, hw⟩ := hw
  refine q_iald hC (hF.ar 53 (by decide) (fun _ => rfl)) hin dX5_write_8 9 rfl ?_
  refine q_i2l hC dX5_write_9 10 rfl ?_
  refine r_callI hC (go_T (As := [.long (v1.toInt64), .long 0, .long ((M 53 (0 : Int32).toNatClampNeg).toInt64)]) (rest := []) hC (ctX5_in (zl z) g M (v1.toInt64) 0 ((M 53 (0 : Int32).toNatClampNeg).toInt64) _ hw) 3 gX5_write_X5_in rfl ⟨rfl, rfl⟩ (by decide +kernel) ⟨Nat.le_of_ble_eq_true rfl, Nat.le_of_ble_eq_true rfl⟩ rfl rfl (Nat.le_of_ble_eq_true rfl) dX5_write_10) 13 rfl (fun r1 M2 hw => ?_)
  refine q_if_ne hC 18 dX5_write_13 (by decide) 16 rfl hw (fun hw => ?_) (fun hw => ?_)
  · refine q_aload_n hC dX5_write_18 0 rfl 19 rfl ?_
    refine q_getR (C := RX5) (T := TX5) (N := 26) (ci := 5) hC inX5_write_X5 (hF.ob 52 (by decide) (fun _ => rfl)) rfl 0 (by decide) (List.mem_of_getElem? (i := 1) (by decide +kernel)) rfl 53 (fun _ => rfl) dX5_write_19 22 rfl ?_
    refine q_sipush (v := 327) hC dX5_write_22 (by decide) 25 rfl ?_
    obtain ⟨hin, hw⟩ := hw
    refine q_iald hC (hF.ar 53 (by decide) (fun _ => rfl)) hin dX5_write_25 26 rfl ?_
    refine q_if_ne hC 32 dX5_write_26 (by decide) 29 rfl hw (fun hw => ?_) (fun hw => ?_)
    · refine q_iconst (v := 0) hC dX5_write_32 rfl 33 rfl ?_
      refine q_istore_n (L' := [(2, .int 0), (0, .ref (gA g 52)), (1, .int v1)]) hC dX5_write_33 (by decide) rfl 34 rfl ?_
      obtain ⟨n0, hw⟩ := hw
      exact XX.sub [1, 2, 0] rfl (B34 n0 M2 0 hw)
    · refine q_bipush (v := (-2)) hC dX5_write_29 (by decide) 31 rfl ?_
      exact r_iret hR dX5_write_31 hw
  · refine q_iconst (v := (-1)) hC dX5_write_16 rfl 17 rfl ?_
    exact r_iret hR dX5_write_17 hw
set_option maxRecDepth 20000 in
theorem inX5_mark_X5 : ∀ w ∈ u_ws RX5 TX5 26, w ∈ wsX5_mark := by decide +kernel
set_option maxRecDepth 100000 in
set_option maxHeartbeats 4000000 in
theorem ctX5_mark (l : Launch) (g : GG) (M : MM) (v1 : Int32) (Q : Int32 → MM → Prop) (hF : full g) (hw : wX5_mark Q M v1) : MI g l yX5_mark wsX5_mark (rmOf 6 135) [.ref (gA g 52), .int v1] M Q := by
  refine mk_MI (cc := cX5_mark) (maxL := 2) (by decide) rfl (Nat.le_of_ble_eq_true rfl) ?_
  intro z Qf hC hR
  show XX z g Qf 2 0 [(0, .ref (gA g 52)), (1, .int v1)] [] M
  refine q_iload_n hC dX5_mark_0 1 rfl 1 rfl ?_
  refine q_i2l hC dX5_mark_1 2 rfl ?_
  refine q_lconst (v := 0) hC dX5_mark_2 rfl 3 rfl ?_
  refine q_aload_n hC dX5_mark_3 0 rfl 4 rfl ?_
  refine q_getR (C := RX5) (T := TX5) (N := 26) (ci := 5) hC inX5_mark_X5 (hF.ob 52 (by decide) (fun _ => rfl)) rfl 0 (by decide) (List.mem_of_getElem? (i := 1) (by decide +kernel)) rfl 53 (fun _ => rfl) dX5_mark_4 7 rfl ?_
  refine q_iconst (v := 0) hC dX5_mark_7 rfl 8 rfl ?_
  obtain ⟨hin, hw⟩ := hw
  refine q_iald hC (hF.ar 53 (by decide) (fun _ => rfl)) hin dX5_mark_8 9 rfl ?_
  refine q_i2l hC dX5_mark_9 10 rfl ?_
  refine r_callI hC (go_T (As := [.long (v1.toInt64), .long 0, .long ((M 53 (0 : Int32).toNatClampNeg).toInt64)]) (rest := []) hC (ctX5_in (zl z) g M (v1.toInt64) 0 ((M 53 (0 : Int32).toNatClampNeg).toInt64) _ hw) 3 gX5_mark_X5_in rfl ⟨rfl, rfl⟩ (by decide +kernel) ⟨Nat.le_of_ble_eq_true rfl, Nat.le_of_ble_eq_true rfl⟩ rfl rfl (Nat.le_of_ble_eq_true rfl) dX5_mark_10) 13 rfl (fun r1 M2 hw => ?_)
  refine q_if_eq hC 25 dX5_mark_13 (by decide) 16 rfl hw (fun hw => ?_) (fun hw => ?_)
  · refine q_iconst (v := (-1)) hC dX5_mark_25 rfl 26 rfl ?_
    exact r_iret hR dX5_mark_26 hw
  · refine q_aload_n hC dX5_mark_16 0 rfl 17 rfl ?_
    refine q_iload_n hC dX5_mark_17 1 rfl 18 rfl ?_
    refine q_iconst (v := 0) hC dX5_mark_18 rfl 19 rfl ?_
    refine r_callI hC (go_V (q := (RX5, TX5, 26)) (As := [.int v1, .int 0]) (rest := []) hC (ctX5_writes (zl z) g M2 v1 0 _ hF hw) 2 gX5_mark_X5_writes rfl ⟨rfl, rfl⟩ (by decide +kernel) ⟨Nat.le_of_ble_eq_true rfl, Nat.le_of_ble_eq_true rfl⟩ (hF.ob 52 (by decide) (fun _ => rfl)) rfl rfl rfl (Nat.le_of_ble_eq_true rfl) dX5_mark_19) 22 rfl (fun r3 M4 hw => ?_)
    refine q_goto hC 26 dX5_mark_22 (by decide) ?_
    exact r_iret hR dX5_mark_26 hw
set_option maxRecDepth 100000 in
set_option maxHeartbeats 4000000 in
theorem ctX5_isTrack (l : Launch) (g : GG) (M : MM) (v0 : Int32) (Q : Int32 → MM → Prop)  (hw : wX5_isTrack Q M v0) : MI g l yX5_isTrack wsX5_isTrack (rmOf 1 25) [.int v0] M Q := by
  refine mk_MZ (cc := cX5_isTrack) (maxL := 1) (by decide) rfl (Nat.le_of_ble_eq_true rfl) ?_
  intro z Qf hC hR
  show XX z g Qf 1 0 [(0, .int v0)] [] M
  refine q_iload_n hC dX5_isTrack_0 0 rfl 1 rfl ?_
  refine q_i2l hC dX5_isTrack_1 2 rfl ?_
  refine q_lconst (v := 0) hC dX5_isTrack_2 rfl 3 rfl ?_
  refine q_ldc2 (v := 8) hC (List.mem_of_getElem? (i := 1) (by decide +kernel)) dX5_isTrack_3 6 rfl ?_
  refine r_callI hC (go_T (As := [.long (v0.toInt64), .long 0, .long 8]) (rest := []) hC (ctX5_in (zl z) g M (v0.toInt64) 0 8 _ hw) 3 gX5_isTrack_X5_in rfl ⟨rfl, rfl⟩ (by decide +kernel) ⟨Nat.le_of_ble_eq_true rfl, Nat.le_of_ble_eq_true rfl⟩ rfl rfl (Nat.le_of_ble_eq_true rfl) dX5_isTrack_6) 9 rfl (fun r1 M2 hw => ?_)
  exact r_iret hR dX5_isTrack_9 hw
