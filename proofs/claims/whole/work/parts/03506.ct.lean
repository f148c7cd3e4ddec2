set_option maxRecDepth 20000 in
theorem inX5_across_X5 : ∀ w ∈ u_ws RX5 TX5 26, w ∈ wsX5_across := by decide +kernel
set_option maxRecDepth 100000 in
set_option maxHeartbeats 4000000 in
theorem ctX5_across (l : Launch) (g : GG) (M : MM) (v1 : Int32) (Q : Int32 → MM → Prop) (hF : full g) (hw : wX5_across Q M v1) : MI g l yX5_across wsX5_across (rmOf 1 22) [.ref (gA g 52), .int v1] M Q := by
  refine mk_MI (cc := cX5_across) (maxL := 4) (by decide) rfl (Nat.le_of_ble_eq_true rfl) ?_
  intro z Qf hC hR
  show XX z g Qf 4 0 [(0, .ref (gA g 52)), (1, .int v1)] [] M
  have B4 : ∀ (n : Nat) (M : MM) (v2 : Int32) (v3 : Int32) , wX5_across_4 Q v1 n M v2 v3 → XX z g Qf 4 4 [(0, .ref (gA g 52)), (1, .int v1), (2, .int v2), (3, .int v3)] [] M := by
    intro n
    induction n with
    | zero =>
      intro M v2 v3 hw
      exact hw.elim
    | succ n ih =>
      intro M v2 v3 hw
      refine q_iload_n hC dX5_across_4 3 rfl 5 rfl ?_
      refine q_aload_n hC dX5_across_5 0 rfl 6 rfl ?_
      refine q_getR (C := RX5) (T := TX5) (N := 26) (ci := 5) hC inX5_across_X5 (obF52 hF) rfl 0 (by decide) (List.mem_of_getElem? (i := 1) (by decide +kernel)) rfl 53 (fun _ => rfl) dX5_across_6 9 rfl ?_
      refine q_bipush (v := 13) hC dX5_across_9 (by decide) 11 rfl ?_
      refine q_iload_n hC dX5_across_11 1 rfl 12 rfl ?_
      refine q_iadd hC dX5_across_12 13 rfl ?_
      obtain ⟨hin, hw⟩ := hw
      refine q_iald hC (arF53 hF) hin dX5_across_13 14 rfl ?_
      refine q_icmp_gt hC 32 dX5_across_14 (by decide) 17 rfl hw (fun hw => ?_) (fun hw => ?_)
      · refine q_iload_n hC dX5_across_32 2 rfl 33 rfl ?_
        exact r_iret hR dX5_across_33 hw
      · refine q_iload_n hC dX5_across_17 2 rfl 18 rfl ?_
        refine q_aload_n hC dX5_across_18 0 rfl 19 rfl ?_
        refine q_iload_n hC dX5_across_19 1 rfl 20 rfl ?_
        refine q_iload_n hC dX5_across_20 3 rfl 21 rfl ?_
        refine r_callI hC (go_V (q := (RX5, TX5, 26)) (As := [.int v1, .int v3]) (rest := [.int v2]) hC (ctX5_columnOf (zl z) g M v1 v3 _ hF hw) 2 gX5_across_X5_columnOf rfl ⟨rfl, rfl⟩ hdV_X5_columnOf ⟨Nat.le_of_ble_eq_true rfl, Nat.le_of_ble_eq_true rfl⟩ (obF52 hF) rfl rfl rfl (Nat.le_of_ble_eq_true rfl) dX5_across_21) 24 rfl (fun r1 M2 hw => ?_)
        refine q_ixor hC dX5_across_24 25 rfl ?_
        refine q_istore_n (L' := [(2, .int (v2 ^^^ r1)), (0, .ref (gA g 52)), (1, .int v1), (3, .int v3)]) hC dX5_across_25 (by decide) rfl 26 rfl ?_
        refine q_iinc (v := v3 + 1) (L' := [(3, .int (v3 + 1)), (2, .int (v2 ^^^ r1)), (0, .ref (gA g 52)), (1, .int v1)]) hC dX5_across_26 3 rfl rfl (by decide) rfl 29 rfl ?_
        refine q_goto hC 4 dX5_across_29 (by decide) ?_
        exact XX.sub [2, 3, 1, 0] rfl (ih M2 (v2 ^^^ r1) (v3 + 1) hw)
  refine q_iconst (v := 0) hC dX5_across_0 rfl 1 rfl ?_
  refine q_istore_n (L' := [(2, .int 0), (0, .ref (gA g 52)), (1, .int v1)]) hC dX5_across_1 (by decide) rfl 2 rfl ?_
  refine q_iconst (v := 0) hC dX5_across_2 rfl 3 rfl ?_
  refine q_istore_n (L' := [(3, .int 0), (2, .int 0), (0, .ref (gA g 52)), (1, .int v1)]) hC dX5_across_3 (by decide) rfl 4 rfl ?_
  obtain ⟨n0, hw⟩ := hw
  exact XX.sub [2, 3, 1, 0] rfl (B4 n0 M 0 0 hw)
set_option maxRecDepth 100000 in
set_option maxHeartbeats 4000000 in
theorem ctX5_onesOf (l : Launch) (g : GG) (M : MM) (v0 : Int32) (Q : Int32 → MM → Prop)  (hw : wX5_onesOf Q M v0) : MI g l yX5_onesOf wsX5_onesOf (rmOf 0 0) [.int v0] M Q := by
  refine mk_MI (cc := cX5_onesOf) (maxL := 3) (by decide) rfl (Nat.le_of_ble_eq_true rfl) ?_
  intro z Qf hC hR
  show XX z g Qf 3 0 [(0, .int v0)] [] M
  have B4 : ∀ (n : Nat) (M : MM) (v1 : Int32) (v2 : Int32) , wX5_onesOf_4 Q v0 n M v1 v2 → XX z g Qf 3 4 [(0, .int v0), (1, .int v1), (2, .int v2)] [] M := by
    intro n
    induction n with
    | zero =>
      intro M v1 v2 hw
      exact hw.elim
    | succ n ih =>
      intro M v1 v2 hw
      refine q_iload_n hC dX5_onesOf_4 2 rfl 5 rfl ?_
      refine q_bipush (v := 9) hC dX5_onesOf_5 (by decide) 7 rfl ?_
      refine q_icmp_ge hC 24 dX5_onesOf_7 (by decide) 10 rfl hw (fun hw => ?_) (fun hw => ?_)
      · refine q_iload_n hC dX5_onesOf_24 1 rfl 25 rfl ?_
        exact r_iret hR dX5_onesOf_25 hw
      · refine q_iload_n hC dX5_onesOf_10 1 rfl 11 rfl ?_
        refine q_iload_n hC dX5_onesOf_11 0 rfl 12 rfl ?_
        refine q_iload_n hC dX5_onesOf_12 2 rfl 13 rfl ?_
        refine q_ishr hC dX5_onesOf_13 14 rfl ?_
        refine q_iconst (v := 1) hC dX5_onesOf_14 rfl 15 rfl ?_
        refine q_iand hC dX5_onesOf_15 16 rfl ?_
        refine q_iadd hC dX5_onesOf_16 17 rfl ?_
        refine q_nameI (fun x1 ex1 => ?_)
        have hw := hw x1 ex1
        refine q_istore_n (L' := [(1, .int x1), (0, .int v0), (2, .int v2)]) hC dX5_onesOf_17 (by decide) rfl 18 rfl ?_
        refine q_iinc (v := v2 + 1) (L' := [(2, .int (v2 + 1)), (1, .int x1), (0, .int v0)]) hC dX5_onesOf_18 2 rfl rfl (by decide) rfl 21 rfl ?_
        refine q_goto hC 4 dX5_onesOf_21 (by decide) ?_
        exact XX.sub [2, 1, 0] rfl (ih M x1 (v2 + 1) hw)
  refine q_iconst (v := 0) hC dX5_onesOf_0 rfl 1 rfl ?_
  refine q_istore_n (L' := [(1, .int 0), (0, .int v0)]) hC dX5_onesOf_1 (by decide) rfl 2 rfl ?_
  refine q_iconst (v := 0) hC dX5_onesOf_2 rfl 3 rfl ?_
  refine q_istore_n (L' := [(2, .int 0), (1, .int 0), (0, .int v0)]) hC dX5_onesOf_3 (by decide) rfl 4 rfl ?_
  obtain ⟨n0, hw⟩ := hw
  exact XX.sub [2, 1, 0] rfl (B4 n0 M 0 0 hw)
theorem hdV_X5_across : yX5_across.cls = RX5 ∧ yX5_across.cls ≠ "java/lang/invoke/MethodHandle" ∧ yX5_across.cls ≠ "java/lang/invoke/VarHandle" ∧ (parseMethodDescriptor yX5_across.desc).map (fun d => d.parameters.length) = some 1 := by decide +kernel
theorem hdT_X5_onesOf : yX5_onesOf.cls ≠ "java/lang/invoke/MethodHandle" ∧ yX5_onesOf.cls ≠ "java/lang/invoke/VarHandle" ∧ (parseMethodDescriptor yX5_onesOf.desc).map (fun d => d.parameters.length) = some 1 := by decide +kernel
set_option maxRecDepth 20000 in
theorem inX5_reading_X5 : ∀ w ∈ u_ws RX5 TX5 26, w ∈ wsX5_reading := by decide +kernel
set_option maxRecDepth 100000 in
set_option maxHeartbeats 4000000 in
theorem ctX5_reading (l : Launch) (g : GG) (M : MM) (v1 : Int32) (v2 : Int32) (Q : Int32 → MM → Prop) (hF : full g) (hw : wX5_reading Q M v1 v2) : MI g l yX5_reading wsX5_reading (rmOf 2 45) [.ref (gA g 52), .int v1, .int v2] M Q := by
  refine mk_MI (cc := cX5_reading) (maxL := 8) (by decide) rfl (Nat.le_of_ble_eq_true rfl) ?_
  intro z Qf hC hR
  show XX z g Qf 8 0 [(0, .ref (gA g 52)), (1, .int v1), (2, .int v2)] [] M
  have B161 : ∀ (M : MM) (p0 : Int32) (p1 : Int32), wX5_reading_161 Q v1 v2 M p0 p1 → XX z g Qf 8 161 [] [.int p0, .int p1] M := by
    intro M p0 p1 hw
    refine q_icmp_ne hC 168 dX5_reading_161 (by decide) 164 rfl hw (fun hw => ?_) (fun hw => ?_)
    · refine q_iconst (v := 3) hC dX5_reading_168 rfl 169 rfl ?_
      exact r_iret hR dX5_reading_169 hw
    · refine q_iconst (v := 2) hC dX5_reading_164 rfl 165 rfl ?_
      refine q_goto hC 169 dX5_reading_165 (by decide) ?_
      exact r_iret hR dX5_reading_169 hw
  have B136 : ∀ (K102 : MM → Int32 → Int32 → Int32 → Int32 → Prop) (hK102 : ∀ (M : MM) (v3 : Int32) (v4 : Int32) (v5 : Int32) (v7 : Int32) , K102 M v3 v4 v5 v7 → XX z g Qf 8 102 [(0, .ref (gA g 52)), (2, .int v2), (3, .int v3), (4, .int v4), (5, .int v5), (7, .int v7)] [] M) (M : MM) (v3 : Int32) (v4 : Int32) (v5 : Int32) (v7 : Int32) (p0 : Int32) (p1 : Int32) (p2 : Int32), wX5_reading_136 Q K102 v1 v2 M v3 v4 v5 v7 p0 p1 p2 → XX z g Qf 8 136 [(0, .ref (gA g 52)), (2, .int v2), (3, .int v3), (4, .int v4), (5, .int v5), (7, .int v7)] [.int p0, .int p1, .int p2, .ref (gA g 61)] M := by
    intro K102 hK102 M v3 v4 v5 v7 p0 p1 p2 hw
    refine q_ixor hC dX5_reading_136 137 rfl ?_
    obtain ⟨hin, hw⟩ := hw
    refine q_iast hC (arF61 hF) hin dX5_reading_137 138 rfl (fun M14 eM14 => ?_)
    have hw := hw M14 eM14
    refine q_iinc (v := v7 + 1) (L' := [(7, .int (v7 + 1)), (0, .ref (gA g 52)), (2, .int v2), (3, .int v3), (4, .int v4), (5, .int v5)]) hC dX5_reading_138 5 rfl rfl (by decide) rfl 141 rfl ?_
    refine q_goto hC 102 dX5_reading_141 (by decide) ?_
    exact XX.sub [1, 2, 3, 4, 5, 0] rfl (hK102 M14 v3 v4 v5 (v7 + 1) hw)
  have B102 : ∀ (n : Nat) (M : MM) (v3 : Int32) (v4 : Int32) (v5 : Int32) (v7 : Int32) , wX5_reading_102 Q v1 v2 n M v3 v4 v5 v7 → XX z g Qf 8 102 [(0, .ref (gA g 52)), (2, .int v2), (3, .int v3), (4, .int v4), (5, .int v5), (7, .int v7)] [] M := by
    intro n
    induction n with
    | zero =>
      intro M v3 v4 v5 v7 hw
      exact hw.elim
    | succ n ih =>
      intro M v3 v4 v5 v7 hw
      refine q_iload hC dX5_reading_102 5 rfl 104 rfl ?_
      refine q_iload_n hC dX5_reading_104 2 rfl 105 rfl ?_
      refine q_icmp_ge hC 144 dX5_reading_105 (by decide) 108 rfl hw (fun hw => ?_) (fun hw => ?_)
      · refine q_iload hC dX5_reading_144 3 rfl 146 rfl ?_
        refine q_iload hC dX5_reading_146 4 rfl 148 rfl ?_
        refine q_iconst (v := 2) hC dX5_reading_148 rfl 149 rfl ?_
        refine q_irem hC dX5_reading_149 (by decide) 150 rfl ?_
        refine q_iconst (v := 1) hC dX5_reading_150 rfl 151 rfl ?_
        refine q_icmp_ne hC 160 dX5_reading_151 (by decide) 154 rfl hw (fun hw => ?_) (fun hw => ?_)
        · refine q_iconst (v := 0) hC dX5_reading_160 rfl 161 rfl ?_
          exact XX.sub [] rfl (B161 M 0 v4 hw)
        · refine q_iconst (v := 1) hC dX5_reading_154 rfl 155 rfl ?_
          refine q_iload_n hC dX5_reading_155 1 rfl 156 rfl ?_
          refine q_ishl hC dX5_reading_156 157 rfl ?_
          refine q_goto hC 161 dX5_reading_157 (by decide) ?_
          exact XX.sub [] rfl (B161 M ((1 : Int32) <<< (v2 &&& 31)) v4 hw)
      · refine q_aload_n hC dX5_reading_108 0 rfl 109 rfl ?_
        refine q_getR (C := RX5) (T := TX5) (N := 26) (ci := 5) hC inX5_reading_X5 (obF52 hF) rfl 17 (by decide) (List.mem_of_getElem? (i := 2) (by decide +kernel)) rfl 61 (fun _ => rfl) dX5_reading_109 112 rfl ?_
        refine q_iload hC dX5_reading_112 5 rfl 114 rfl ?_
        refine q_dup2 hC dX5_reading_114 rfl rfl 115 rfl ?_
        obtain ⟨hin, hw⟩ := hw
        refine q_iald hC (arF61 hF) hin dX5_reading_115 116 rfl ?_
        refine q_aload_n hC dX5_reading_116 0 rfl 117 rfl ?_
        refine q_getR (C := RX5) (T := TX5) (N := 26) (ci := 5) hC inX5_reading_X5 (obF52 hF) rfl 17 (by decide) (List.mem_of_getElem? (i := 2) (by decide +kernel)) rfl 61 (fun _ => rfl) dX5_reading_117 120 rfl ?_
        refine q_iload hC dX5_reading_120 5 rfl 122 rfl ?_
        obtain ⟨hin, hw⟩ := hw
        refine q_iald hC (arF61 hF) hin dX5_reading_122 123 rfl ?_
        refine r_callI hC (go_T (As := [.int (M 61 v7.toNatClampNeg)]) (rest := [.int (M 61 v7.toNatClampNeg), .int v7, .ref (gA g 61)]) hC (ctX5_odd (zl z) g M (M 61 v7.toNatClampNeg) _ hw) 1 gX5_reading_X5_odd rfl ⟨rfl, rfl⟩ hdT_X5_odd ⟨Nat.le_of_ble_eq_true rfl, Nat.le_of_ble_eq_true rfl⟩ rfl rfl (Nat.le_of_ble_eq_true rfl) dX5_reading_123) 126 rfl (fun r12 M13 hw => ?_)
        refine q_if_ne hC 135 dX5_reading_126 (by decide) 129 rfl hw (fun hw => ?_) (fun hw => ?_)
        · refine q_iconst (v := 0) hC dX5_reading_135 rfl 136 rfl ?_
          exact XX.sub [0, 1, 2, 3, 4, 5] rfl (B136 _ (fun M v3 v4 v5 v7 hw => ih M v3 v4 v5 v7 hw) M13 v3 v4 v5 v7 0 (M 61 v7.toNatClampNeg) v7 hw)
        · refine q_iconst (v := 1) hC dX5_reading_129 rfl 130 rfl ?_
          refine q_iload_n hC dX5_reading_130 1 rfl 131 rfl ?_
          refine q_ishl hC dX5_reading_131 132 rfl ?_
          refine q_goto hC 136 dX5_reading_132 (by decide) ?_
          exact XX.sub [0, 1, 2, 3, 4, 5] rfl (B136 _ (fun M v3 v4 v5 v7 hw => ih M v3 v4 v5 v7 hw) M13 v3 v4 v5 v7 ((1 : Int32) <<< (v2 &&& 31)) (M 61 v7.toNatClampNeg) v7 hw)
  have B93 : ∀ (M : MM) (v3 : Int32) (v4 : Int32) (v5 : Int32) (v6 : Int32), wX5_reading_93 Q v1 v2 M v3 v4 v5 v6 → XX z g Qf 8 93 [(0, .ref (gA g 52)), (2, .int v2), (3, .int v3), (4, .int v4), (5, .int v5), (6, .int v6)] [] M := by
    intro M v3 v4 v5 v6 hw
    refine q_iload_n hC dX5_reading_93 1 rfl 94 rfl ?_
    refine q_bipush (v := (-4)) hC dX5_reading_94 (by decide) 96 rfl ?_
    refine q_icmp_eq hC 170 dX5_reading_96 (by decide) 99 rfl hw (fun hw => ?_) (fun hw => ?_)
    · refine q_iload hC dX5_reading_170 3 rfl 172 rfl ?_
      refine r_callI hC (go_T (As := [.int v4]) (rest := []) hC (ctX5_onesOf (zl z) g M v4 _ hw) 1 gX5_reading_X5_onesOf rfl ⟨rfl, rfl⟩ hdT_X5_onesOf ⟨Nat.le_of_ble_eq_true rfl, Nat.le_of_ble_eq_true rfl⟩ rfl rfl (Nat.le_of_ble_eq_true rfl) dX5_reading_172) 175 rfl (fun r9 M10 hw => ?_)
      refine q_iconst (v := 1) hC dX5_reading_175 rfl 176 rfl ?_
      refine q_icmp_ne hC 185 dX5_reading_176 (by decide) 179 rfl hw (fun hw => ?_) (fun hw => ?_)
      · refine q_iconst (v := 3) hC dX5_reading_185 rfl 186 rfl ?_
        exact r_iret hR dX5_reading_186 hw
      · refine q_iload hC dX5_reading_179 4 rfl 181 rfl ?_
        refine q_iconst (v := 1) hC dX5_reading_181 rfl 182 rfl ?_
        refine q_icmp_le hC 187 dX5_reading_182 (by decide) 185 rfl hw (fun hw => ?_) (fun hw => ?_)
        · refine q_iload hC dX5_reading_187 4 rfl 189 rfl ?_
          refine q_iconst (v := 1) hC dX5_reading_189 rfl 190 rfl ?_
          refine q_icmp_ne hC 205 dX5_reading_190 (by decide) 193 rfl hw (fun hw => ?_) (fun hw => ?_)
          · refine q_iconst (v := 1) hC dX5_reading_205 rfl 206 rfl ?_
            exact r_iret hR dX5_reading_206 hw
          · refine q_aload_n hC dX5_reading_193 0 rfl 194 rfl ?_
            refine q_getR (C := RX5) (T := TX5) (N := 26) (ci := 5) hC inX5_reading_X5 (obF52 hF) rfl 17 (by decide) (List.mem_of_getElem? (i := 2) (by decide +kernel)) rfl 61 (fun _ => rfl) dX5_reading_194 197 rfl ?_
            refine q_iload hC dX5_reading_197 5 rfl 199 rfl ?_
            refine q_dup2 hC dX5_reading_199 rfl rfl 200 rfl ?_
            obtain ⟨hin, hw⟩ := hw
            refine q_iald hC (arF61 hF) hin dX5_reading_200 201 rfl ?_
            refine q_iload hC dX5_reading_201 3 rfl 203 rfl ?_
            refine q_ixor hC dX5_reading_203 204 rfl ?_
            obtain ⟨hin, hw⟩ := hw
            refine q_iast hC (arF61 hF) hin dX5_reading_204 205 rfl (fun M11 eM11 => ?_)
            have hw := hw M11 eM11
            refine q_iconst (v := 1) hC dX5_reading_205 rfl 206 rfl ?_
            exact r_iret hR dX5_reading_206 hw
        · refine q_iconst (v := 3) hC dX5_reading_185 rfl 186 rfl ?_
          exact r_iret hR dX5_reading_186 hw
    · refine q_iconst (v := 0) hC dX5_reading_99 rfl 100 rfl ?_
      refine q_istore (L' := [(7, .int 0), (0, .ref (gA g 52)), (2, .int v2), (3, .int v3), (4, .int v4), (5, .int v5), (6, .int v6)]) hC dX5_reading_100 (by decide) rfl 102 rfl ?_
      obtain ⟨n0, hw⟩ := hw
      exact XX.sub [1, 2, 3, 4, 5, 0] rfl (B102 n0 M v3 v4 v5 0 hw)
  have B75 : ∀ (K35 : MM → Int32 → Int32 → Int32 → Int32 → Int32 → Prop) (hK35 : ∀ (M : MM) (v3 : Int32) (v4 : Int32) (v5 : Int32) (v6 : Int32) (v7 : Int32) , K35 M v3 v4 v5 v6 v7 → XX z g Qf 8 35 [(0, .ref (gA g 52)), (1, .int v1), (2, .int v2), (3, .int v3), (4, .int v4), (5, .int v5), (6, .int v6), (7, .int v7)] [] M) (M : MM) (v3 : Int32) (v4 : Int32) (v5 : Int32) (v6 : Int32) (v7 : Int32), wX5_reading_75 Q K35 v1 v2 M v3 v4 v5 v6 v7 → XX z g Qf 8 75 [(0, .ref (gA g 52)), (1, .int v1), (2, .int v2), (3, .int v3), (4, .int v4), (5, .int v5), (6, .int v6), (7, .int v7)] [] M := by
    intro K35 hK35 M v3 v4 v5 v6 v7 hw
    refine q_iinc (v := v7 + 1) (L' := [(7, .int (v7 + 1)), (0, .ref (gA g 52)), (1, .int v1), (2, .int v2), (3, .int v3), (4, .int v4), (5, .int v5), (6, .int v6)]) hC dX5_reading_75 7 rfl rfl (by decide) rfl 78 rfl ?_
    refine q_goto hC 35 dX5_reading_78 (by decide) ?_
    exact XX.sub [1, 2, 3, 4, 5, 6, 7, 0] rfl (hK35 M v3 v4 v5 v6 (v7 + 1) hw)
  have B35 : ∀ (n : Nat) (M : MM) (v3 : Int32) (v4 : Int32) (v5 : Int32) (v6 : Int32) (v7 : Int32) , wX5_reading_35 Q v1 v2 n M v3 v4 v5 v6 v7 → XX z g Qf 8 35 [(0, .ref (gA g 52)), (1, .int v1), (2, .int v2), (3, .int v3), (4, .int v4), (5, .int v5), (6, .int v6), (7, .int v7)] [] M := by
    intro n
    induction n with
    | zero =>
      intro M v3 v4 v5 v6 v7 hw
      exact hw.elim
    | succ n ih =>
      intro M v3 v4 v5 v6 v7 hw
      refine q_iload hC dX5_reading_35 7 rfl 37 rfl ?_
      refine q_iload_n hC dX5_reading_37 3 rfl 38 rfl ?_
      refine q_icmp_ge hC 81 dX5_reading_38 (by decide) 41 rfl hw (fun hw => ?_) (fun hw => ?_)
      · refine q_iload hC dX5_reading_81 5 rfl 83 rfl ?_
        refine q_if_ne hC 93 dX5_reading_83 (by decide) 86 rfl hw (fun hw => ?_) (fun hw => ?_)
        · exact XX.sub [0, 2, 3, 4, 5, 6] rfl (B93 M v3 v4 v5 v6 hw)
        · refine q_iload hC dX5_reading_86 4 rfl 88 rfl ?_
          refine q_if_ne hC 93 dX5_reading_88 (by decide) 91 rfl hw (fun hw => ?_) (fun hw => ?_)
          · exact XX.sub [0, 2, 3, 4, 5, 6] rfl (B93 M v3 v4 v5 v6 hw)
          · refine q_iconst (v := 0) hC dX5_reading_91 rfl 92 rfl ?_
            exact r_iret hR dX5_reading_92 hw
      · refine q_aload_n hC dX5_reading_41 0 rfl 42 rfl ?_
        refine q_getR (C := RX5) (T := TX5) (N := 26) (ci := 5) hC inX5_reading_X5 (obF52 hF) rfl 17 (by decide) (List.mem_of_getElem? (i := 2) (by decide +kernel)) rfl 61 (fun _ => rfl) dX5_reading_42 45 rfl ?_
        refine q_iload hC dX5_reading_45 7 rfl 47 rfl ?_
        refine q_aload_n hC dX5_reading_47 0 rfl 48 rfl ?_
        refine q_iload_n hC dX5_reading_48 1 rfl 49 rfl ?_
        refine q_iload hC dX5_reading_49 7 rfl 51 rfl ?_
        refine r_callI hC (go_V (q := (RX5, TX5, 26)) (As := [.int v1, .int v7]) (rest := [.int v7, .ref (gA g 61)]) hC (ctX5_columnOf (zl z) g M v1 v7 _ hF hw) 2 gX5_reading_X5_columnOf rfl ⟨rfl, rfl⟩ hdV_X5_columnOf ⟨Nat.le_of_ble_eq_true rfl, Nat.le_of_ble_eq_true rfl⟩ (obF52 hF) rfl rfl rfl (Nat.le_of_ble_eq_true rfl) dX5_reading_51) 54 rfl (fun r4 M5 hw => ?_)
        obtain ⟨hin, hw⟩ := hw
        refine q_iast hC (arF61 hF) hin dX5_reading_54 55 rfl (fun M6 eM6 => ?_)
        have hw := hw M6 eM6
        refine q_aload_n hC dX5_reading_55 0 rfl 56 rfl ?_
        refine q_getR (C := RX5) (T := TX5) (N := 26) (ci := 5) hC inX5_reading_X5 (obF52 hF) rfl 17 (by decide) (List.mem_of_getElem? (i := 2) (by decide +kernel)) rfl 61 (fun _ => rfl) dX5_reading_56 59 rfl ?_
        refine q_iload hC dX5_reading_59 7 rfl 61 rfl ?_
        obtain ⟨hin, hw⟩ := hw
        refine q_iald hC (arF61 hF) hin dX5_reading_61 62 rfl ?_
        refine r_callI hC (go_T (As := [.int (M6 61 v7.toNatClampNeg)]) (rest := []) hC (ctX5_odd (zl z) g M6 (M6 61 v7.toNatClampNeg) _ hw) 1 gX5_reading_X5_odd rfl ⟨rfl, rfl⟩ hdT_X5_odd ⟨Nat.le_of_ble_eq_true rfl, Nat.le_of_ble_eq_true rfl⟩ rfl rfl (Nat.le_of_ble_eq_true rfl) dX5_reading_62) 65 rfl (fun r7 M8 hw => ?_)
        refine q_if_ne hC 75 dX5_reading_65 (by decide) 68 rfl hw (fun hw => ?_) (fun hw => ?_)
        · exact XX.sub [0, 1, 2, 3, 4, 5, 6, 7] rfl (B75 _ (fun M v3 v4 v5 v6 v7 hw => ih M v3 v4 v5 v6 v7 hw) M8 v3 v4 v5 v6 v7 hw)
        · refine q_iinc (v := v5 + 1) (L' := [(5, .int (v5 + 1)), (0, .ref (gA g 52)), (1, .int v1), (2, .int v2), (3, .int v3), (4, .int v4), (6, .int v6), (7, .int v7)]) hC dX5_reading_68 5 rfl rfl (by decide) rfl 71 rfl ?_
          refine q_iload hC dX5_reading_71 7 rfl 73 rfl ?_
          refine q_istore (L' := [(6, .int v7), (5, .int (v5 + 1)), (0, .ref (gA g 52)), (1, .int v1), (2, .int v2), (3, .int v3), (4, .int v4), (7, .int v7)]) hC dX5_reading_73 (by decide) rfl 75 rfl ?_
          exact XX.sub [2, 3, 4, 5, 6, 1, 0, 7] rfl (B75 _ (fun M v3 v4 v5 v6 v7 hw => ih M v3 v4 v5 v6 v7 hw) M8 v3 v4 (v5 + 1) v7 v7 hw)
  have B23 : ∀ (M : MM) (v3 : Int32) (p0 : Int32), wX5_reading_23 Q v1 v2 M v3 p0 → XX z g Qf 8 23 [(0, .ref (gA g 52)), (1, .int v1), (2, .int v2), (3, .int v3)] [.int p0] M := by
    intro M v3 p0 hw
    refine q_istore (L' := [(4, .int p0), (0, .ref (gA g 52)), (1, .int v1), (2, .int v2), (3, .int v3)]) hC dX5_reading_23 (by decide) rfl 25 rfl ?_
    refine q_iconst (v := 0) hC dX5_reading_25 rfl 26 rfl ?_
    refine q_istore (L' := [(5, .int 0), (4, .int p0), (0, .ref (gA g 52)), (1, .int v1), (2, .int v2), (3, .int v3)]) hC dX5_reading_26 (by decide) rfl 28 rfl ?_
    refine q_bipush (v := (-4)) hC dX5_reading_28 (by decide) 30 rfl ?_
    refine q_istore (L' := [(6, .int (-4)), (5, .int 0), (4, .int p0), (0, .ref (gA g 52)), (1, .int v1), (2, .int v2), (3, .int v3)]) hC dX5_reading_30 (by decide) rfl 32 rfl ?_
    refine q_iconst (v := 0) hC dX5_reading_32 rfl 33 rfl ?_
    refine q_istore (L' := [(7, .int 0), (6, .int (-4)), (5, .int 0), (4, .int p0), (0, .ref (gA g 52)), (1, .int v1), (2, .int v2), (3, .int v3)]) hC dX5_reading_33 (by decide) rfl 35 rfl ?_
    obtain ⟨n0, hw⟩ := hw
    exact XX.sub [4, 5, 6, 7, 3, 2, 1, 0] rfl (B35 n0 M v3 p0 0 (-4) 0 hw)
  refine q_aload_n hC dX5_reading_0 0 rfl 1 rfl ?_
  refine q_getR (C := RX5) (T := TX5) (N := 26) (ci := 5) hC inX5_reading_X5 (obF52 hF) rfl 0 (by decide) (List.mem_of_getElem? (i := 1) (by decide +kernel)) rfl 53 (fun _ => rfl) dX5_reading_1 4 rfl ?_
  refine q_bipush (v := 13) hC dX5_reading_4 (by decide) 6 rfl ?_
  refine q_iload_n hC dX5_reading_6 1 rfl 7 rfl ?_
  refine q_iadd hC dX5_reading_7 8 rfl ?_
  obtain ⟨hin, hw⟩ := hw
  refine q_iald hC (arF53 hF) hin dX5_reading_8 9 rfl ?_
  refine q_nameI (fun x1 ex1 => ?_)
  have hw := hw x1 ex1
  refine q_istore_n (L' := [(3, .int x1), (0, .ref (gA g 52)), (1, .int v1), (2, .int v2)]) hC dX5_reading_9 (by decide) rfl 10 rfl ?_
  refine q_iload_n hC dX5_reading_10 0 rfl 11 rfl ?_
  refine q_if_ne hC 18 dX5_reading_11 (by decide) 14 rfl hw (fun hw => ?_) (fun hw => ?_)
  · refine q_aload_n hC dX5_reading_18 1 rfl 19 rfl ?_
    refine q_iload_n hC dX5_reading_19 2 rfl 20 rfl ?_
    refine r_callI hC (go_V (q := (RX5, TX5, 26)) (As := [.int v1]) (rest := []) hC (ctX5_across (zl z) g M v1 _ hF hw) 1 gX5_reading_X5_across rfl ⟨rfl, rfl⟩ hdV_X5_across ⟨Nat.le_of_ble_eq_true rfl, Nat.le_of_ble_eq_true rfl⟩ (obF52 hF) rfl rfl rfl (Nat.le_of_ble_eq_true rfl) dX5_reading_20) 23 rfl (fun r2 M3 hw => ?_)
    exact XX.sub [1, 2, 3, 0] rfl (B23 M3 x1 r2 hw)
  · refine q_iconst (v := 0) hC dX5_reading_14 rfl 15 rfl ?_
    refine q_goto hC 23 dX5_reading_15 (by decide) ?_
    exact XX.sub [1, 2, 3, 0] rfl (B23 M x1 0 hw)
theorem hdV_X5_reading : yX5_reading.cls = RX5 ∧ yX5_reading.cls ≠ "java/lang/invoke/MethodHandle" ∧ yX5_reading.cls ≠ "java/lang/invoke/VarHandle" ∧ (parseMethodDescriptor yX5_reading.desc).map (fun d => d.parameters.length) = some 2 := by decide +kernel
set_option maxRecDepth 20000 in
theorem inX5_check_X5 : ∀ w ∈ u_ws RX5 TX5 26, w ∈ wsX5_check := by decide +kernel
set_option maxRecDepth 100000 in
set_option maxHeartbeats 4000000 in
theorem ctX5_check (l : Launch) (g : GG) (M : MM) (v1 : Int32) (Q : Int32 → MM → Prop) (hF : full g) (hw : wX5_check Q M v1) : MI g l yX5_check wsX5_check (rmOf 3 72) [.ref (gA g 52), .int v1] M Q := by
  refine mk_MI (cc := cX5_check) (maxL := 2) (by decide) rfl (Nat.le_of_ble_eq_true rfl) ?_
  intro z Qf hC hR
  show XX z g Qf 2 0 [(0, .ref (gA g 52)), (1, .int v1)] [] M
  refine q_aload_n hC dX5_check_0 0 rfl 1 rfl ?_
  refine q_iload_n hC dX5_check_1 1 rfl 2 rfl ?_
  refine r_callI hC (go_V (q := (RX5, TX5, 26)) (As := [.int v1]) (rest := []) hC (ctX5_isBlock (zl z) g M v1 _ hF hw) 1 gX5_check_X5_isBlock rfl ⟨rfl, rfl⟩ hdV_X5_isBlock ⟨Nat.le_of_ble_eq_true rfl, Nat.le_of_ble_eq_true rfl⟩ (obF52 hF) rfl rfl rfl (Nat.le_of_ble_eq_true rfl) dX5_check_2) 5 rfl (fun r1 M2 hw => ?_)
  refine q_if_eq hC 24 dX5_check_5 (by decide) 8 rfl hw (fun hw => ?_) (fun hw => ?_)
  · refine q_iconst (v := (-1)) hC dX5_check_24 rfl 25 rfl ?_
    exact r_iret hR dX5_check_25 hw
  · refine q_aload_n hC dX5_check_8 0 rfl 9 rfl ?_
    refine q_iload_n hC dX5_check_9 1 rfl 10 rfl ?_
    refine q_aload_n hC dX5_check_10 0 rfl 11 rfl ?_
    refine q_getR (C := RX5) (T := TX5) (N := 26) (ci := 5) hC inX5_check_X5 (obF52 hF) rfl 0 (by decide) (List.mem_of_getElem? (i := 1) (by decide +kernel)) rfl 53 (fun _ => rfl) dX5_check_11 14 rfl ?_
    refine q_sipush (v := 340) hC dX5_check_14 (by decide) 17 rfl ?_
    obtain ⟨hin, hw⟩ := hw
    refine q_iald hC (arF53 hF) hin dX5_check_17 18 rfl ?_
    refine r_callI hC (go_V (q := (RX5, TX5, 26)) (As := [.int v1, .int (M2 53 (340 : Int32).toNatClampNeg)]) (rest := []) hC (ctX5_reading (zl z) g M2 v1 (M2 53 (340 : Int32).toNatClampNeg) _ hF hw) 2 gX5_check_X5_reading rfl ⟨rfl, rfl⟩ hdV_X5_reading ⟨Nat.le_of_ble_eq_true rfl, Nat.le_of_ble_eq_true rfl⟩ (obF52 hF) rfl rfl rfl (Nat.le_of_ble_eq_true rfl) dX5_check_18) 21 rfl (fun r3 M4 hw => ?_)
    refine q_goto hC 25 dX5_check_21 (by decide) ?_
    exact r_iret hR dX5_check_25 hw
set_option maxRecDepth 20000 in
theorem inX5_got_X5 : ∀ w ∈ u_ws RX5 TX5 26, w ∈ wsX5_got := by decide +kernel
set_option maxRecDepth 100000 in
set_option maxHeartbeats 4000000 in
theorem ctX5_got (l : Launch) (g : GG) (M : MM) (v1 : Int32) (v2 : Int32) (Q : Int32 → MM → Prop) (hF : full g) (hw : wX5_got Q M v1 v2) : MI g l yX5_got wsX5_got (rmOf 3 72) [.ref (gA g 52), .int v1, .int v2] M Q := by
  refine mk_MI (cc := cX5_got) (maxL := 3) (by decide) rfl (Nat.le_of_ble_eq_true rfl) ?_
  intro z Qf hC hR
  show XX z g Qf 3 0 [(0, .ref (gA g 52)), (1, .int v1), (2, .int v2)] [] M
  refine q_aload_n hC dX5_got_0 0 rfl 1 rfl ?_
  refine q_iload_n hC dX5_got_1 1 rfl 2 rfl ?_
  refine r_callI hC (go_V (q := (RX5, TX5, 26)) (As := [.int v1]) (rest := []) hC (ctX5_isBlock (zl z) g M v1 _ hF hw) 1 gX5_got_X5_isBlock rfl ⟨rfl, rfl⟩ hdV_X5_isBlock ⟨Nat.le_of_ble_eq_true rfl, Nat.le_of_ble_eq_true rfl⟩ (obF52 hF) rfl rfl rfl (Nat.le_of_ble_eq_true rfl) dX5_got_2) 5 rfl (fun r1 M2 hw => ?_)
  refine q_if_eq hC 29 dX5_got_5 (by decide) 8 rfl hw (fun hw => ?_) (fun hw => ?_)
  · refine q_iconst (v := (-1)) hC dX5_got_29 rfl 30 rfl ?_
    exact r_iret hR dX5_got_30 hw
  · refine q_iload_n hC dX5_got_8 2 rfl 9 rfl ?_
    refine q_i2l hC dX5_got_9 10 rfl ?_
    refine q_lconst (v := 0) hC dX5_got_10 rfl 11 rfl ?_
    refine q_aload_n hC dX5_got_11 0 rfl 12 rfl ?_
    refine q_getR (C := RX5) (T := TX5) (N := 26) (ci := 5) hC inX5_got_X5 (obF52 hF) rfl 0 (by decide) (List.mem_of_getElem? (i := 1) (by decide +kernel)) rfl 53 (fun _ => rfl) dX5_got_12 15 rfl ?_
    refine q_bipush (v := 13) hC dX5_got_15 (by decide) 17 rfl ?_
    refine q_iload_n hC dX5_got_17 1 rfl 18 rfl ?_
    refine q_iadd hC dX5_got_18 19 rfl ?_
    obtain ⟨hin, hw⟩ := hw
    refine q_iald hC (arF53 hF) hin dX5_got_19 20 rfl ?_
    refine q_iconst (v := 1) hC dX5_got_20 rfl 21 rfl ?_
    refine q_isub hC dX5_got_21 22 rfl ?_
    refine q_i2l hC dX5_got_22 23 rfl ?_
    refine r_callI hC (go_T (As := [.long (v2.toInt64), .long 0, .long (((M2 53 ((13 : Int32) + v1).toNatClampNeg) - (1 : Int32)).toInt64)]) (rest := []) hC (ctX5_in (zl z) g M2 (v2.toInt64) 0 (((M2 53 ((13 : Int32) + v1).toNatClampNeg) - (1 : Int32)).toInt64) _ hw) 3 gX5_got_X5_in rfl ⟨rfl, rfl⟩ hdT_X5_in ⟨Nat.le_of_ble_eq_true rfl, Nat.le_of_ble_eq_true rfl⟩ rfl rfl (Nat.le_of_ble_eq_true rfl) dX5_got_23) 26 rfl (fun r3 M4 hw => ?_)
    refine q_if_ne hC 31 dX5_got_26 (by decide) 29 rfl hw (fun hw => ?_) (fun hw => ?_)
    · refine q_aload_n hC dX5_got_31 0 rfl 32 rfl ?_
      refine q_iload_n hC dX5_got_32 1 rfl 33 rfl ?_
      refine q_aload_n hC dX5_got_33 0 rfl 34 rfl ?_
      refine q_getR (C := RX5) (T := TX5) (N := 26) (ci := 5) hC inX5_got_X5 (obF52 hF) rfl 0 (by decide) (List.mem_of_getElem? (i := 1) (by decide +kernel)) rfl 53 (fun _ => rfl) dX5_got_34 37 rfl ?_
      refine q_sipush (v := 340) hC dX5_got_37 (by decide) 40 rfl ?_
      obtain ⟨hin, hw⟩ := hw
      refine q_iald hC (arF53 hF) hin dX5_got_40 41 rfl ?_
      refine r_callI hC (go_V (q := (RX5, TX5, 26)) (As := [.int v1, .int (M4 53 (340 : Int32).toNatClampNeg)]) (rest := []) hC (ctX5_reading (zl z) g M4 v1 (M4 53 (340 : Int32).toNatClampNeg) _ hF hw) 2 gX5_got_X5_reading rfl ⟨rfl, rfl⟩ hdV_X5_reading ⟨Nat.le_of_ble_eq_true rfl, Nat.le_of_ble_eq_true rfl⟩ (obF52 hF) rfl rfl rfl (Nat.le_of_ble_eq_true rfl) dX5_got_41) 44 rfl (fun r5 M6 hw => ?_)
      refine q_iconst (v := 3) hC dX5_got_44 rfl 45 rfl ?_
      refine q_icmp_ne hC 53 dX5_got_45 (by decide) 48 rfl hw (fun hw => ?_) (fun hw => ?_)
      · refine q_aload_n hC dX5_got_53 0 rfl 54 rfl ?_
        refine q_getR (C := RX5) (T := TX5) (N := 26) (ci := 5) hC inX5_got_X5 (obF52 hF) rfl 17 (by decide) (List.mem_of_getElem? (i := 2) (by decide +kernel)) rfl 61 (fun _ => rfl) dX5_got_54 57 rfl ?_
        refine q_iload_n hC dX5_got_57 2 rfl 58 rfl ?_
        obtain ⟨hin, hw⟩ := hw
        refine q_iald hC (arF61 hF) hin dX5_got_58 59 rfl ?_
        refine q_sipush (v := 255) hC dX5_got_59 (by decide) 62 rfl ?_
        refine q_iand hC dX5_got_62 63 rfl ?_
        exact r_iret hR dX5_got_63 hw
      · refine q_bipush (v := (-4)) hC dX5_got_48 (by decide) 50 rfl ?_
        refine q_goto hC 63 dX5_got_50 (by decide) ?_
        exact r_iret hR dX5_got_63 hw
    · refine q_iconst (v := (-1)) hC dX5_got_29 rfl 30 rfl ?_
      exact r_iret hR dX5_got_30 hw
set_option maxRecDepth 100000 in
set_option maxHeartbeats 4000000 in
theorem ctX5_column (l : Launch) (g : GG) (M : MM) (v1 : Int32) (v2 : Int32) (Q : Int32 → MM → Prop) (hF : full g) (hw : wX5_column Q M v1 v2) : MI g l yX5_column wsX5_column (rmOf 3 68) [.ref (gA g 52), .int v1, .int v2] M Q := by
  refine mk_MI (cc := cX5_column) (maxL := 3) (by decide) rfl (Nat.le_of_ble_eq_true rfl) ?_
  intro z Qf hC hR
  show XX z g Qf 3 0 [(0, .ref (gA g 52)), (1, .int v1), (2, .int v2)] [] M
  refine q_aload_n hC dX5_column_0 0 rfl 1 rfl ?_
  refine q_iload_n hC dX5_column_1 1 rfl 2 rfl ?_
  refine q_iload_n hC dX5_column_2 2 rfl 3 rfl ?_
  refine r_callI hC (go_V (q := (RX5, TX5, 26)) (As := [.int v1, .int v2]) (rest := []) hC (ctX5_isColumn (zl z) g M v1 v2 _ hF hw) 2 gX5_column_X5_isColumn rfl ⟨rfl, rfl⟩ hdV_X5_isColumn ⟨Nat.le_of_ble_eq_true rfl, Nat.le_of_ble_eq_true rfl⟩ (obF52 hF) rfl rfl rfl (Nat.le_of_ble_eq_true rfl) dX5_column_3) 6 rfl (fun r1 M2 hw => ?_)
  refine q_if_eq hC 18 dX5_column_6 (by decide) 9 rfl hw (fun hw => ?_) (fun hw => ?_)
  · refine q_iconst (v := (-1)) hC dX5_column_18 rfl 19 rfl ?_
    exact r_iret hR dX5_column_19 hw
  · refine q_aload_n hC dX5_column_9 0 rfl 10 rfl ?_
    refine q_iload_n hC dX5_column_10 1 rfl 11 rfl ?_
    refine q_iload_n hC dX5_column_11 2 rfl 12 rfl ?_
    refine r_callI hC (go_V (q := (RX5, TX5, 26)) (As := [.int v1, .int v2]) (rest := []) hC (ctX5_columnOf (zl z) g M2 v1 v2 _ hF hw) 2 gX5_column_X5_columnOf rfl ⟨rfl, rfl⟩ hdV_X5_columnOf ⟨Nat.le_of_ble_eq_true rfl, Nat.le_of_ble_eq_true rfl⟩ (obF52 hF) rfl rfl rfl (Nat.le_of_ble_eq_true rfl) dX5_column_12) 15 rfl (fun r3 M4 hw => ?_)
    refine q_goto hC 19 dX5_column_15 (by decide) ?_
    exact r_iret hR dX5_column_19 hw
set_option maxRecDepth 20000 in
theorem inX5_isFooled_X5 : ∀ w ∈ u_ws RX5 TX5 26, w ∈ wsX5_isFooled := by decide +kernel
set_option maxRecDepth 100000 in
set_option maxHeartbeats 4000000 in
theorem ctX5_isFooled (l : Launch) (g : GG) (M : MM) (v1 : Int32) (Q : Int32 → MM → Prop) (hF : full g) (hw : wX5_isFooled Q M v1) : MI g l yX5_isFooled wsX5_isFooled (rmOf 3 72) [.ref (gA g 52), .int v1] M Q := by
  refine mk_MZ (cc := cX5_isFooled) (maxL := 5) (by decide) rfl (Nat.le_of_ble_eq_true rfl) ?_
  intro z Qf hC hR
  show XX z g Qf 5 0 [(0, .ref (gA g 52)), (1, .int v1)] [] M
  have B100 : ∀ (M : MM), wX5_isFooled_100 Q v1 M → XX z g Qf 5 100 [] [] M := by
    intro M hw
    refine q_iconst (v := 0) hC dX5_isFooled_100 rfl 101 rfl ?_
    exact r_iret hR dX5_isFooled_101 ⟨nb_0, hw⟩
  have B81 : ∀ (K28 : MM → Int32 → Int32 → Int32 → Prop) (hK28 : ∀ (M : MM) (v2 : Int32) (v3 : Int32) (v4 : Int32) , K28 M v2 v3 v4 → XX z g Qf 5 28 [(0, .ref (gA g 52)), (1, .int v1), (2, .int v2), (3, .int v3), (4, .int v4)] [] M) (M : MM) (v3 : Int32) (v4 : Int32) (p0 : Int32), wX5_isFooled_81 Q K28 v1 M v3 v4 p0 → XX z g Qf 5 81 [(0, .ref (gA g 52)), (1, .int v1), (3, .int v3), (4, .int v4)] [.int p0] M := by
    intro K28 hK28 M v3 v4 p0 hw
    refine q_istore_n (L' := [(2, .int p0), (0, .ref (gA g 52)), (1, .int v1), (3, .int v3), (4, .int v4)]) hC dX5_isFooled_81 (by decide) rfl 82 rfl ?_
    refine q_iinc (v := v4 + 1) (L' := [(4, .int (v4 + 1)), (2, .int p0), (0, .ref (gA g 52)), (1, .int v1), (3, .int v3)]) hC dX5_isFooled_82 4 rfl rfl (by decide) rfl 85 rfl ?_
    refine q_goto hC 28 dX5_isFooled_85 (by decide) ?_
    exact XX.sub [2, 3, 1, 4, 0] rfl (hK28 M p0 v3 (v4 + 1) hw)
  have B76 : ∀ (K28 : MM → Int32 → Int32 → Int32 → Prop) (hK28 : ∀ (M : MM) (v2 : Int32) (v3 : Int32) (v4 : Int32) , K28 M v2 v3 v4 → XX z g Qf 5 28 [(0, .ref (gA g 52)), (1, .int v1), (2, .int v2), (3, .int v3), (4, .int v4)] [] M) (M : MM) (v3 : Int32) (v4 : Int32), wX5_isFooled_76 Q K28 v1 M v3 v4 → XX z g Qf 5 76 [(0, .ref (gA g 52)), (1, .int v1), (3, .int v3), (4, .int v4)] [] M := by
    intro K28 hK28 M v3 v4 hw
    refine q_iconst (v := 1) hC dX5_isFooled_76 rfl 77 rfl ?_
    refine q_goto hC 81 dX5_isFooled_77 (by decide) ?_
    exact XX.sub [0, 1, 2, 3] rfl (B81 _ hK28 M v3 v4 1 hw)
  have B28 : ∀ (n : Nat) (M : MM) (v2 : Int32) (v3 : Int32) (v4 : Int32) , wX5_isFooled_28 Q v1 n M v2 v3 v4 → XX z g Qf 5 28 [(0, .ref (gA g 52)), (1, .int v1), (2, .int v2), (3, .int v3), (4, .int v4)] [] M := by
    intro n
    induction n with
    | zero =>
      intro M v2 v3 v4 hw
      exact hw.elim
    | succ n ih =>
      intro M v2 v3 v4 hw
      refine q_iload hC dX5_isFooled_28 4 rfl 30 rfl ?_
      refine q_aload_n hC dX5_isFooled_30 0 rfl 31 rfl ?_
      refine q_getR (C := RX5) (T := TX5) (N := 26) (ci := 5) hC inX5_isFooled_X5 (obF52 hF) rfl 0 (by decide) (List.mem_of_getElem? (i := 1) (by decide +kernel)) rfl 53 (fun _ => rfl) dX5_isFooled_31 34 rfl ?_
      refine q_bipush (v := 13) hC dX5_isFooled_34 (by decide) 36 rfl ?_
      refine q_iload_n hC dX5_isFooled_36 1 rfl 37 rfl ?_
      refine q_iadd hC dX5_isFooled_37 38 rfl ?_
      obtain ⟨hin, hw⟩ := hw
      refine q_iald hC (arF53 hF) hin dX5_isFooled_38 39 rfl ?_
      refine q_icmp_ge hC 88 dX5_isFooled_39 (by decide) 42 rfl hw (fun hw => ?_) (fun hw => ?_)
      · refine q_iload_n hC dX5_isFooled_88 2 rfl 89 rfl ?_
        refine q_if_eq hC 100 dX5_isFooled_89 (by decide) 92 rfl hw (fun hw => ?_) (fun hw => ?_)
        · exact XX.sub [] rfl (B100 M hw)
        · refine q_iload_n hC dX5_isFooled_92 3 rfl 93 rfl ?_
          refine q_if_ne hC 100 dX5_isFooled_93 (by decide) 96 rfl hw (fun hw => ?_) (fun hw => ?_)
          · exact XX.sub [] rfl (B100 M hw)
          · refine q_iconst (v := 1) hC dX5_isFooled_96 rfl 97 rfl ?_
            refine q_goto hC 101 dX5_isFooled_97 (by decide) ?_
            exact r_iret hR dX5_isFooled_101 ⟨nb_1, hw⟩
      · refine q_iload_n hC dX5_isFooled_42 2 rfl 43 rfl ?_
        refine q_if_ne hC 76 dX5_isFooled_43 (by decide) 46 rfl hw (fun hw => ?_) (fun hw => ?_)
        · exact XX.sub [0, 1, 3, 4] rfl (B76 _ (fun M v2 v3 v4 hw => ih M v2 v3 v4 hw) M v3 v4 hw)
        · refine q_aload_n hC dX5_isFooled_46 0 rfl 47 rfl ?_
          refine q_getR (C := RX5) (T := TX5) (N := 26) (ci := 5) hC inX5_isFooled_X5 (obF52 hF) rfl 17 (by decide) (List.mem_of_getElem? (i := 2) (by decide +kernel)) rfl 61 (fun _ => rfl) dX5_isFooled_47 50 rfl ?_
          refine q_iload hC dX5_isFooled_50 4 rfl 52 rfl ?_
          obtain ⟨hin, hw⟩ := hw
          refine q_iald hC (arF61 hF) hin dX5_isFooled_52 53 rfl ?_
          refine q_sipush (v := 255) hC dX5_isFooled_53 (by decide) 56 rfl ?_
          refine q_iand hC dX5_isFooled_56 57 rfl ?_
          refine q_aload_n hC dX5_isFooled_57 0 rfl 58 rfl ?_
          refine q_getR (C := RX5) (T := TX5) (N := 26) (ci := 5) hC inX5_isFooled_X5 (obF52 hF) rfl 0 (by decide) (List.mem_of_getElem? (i := 1) (by decide +kernel)) rfl 53 (fun _ => rfl) dX5_isFooled_58 61 rfl ?_
          refine q_sipush (v := 181) hC dX5_isFooled_61 (by decide) 64 rfl ?_
          refine q_bipush (v := 12) hC dX5_isFooled_64 (by decide) 66 rfl ?_
          refine q_iload_n hC dX5_isFooled_66 1 rfl 67 rfl ?_
          refine q_imul hC dX5_isFooled_67 68 rfl ?_
          refine q_iadd hC dX5_isFooled_68 69 rfl ?_
          refine q_iload hC dX5_isFooled_69 4 rfl 71 rfl ?_
          refine q_iadd hC dX5_isFooled_71 72 rfl ?_
          obtain ⟨hin, hw⟩ := hw
          refine q_iald hC (arF53 hF) hin dX5_isFooled_72 73 rfl ?_
          refine q_icmp_eq hC 80 dX5_isFooled_73 (by decide) 76 rfl hw (fun hw => ?_) (fun hw => ?_)
          · refine q_iconst (v := 0) hC dX5_isFooled_80 rfl 81 rfl ?_
            exact XX.sub [0, 1, 3, 4] rfl (B81 _ (fun M v2 v3 v4 hw => ih M v2 v3 v4 hw) M v3 v4 0 hw)
          · exact XX.sub [0, 1, 3, 4] rfl (B76 _ (fun M v2 v3 v4 hw => ih M v2 v3 v4 hw) M v3 v4 hw)
  have B24 : ∀ (M : MM) (v2 : Int32) (p0 : Int32), wX5_isFooled_24 Q v1 M v2 p0 → XX z g Qf 5 24 [(0, .ref (gA g 52)), (1, .int v1), (2, .int v2)] [.int p0] M := by
    intro M v2 p0 hw
    refine q_istore_n (L' := [(3, .int p0), (0, .ref (gA g 52)), (1, .int v1), (2, .int v2)]) hC dX5_isFooled_24 (by decide) rfl 25 rfl ?_
    refine q_iconst (v := 0) hC dX5_isFooled_25 rfl 26 rfl ?_
    refine q_istore (L' := [(4, .int 0), (3, .int p0), (0, .ref (gA g 52)), (1, .int v1), (2, .int v2)]) hC dX5_isFooled_26 (by decide) rfl 28 rfl ?_
    obtain ⟨n0, hw⟩ := hw
    exact XX.sub [2, 3, 4, 1, 0] rfl (B28 n0 M v2 p0 0 hw)
  refine q_iconst (v := 0) hC dX5_isFooled_0 rfl 1 rfl ?_
  refine q_istore_n (L' := [(2, .int 0), (0, .ref (gA g 52)), (1, .int v1)]) hC dX5_isFooled_1 (by decide) rfl 2 rfl ?_
  refine q_aload_n hC dX5_isFooled_2 1 rfl 3 rfl ?_
  refine q_iload_n hC dX5_isFooled_3 2 rfl 4 rfl ?_
  refine q_aload_n hC dX5_isFooled_4 1 rfl 5 rfl ?_
  refine q_getR (C := RX5) (T := TX5) (N := 26) (ci := 5) hC inX5_isFooled_X5 (obF52 hF) rfl 0 (by decide) (List.mem_of_getElem? (i := 1) (by decide +kernel)) rfl 53 (fun _ => rfl) dX5_isFooled_5 8 rfl ?_
  refine q_sipush (v := 340) hC dX5_isFooled_8 (by decide) 11 rfl ?_
  obtain ⟨hin, hw⟩ := hw
  refine q_iald hC (arF53 hF) hin dX5_isFooled_11 12 rfl ?_
  refine r_callI hC (go_V (q := (RX5, TX5, 26)) (As := [.int v1, .int (M 53 (340 : Int32).toNatClampNeg)]) (rest := []) hC (ctX5_reading (zl z) g M v1 (M 53 (340 : Int32).toNatClampNeg) _ hF hw) 2 gX5_isFooled_X5_reading rfl ⟨rfl, rfl⟩ hdV_X5_reading ⟨Nat.le_of_ble_eq_true rfl, Nat.le_of_ble_eq_true rfl⟩ (obF52 hF) rfl rfl rfl (Nat.le_of_ble_eq_true rfl) dX5_isFooled_12) 15 rfl (fun r1 M2 hw => ?_)
  refine q_iconst (v := 3) hC dX5_isFooled_15 rfl 16 rfl ?_
  refine q_icmp_ne hC 23 dX5_isFooled_16 (by decide) 19 rfl hw (fun hw => ?_) (fun hw => ?_)
  · refine q_iconst (v := 0) hC dX5_isFooled_23 rfl 24 rfl ?_
    exact XX.sub [1, 2, 0] rfl (B24 M2 0 0 hw)
  · refine q_iconst (v := 1) hC dX5_isFooled_19 rfl 20 rfl ?_
    refine q_goto hC 24 dX5_isFooled_20 (by decide) ?_
    exact XX.sub [1, 2, 0] rfl (B24 M2 0 1 hw)
