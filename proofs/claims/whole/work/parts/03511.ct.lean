theorem hdV_X5_type : yX5_type.cls = RX5 ∧ yX5_type.cls ≠ "java/lang/invoke/MethodHandle" ∧ yX5_type.cls ≠ "java/lang/invoke/VarHandle" ∧ (parseMethodDescriptor yX5_type.desc).map (fun d => d.parameters.length) = some 1 := by decide +kernel
set_option maxRecDepth 20000 in
theorem inX5_read_X5 : ∀ w ∈ u_ws RX5 TX5 26, w ∈ wsX5_read := by decide +kernel
set_option maxRecDepth 100000 in
set_option maxHeartbeats 4000000 in
theorem ctX5_read (l : Launch) (g : GG) (M : MM) (v1 : Int32) (v2 : Int32) (v3 : Int32) (v4 : Int32) (Q : Int32 → MM → Prop) (hF : full g) (hw : wX5_read Q M v1 v2 v3 v4) : MI g l yX5_read wsX5_read (rmOf 2 46) [.ref (gA g 52), .int v1, .int v2, .int v3, .int v4] M Q := by
  refine mk_MI (cc := cX5_read) (maxL := 10) (by decide) rfl (Nat.le_of_ble_eq_true rfl) ?_
  intro z Qf hC hR
  show XX z g Qf 10 0 [(0, .ref (gA g 52)), (1, .int v1), (2, .int v2), (3, .int v3), (4, .int v4)] [] M
  have B181 : ∀ (n : Nat) (M : MM) (v6 : Int32) (v7 : Int32) , wX5_read_181 Q v1 v2 v3 v4 n M v6 v7 → XX z g Qf 10 181 [(0, .ref (gA g 52)), (1, .int v1), (3, .int v3), (6, .int v6), (7, .int v7)] [] M := by
    intro n
    induction n with
    | zero =>
      intro M v6 v7 hw
      exact hw.elim
    | succ n ih =>
      intro M v6 v7 hw
      refine q_iload hC dX5_read_181 4 rfl 183 rfl ?_
      refine q_iload hC dX5_read_183 3 rfl 185 rfl ?_
      refine q_icmp_ge hC 213 dX5_read_185 (by decide) 188 rfl hw (fun hw => ?_) (fun hw => ?_)
      · refine q_iload hC dX5_read_213 3 rfl 215 rfl ?_
        exact r_iret hR dX5_read_215 hw
      · refine q_aload_n hC dX5_read_188 0 rfl 189 rfl ?_
        refine q_aload_n hC dX5_read_189 0 rfl 190 rfl ?_
        refine q_getR (C := RX5) (T := TX5) (N := 26) (ci := 5) hC inX5_read_X5 (obF52 hF) rfl 24 (by decide) (List.mem_of_getElem? (i := 4) (by decide +kernel)) rfl 66 (fun _ => rfl) dX5_read_190 193 rfl ?_
        refine q_bipush (v := 40) hC dX5_read_193 (by decide) 195 rfl ?_
        refine q_iload_n hC dX5_read_195 1 rfl 196 rfl ?_
        refine q_imul hC dX5_read_196 197 rfl ?_
        refine q_iload_n hC dX5_read_197 2 rfl 198 rfl ?_
        refine q_iadd hC dX5_read_198 199 rfl ?_
        refine q_iload hC dX5_read_199 4 rfl 201 rfl ?_
        refine q_iadd hC dX5_read_201 202 rfl ?_
        obtain ⟨hin, hw⟩ := hw
        refine q_iald hC (arF66 hF) hin dX5_read_202 203 rfl ?_
        refine r_callI hC (go_V (q := (RX5, TX5, 26)) (As := [.int (M 66 ((((40 : Int32) * v1) + v3) + v7).toNatClampNeg)]) (rest := []) hC (ctX5_type (zl z) g M (M 66 ((((40 : Int32) * v1) + v3) + v7).toNatClampNeg) _ hF hw) 1 gX5_read_X5_type rfl ⟨rfl, rfl⟩ hdV_X5_type ⟨Nat.le_of_ble_eq_true rfl, Nat.le_of_ble_eq_true rfl⟩ (obF52 hF) rfl rfl rfl (Nat.le_of_ble_eq_true rfl) dX5_read_203) 206 rfl (fun r9 M10 hw => ?_)
        refine q_pop hC dX5_read_206 rfl 207 rfl ?_
        refine q_iinc (v := v7 + 1) (L' := [(7, .int (v7 + 1)), (0, .ref (gA g 52)), (1, .int v1), (3, .int v3), (6, .int v6)]) hC dX5_read_207 4 rfl rfl (by decide) rfl 210 rfl ?_
        refine q_goto hC 181 dX5_read_210 (by decide) ?_
        exact XX.sub [1, 2, 3, 4, 0] rfl (ih M10 v6 (v7 + 1) hw)
  have B172 : ∀ (M : MM) (v5 : Int32) (v6 : Int32), wX5_read_172 Q v1 v2 v3 v4 M v5 v6 → XX z g Qf 10 172 [(0, .ref (gA g 52)), (1, .int v1), (3, .int v3), (5, .int v5), (6, .int v6)] [] M := by
    intro M v5 v6 hw
    refine q_aload_n hC dX5_read_172 0 rfl 173 rfl ?_
    refine q_iload hC dX5_read_173 3 rfl 175 rfl ?_
    refine q_putI (C := RX5) (T := TX5) (N := 26) (ci := 5) hC inX5_read_X5 tyX5 tyX5_ok nmX5 (obF52 hF) rfl 25 (by decide) (List.mem_of_getElem? (i := 7) (by decide +kernel)) rfl rfl rfl (fun _ => Nat.le_of_ble_eq_true rfl) (fun _ => rfl) dX5_read_175 178 rfl (fun M8 eM8 => ?_)
    have hw := hw M8 eM8
    refine q_iconst (v := 0) hC dX5_read_178 rfl 179 rfl ?_
    refine q_istore (L' := [(7, .int 0), (0, .ref (gA g 52)), (1, .int v1), (3, .int v3), (5, .int v5), (6, .int v6)]) hC dX5_read_179 (by decide) rfl 181 rfl ?_
    obtain ⟨n0, hw⟩ := hw
    exact XX.sub [1, 2, 3, 5, 0] rfl (B181 n0 M8 v6 0 hw)
  have B166 : ∀ (K32 : MM → Int32 → Int32 → Int32 → Prop) (hK32 : ∀ (M : MM) (v5 : Int32) (v6 : Int32) (v7 : Int32) , K32 M v5 v6 v7 → XX z g Qf 10 32 [(0, .ref (gA g 52)), (1, .int v1), (2, .int v2), (3, .int v3), (4, .int v4), (5, .int v5), (6, .int v6), (7, .int v7)] [] M) (M : MM) (v5 : Int32) (v6 : Int32) (v7 : Int32), wX5_read_166 Q K32 v1 v2 v3 v4 M v5 v6 v7 → XX z g Qf 10 166 [(0, .ref (gA g 52)), (1, .int v1), (2, .int v2), (3, .int v3), (4, .int v4), (5, .int v5), (6, .int v6), (7, .int v7)] [] M := by
    intro K32 hK32 M v5 v6 v7 hw
    refine q_iinc (v := v7 + 1) (L' := [(7, .int (v7 + 1)), (0, .ref (gA g 52)), (1, .int v1), (2, .int v2), (3, .int v3), (4, .int v4), (5, .int v5), (6, .int v6)]) hC dX5_read_166 7 rfl rfl (by decide) rfl 169 rfl ?_
    refine q_goto hC 32 dX5_read_169 (by decide) ?_
    exact XX.sub [1, 2, 3, 4, 5, 6, 7, 0] rfl (hK32 M v5 v6 (v7 + 1) hw)
  have B106 : ∀ (K32 : MM → Int32 → Int32 → Int32 → Prop) (hK32 : ∀ (M : MM) (v5 : Int32) (v6 : Int32) (v7 : Int32) , K32 M v5 v6 v7 → XX z g Qf 10 32 [(0, .ref (gA g 52)), (1, .int v1), (2, .int v2), (3, .int v3), (4, .int v4), (5, .int v5), (6, .int v6), (7, .int v7)] [] M) (M : MM) (v6 : Int32) (v7 : Int32) (p0 : Int32), wX5_read_106 Q K32 v1 v2 v3 v4 M v6 v7 p0 → XX z g Qf 10 106 [(0, .ref (gA g 52)), (1, .int v1), (2, .int v2), (3, .int v3), (4, .int v4), (6, .int v6), (7, .int v7)] [.int p0] M := by
    intro K32 hK32 M v6 v7 p0 hw
    refine q_istore (L' := [(5, .int p0), (0, .ref (gA g 52)), (1, .int v1), (2, .int v2), (3, .int v3), (4, .int v4), (6, .int v6), (7, .int v7)]) hC dX5_read_106 (by decide) rfl 108 rfl ?_
    refine q_iload hC dX5_read_108 0 rfl 110 rfl ?_
    refine q_if_ne hC 166 dX5_read_110 (by decide) 113 rfl hw (fun hw => ?_) (fun hw => ?_)
    · exact XX.sub [1, 2, 3, 4, 5, 0, 6, 7] rfl (B166 _ hK32 M p0 v6 v7 hw)
    · refine q_aload_n hC dX5_read_113 1 rfl 114 rfl ?_
      refine q_getR (C := RX5) (T := TX5) (N := 26) (ci := 5) hC inX5_read_X5 (obF52 hF) rfl 24 (by decide) (List.mem_of_getElem? (i := 4) (by decide +kernel)) rfl 66 (fun _ => rfl) dX5_read_114 117 rfl ?_
      refine q_bipush (v := 40) hC dX5_read_117 (by decide) 119 rfl ?_
      refine q_iload_n hC dX5_read_119 2 rfl 120 rfl ?_
      refine q_imul hC dX5_read_120 121 rfl ?_
      refine q_iload_n hC dX5_read_121 4 rfl 122 rfl ?_
      refine q_iadd hC dX5_read_122 123 rfl ?_
      refine q_iload hC dX5_read_123 7 rfl 125 rfl ?_
      refine q_iadd hC dX5_read_125 126 rfl ?_
      obtain ⟨hin, hw⟩ := hw
      refine q_iald hC (arF66 hF) hin dX5_read_126 127 rfl ?_
      refine q_i2l hC dX5_read_127 128 rfl ?_
      refine q_lconst (v := 0) hC dX5_read_128 rfl 129 rfl ?_
      refine q_ldc2 (v := 255) hC (List.mem_of_getElem? (i := 5) (by decide +kernel)) dX5_read_129 132 rfl ?_
      refine r_callI hC (go_T (As := [.long ((M 66 ((((40 : Int32) * v1) + v3) + v7).toNatClampNeg).toInt64), .long 0, .long 255]) (rest := []) hC (ctX5_in (zl z) g M ((M 66 ((((40 : Int32) * v1) + v3) + v7).toNatClampNeg).toInt64) 0 255 _ hw) 3 gX5_read_X5_in rfl ⟨rfl, rfl⟩ hdT_X5_in ⟨Nat.le_of_ble_eq_true rfl, Nat.le_of_ble_eq_true rfl⟩ rfl rfl (Nat.le_of_ble_eq_true rfl) dX5_read_132) 135 rfl (fun r6 M7 hw => ?_)
      refine q_if_ne hC 144 dX5_read_135 (by decide) 138 rfl hw (fun hw => ?_) (fun hw => ?_)
      · refine q_aload_n hC dX5_read_144 1 rfl 145 rfl ?_
        refine q_getR (C := RX5) (T := TX5) (N := 26) (ci := 5) hC inX5_read_X5 (obF52 hF) rfl 0 (by decide) (List.mem_of_getElem? (i := 6) (by decide +kernel)) rfl 53 (fun _ => rfl) dX5_read_145 148 rfl ?_
        refine q_sipush (v := 327) hC dX5_read_148 (by decide) 151 rfl ?_
        obtain ⟨hin, hw⟩ := hw
        refine q_iald hC (arF53 hF) hin dX5_read_151 152 rfl ?_
        refine q_iload hC dX5_read_152 6 rfl 154 rfl ?_
        refine q_iadd hC dX5_read_154 155 rfl ?_
        refine q_bipush (v := 12) hC dX5_read_155 (by decide) 157 rfl ?_
        refine q_icmp_ne hC 163 dX5_read_157 (by decide) 160 rfl hw (fun hw => ?_) (fun hw => ?_)
        · refine q_iinc (v := v6 + 1) (L' := [(6, .int (v6 + 1)), (5, .int p0), (0, .ref (gA g 52)), (1, .int v1), (2, .int v2), (3, .int v3), (4, .int v4), (7, .int v7)]) hC dX5_read_163 6 rfl rfl (by decide) rfl 166 rfl ?_
          exact XX.sub [2, 3, 4, 5, 6, 1, 0, 7] rfl (B166 _ hK32 M7 p0 (v6 + 1) v7 hw)
        · refine q_bipush (v := (-3)) hC dX5_read_160 (by decide) 162 rfl ?_
          exact r_iret hR dX5_read_162 hw
      · refine q_bipush (v := (-20)) hC dX5_read_138 (by decide) 140 rfl ?_
        refine q_iload hC dX5_read_140 7 rfl 142 rfl ?_
        refine q_isub hC dX5_read_142 143 rfl ?_
        exact r_iret hR dX5_read_143 hw
  have B101 : ∀ (K32 : MM → Int32 → Int32 → Int32 → Prop) (hK32 : ∀ (M : MM) (v5 : Int32) (v6 : Int32) (v7 : Int32) , K32 M v5 v6 v7 → XX z g Qf 10 32 [(0, .ref (gA g 52)), (1, .int v1), (2, .int v2), (3, .int v3), (4, .int v4), (5, .int v5), (6, .int v6), (7, .int v7)] [] M) (M : MM) (v6 : Int32) (v7 : Int32), wX5_read_101 Q K32 v1 v2 v3 v4 M v6 v7 → XX z g Qf 10 101 [(0, .ref (gA g 52)), (1, .int v1), (2, .int v2), (3, .int v3), (4, .int v4), (6, .int v6), (7, .int v7)] [] M := by
    intro K32 hK32 M v6 v7 hw
    refine q_iconst (v := 2) hC dX5_read_101 rfl 102 rfl ?_
    refine q_goto hC 106 dX5_read_102 (by decide) ?_
    exact XX.sub [0, 1, 2, 3, 4, 5, 6] rfl (B106 _ hK32 M v6 v7 2 hw)
  have B32 : ∀ (n : Nat) (M : MM) (v5 : Int32) (v6 : Int32) (v7 : Int32) , wX5_read_32 Q v1 v2 v3 v4 n M v5 v6 v7 → XX z g Qf 10 32 [(0, .ref (gA g 52)), (1, .int v1), (2, .int v2), (3, .int v3), (4, .int v4), (5, .int v5), (6, .int v6), (7, .int v7)] [] M := by
    intro n
    induction n with
    | zero =>
      intro M v5 v6 v7 hw
      exact hw.elim
    | succ n ih =>
      intro M v5 v6 v7 hw
      refine q_iload hC dX5_read_32 7 rfl 34 rfl ?_
      refine q_iload hC dX5_read_34 4 rfl 36 rfl ?_
      refine q_icmp_ge hC 172 dX5_read_36 (by decide) 39 rfl hw (fun hw => ?_) (fun hw => ?_)
      · exact XX.sub [0, 1, 3, 5, 6] rfl (B172 M v5 v6 hw)
      · refine q_iload hC dX5_read_39 5 rfl 41 rfl ?_
        refine q_if_ne hC 172 dX5_read_41 (by decide) 44 rfl hw (fun hw => ?_) (fun hw => ?_)
        · exact XX.sub [0, 1, 3, 5, 6] rfl (B172 M v5 v6 hw)
        · refine q_iload_n hC dX5_read_44 3 rfl 45 rfl ?_
          refine q_i2l hC dX5_read_45 46 rfl ?_
          refine q_iload hC dX5_read_46 7 rfl 48 rfl ?_
          refine q_i2l hC dX5_read_48 49 rfl ?_
          refine q_ladd hC dX5_read_49 50 rfl ?_
          refine q_nameJ (fun x5 ex5 => ?_)
          have hw := hw x5 ex5
          refine q_lstore (L' := [(8, .long x5), (0, .ref (gA g 52)), (1, .int v1), (2, .int v2), (3, .int v3), (4, .int v4), (5, .int v5), (6, .int v6), (7, .int v7)]) hC dX5_read_50 (by decide) rfl 52 rfl ?_
          refine q_aload_n hC dX5_read_52 1 rfl 53 rfl ?_
          refine q_getR (C := RX5) (T := TX5) (N := 26) (ci := 5) hC inX5_read_X5 (obF52 hF) rfl 22 (by decide) (List.mem_of_getElem? (i := 2) (by decide +kernel)) rfl 64 (fun _ => rfl) dX5_read_53 56 rfl ?_
          refine q_iload_n hC dX5_read_56 2 rfl 57 rfl ?_
          obtain ⟨hin, hw⟩ := hw
          refine q_iald hC (arF64 hF) hin dX5_read_57 58 rfl ?_
          refine q_bipush (v := (-4)) hC dX5_read_58 (by decide) 60 rfl ?_
          refine q_icmp_ne hC 67 dX5_read_60 (by decide) 63 rfl hw (fun hw => ?_) (fun hw => ?_)
          · refine q_aload_n hC dX5_read_67 1 rfl 68 rfl ?_
            refine q_getR (C := RX5) (T := TX5) (N := 26) (ci := 5) hC inX5_read_X5 (obF52 hF) rfl 22 (by decide) (List.mem_of_getElem? (i := 2) (by decide +kernel)) rfl 64 (fun _ => rfl) dX5_read_68 71 rfl ?_
            refine q_iload_n hC dX5_read_71 2 rfl 72 rfl ?_
            obtain ⟨hin, hw⟩ := hw
            refine q_iald hC (arF64 hF) hin dX5_read_72 73 rfl ?_
            refine q_iload_n hC dX5_read_73 3 rfl 74 rfl ?_
            refine q_icmp_eq hC 81 dX5_read_74 (by decide) 77 rfl hw (fun hw => ?_) (fun hw => ?_)
            · refine q_lload hC dX5_read_81 0 rfl 83 rfl ?_
              refine q_lconst (v := 0) hC dX5_read_83 rfl 84 rfl ?_
              refine q_lcmp hC dX5_read_84 85 rfl ?_
              refine q_if_lt hC 101 dX5_read_85 (by decide) 88 rfl hw (fun hw => ?_) (fun hw => ?_)
              · exact XX.sub [1, 2, 3, 4, 5, 7, 8] rfl (B101 _ (fun M v5 v6 v7 hw => ih M v5 v6 v7 hw) M v6 v7 hw)
              · refine q_lload hC dX5_read_88 0 rfl 90 rfl ?_
                refine q_aload_n hC dX5_read_90 1 rfl 91 rfl ?_
                refine q_getR (C := RX5) (T := TX5) (N := 26) (ci := 5) hC inX5_read_X5 (obF52 hF) rfl 23 (by decide) (List.mem_of_getElem? (i := 3) (by decide +kernel)) rfl 65 (fun _ => rfl) dX5_read_91 94 rfl ?_
                refine q_iload_n hC dX5_read_94 2 rfl 95 rfl ?_
                obtain ⟨hin, hw⟩ := hw
                refine q_iald hC (arF65 hF) hin dX5_read_95 96 rfl ?_
                refine q_i2l hC dX5_read_96 97 rfl ?_
                refine q_lcmp hC dX5_read_97 98 rfl ?_
                refine q_if_lt hC 105 dX5_read_98 (by decide) 101 rfl hw (fun hw => ?_) (fun hw => ?_)
                · refine q_iconst (v := 0) hC dX5_read_105 rfl 106 rfl ?_
                  exact XX.sub [1, 2, 3, 4, 5, 7, 8] rfl (B106 _ (fun M v5 v6 v7 hw => ih M v5 v6 v7 hw) M v6 v7 0 hw)
                · exact XX.sub [1, 2, 3, 4, 5, 7, 8] rfl (B101 _ (fun M v5 v6 v7 hw => ih M v5 v6 v7 hw) M v6 v7 hw)
            · refine q_iconst (v := 3) hC dX5_read_77 rfl 78 rfl ?_
              refine q_goto hC 106 dX5_read_78 (by decide) ?_
              exact XX.sub [1, 2, 3, 4, 5, 7, 8] rfl (B106 _ (fun M v5 v6 v7 hw => ih M v5 v6 v7 hw) M v6 v7 3 hw)
          · refine q_iconst (v := 1) hC dX5_read_63 rfl 64 rfl ?_
            refine q_goto hC 106 dX5_read_64 (by decide) ?_
            exact XX.sub [1, 2, 3, 4, 5, 7, 8] rfl (B106 _ (fun M v5 v6 v7 hw => ih M v5 v6 v7 hw) M v6 v7 1 hw)
  refine q_iload_n hC dX5_read_0 1 rfl 1 rfl ?_
  refine q_iload_n hC dX5_read_1 2 rfl 2 rfl ?_
  refine r_callI hC (go_T (As := [.int v1, .int v2]) (rest := []) hC (ctX5_isSheet (zl z) g M v1 v2 _ hw) 2 gX5_read_X5_isSheet rfl ⟨rfl, rfl⟩ hdT_X5_isSheet ⟨Nat.le_of_ble_eq_true rfl, Nat.le_of_ble_eq_true rfl⟩ rfl rfl (Nat.le_of_ble_eq_true rfl) dX5_read_2) 5 rfl (fun r1 M2 hw => ?_)
  refine q_if_eq hC 21 dX5_read_5 (by decide) 8 rfl hw (fun hw => ?_) (fun hw => ?_)
  · refine q_iconst (v := (-1)) hC dX5_read_21 rfl 22 rfl ?_
    exact r_iret hR dX5_read_22 hw
  · refine q_iload hC dX5_read_8 4 rfl 10 rfl ?_
    refine q_i2l hC dX5_read_10 11 rfl ?_
    refine q_lconst (v := 0) hC dX5_read_11 rfl 12 rfl ?_
    refine q_ldc2 (v := 12) hC (List.mem_of_getElem? (i := 1) (by decide +kernel)) dX5_read_12 15 rfl ?_
    refine r_callI hC (go_T (As := [.long (v4.toInt64), .long 0, .long 12]) (rest := []) hC (ctX5_in (zl z) g M2 (v4.toInt64) 0 12 _ hw) 3 gX5_read_X5_in rfl ⟨rfl, rfl⟩ hdT_X5_in ⟨Nat.le_of_ble_eq_true rfl, Nat.le_of_ble_eq_true rfl⟩ rfl rfl (Nat.le_of_ble_eq_true rfl) dX5_read_15) 18 rfl (fun r3 M4 hw => ?_)
    refine q_if_ne hC 23 dX5_read_18 (by decide) 21 rfl hw (fun hw => ?_) (fun hw => ?_)
    · refine q_iconst (v := 0) hC dX5_read_23 rfl 24 rfl ?_
      refine q_istore (L' := [(5, .int 0), (0, .ref (gA g 52)), (1, .int v1), (2, .int v2), (3, .int v3), (4, .int v4)]) hC dX5_read_24 (by decide) rfl 26 rfl ?_
      refine q_iconst (v := 0) hC dX5_read_26 rfl 27 rfl ?_
      refine q_istore (L' := [(6, .int 0), (5, .int 0), (0, .ref (gA g 52)), (1, .int v1), (2, .int v2), (3, .int v3), (4, .int v4)]) hC dX5_read_27 (by decide) rfl 29 rfl ?_
      refine q_iconst (v := 0) hC dX5_read_29 rfl 30 rfl ?_
      refine q_istore (L' := [(7, .int 0), (6, .int 0), (5, .int 0), (0, .ref (gA g 52)), (1, .int v1), (2, .int v2), (3, .int v3), (4, .int v4)]) hC dX5_read_30 (by decide) rfl 32 rfl ?_
      obtain ⟨n0, hw⟩ := hw
      exact XX.sub [3, 4, 5, 6, 7, 2, 1, 0] rfl (B32 n0 M4 0 0 0 hw)
    · refine q_iconst (v := (-1)) hC dX5_read_21 rfl 22 rfl ?_
      exact r_iret hR dX5_read_22 hw
set_option maxRecDepth 20000 in
theorem inX5_torn_X5 : ∀ w ∈ u_ws RX5 TX5 26, w ∈ wsX5_torn := by decide +kernel
set_option maxRecDepth 100000 in
set_option maxHeartbeats 4000000 in
theorem ctX5_torn (l : Launch) (g : GG) (M : MM)  (Q : Int32 → MM → Prop) (hF : full g) (hw : wX5_torn Q M ) : MI g l yX5_torn wsX5_torn (rmOf 0 0) [.ref (gA g 52)] M Q := by
  refine mk_MI (cc := cX5_torn) (maxL := 1) (by decide) rfl (Nat.le_of_ble_eq_true rfl) ?_
  intro z Qf hC hR
  show XX z g Qf 1 0 [(0, .ref (gA g 52))] [] M
  refine q_aload_n hC dX5_torn_0 0 rfl 1 rfl ?_
  refine q_getI (C := RX5) (T := TX5) (N := 26) (ci := 5) hC inX5_torn_X5 (obF52 hF) rfl 25 (by decide) (List.mem_of_getElem? (i := 1) (by decide +kernel)) rfl (fun _ => rfl) dX5_torn_1 4 rfl ?_
  exact r_iret hR dX5_torn_4 hw
set_option maxRecDepth 20000 in
theorem inX5_count_X5 : ∀ w ∈ u_ws RX5 TX5 26, w ∈ wsX5_count := by decide +kernel
set_option maxRecDepth 100000 in
set_option maxHeartbeats 4000000 in
theorem ctX5_count (l : Launch) (g : GG) (M : MM) (v1 : Int32) (Q : Int32 → MM → Prop) (hF : full g) (hw : wX5_count Q M v1) : MI g l yX5_count wsX5_count (rmOf 1 20) [.ref (gA g 52), .int v1] M Q := by
  refine mk_MI (cc := cX5_count) (maxL := 5) (by decide) rfl (Nat.le_of_ble_eq_true rfl) ?_
  intro z Qf hC hR
  show XX z g Qf 5 0 [(0, .ref (gA g 52)), (1, .int v1)] [] M
  have B37 : ∀ (K7 : MM → Int32 → Int32 → Int32 → Prop) (hK7 : ∀ (M : MM) (v2 : Int32) (v3 : Int32) (v4 : Int32) , K7 M v2 v3 v4 → XX z g Qf 5 7 [(0, .ref (gA g 52)), (1, .int v1), (2, .int v2), (3, .int v3), (4, .int v4)] [] M) (M : MM) (v3 : Int32) (v4 : Int32) (p0 : Int32) (p1 : Int32), wX5_count_37 Q K7 v1 M v3 v4 p0 p1 → XX z g Qf 5 37 [(0, .ref (gA g 52)), (1, .int v1), (3, .int v3), (4, .int v4)] [.int p0, .int p1] M := by
    intro K7 hK7 M v3 v4 p0 p1 hw
    refine r_callI hC (go_T (As := [.int p0]) (rest := [.int p1]) hC (ctX5_flag (zl z) g M p0 _ hw) 1 gX5_count_X5_flag rfl ⟨rfl, rfl⟩ hdT_X5_flag ⟨Nat.le_of_ble_eq_true rfl, Nat.le_of_ble_eq_true rfl⟩ rfl rfl (Nat.le_of_ble_eq_true rfl) dX5_count_37) 40 rfl (fun r5 M6 hw => ?_)
    refine q_iadd hC dX5_count_40 41 rfl ?_
    refine q_istore_n (L' := [(2, .int (p1 + r5)), (0, .ref (gA g 52)), (1, .int v1), (3, .int v3), (4, .int v4)]) hC dX5_count_41 (by decide) rfl 42 rfl ?_
    refine q_iload_n hC dX5_count_42 3 rfl 43 rfl ?_
    refine q_aload_n hC dX5_count_43 1 rfl 44 rfl ?_
    refine q_getR (C := RX5) (T := TX5) (N := 26) (ci := 5) hC inX5_count_X5 (obF52 hF) rfl 0 (by decide) (List.mem_of_getElem? (i := 1) (by decide +kernel)) rfl 53 (fun _ => rfl) dX5_count_44 47 rfl ?_
    refine q_bipush (v := 13) hC dX5_count_47 (by decide) 49 rfl ?_
    refine q_iload hC dX5_count_49 4 rfl 51 rfl ?_
    refine q_iadd hC dX5_count_51 52 rfl ?_
    obtain ⟨hin, hw⟩ := hw
    refine q_iald hC (arF53 hF) hin dX5_count_52 53 rfl ?_
    refine q_iadd hC dX5_count_53 54 rfl ?_
    refine q_nameI (fun x7 ex7 => ?_)
    have hw := hw x7 ex7
    refine q_istore_n (L' := [(3, .int x7), (2, .int (p1 + r5)), (0, .ref (gA g 52)), (1, .int v1), (4, .int v4)]) hC dX5_count_54 (by decide) rfl 55 rfl ?_
    refine q_iinc (v := v4 + 1) (L' := [(4, .int (v4 + 1)), (3, .int x7), (2, .int (p1 + r5)), (0, .ref (gA g 52)), (1, .int v1)]) hC dX5_count_55 4 rfl rfl (by decide) rfl 58 rfl ?_
    refine q_goto hC 7 dX5_count_58 (by decide) ?_
    exact XX.sub [3, 4, 2, 1, 0] rfl (hK7 M6 (p1 + r5) x7 (v4 + 1) hw)
  have B7 : ∀ (n : Nat) (M : MM) (v2 : Int32) (v3 : Int32) (v4 : Int32) , wX5_count_7 Q v1 n M v2 v3 v4 → XX z g Qf 5 7 [(0, .ref (gA g 52)), (1, .int v1), (2, .int v2), (3, .int v3), (4, .int v4)] [] M := by
    intro n
    induction n with
    | zero =>
      intro M v2 v3 v4 hw
      exact hw.elim
    | succ n ih =>
      intro M v2 v3 v4 hw
      refine q_iload hC dX5_count_7 4 rfl 9 rfl ?_
      refine q_aload_n hC dX5_count_9 0 rfl 10 rfl ?_
      refine q_getR (C := RX5) (T := TX5) (N := 26) (ci := 5) hC inX5_count_X5 (obF52 hF) rfl 0 (by decide) (List.mem_of_getElem? (i := 1) (by decide +kernel)) rfl 53 (fun _ => rfl) dX5_count_10 13 rfl ?_
      refine q_iconst (v := 0) hC dX5_count_13 rfl 14 rfl ?_
      obtain ⟨hin, hw⟩ := hw
      refine q_iald hC (arF53 hF) hin dX5_count_14 15 rfl ?_
      refine q_icmp_ge hC 61 dX5_count_15 (by decide) 18 rfl hw (fun hw => ?_) (fun hw => ?_)
      · refine q_iload_n hC dX5_count_61 1 rfl 62 rfl ?_
        by_cases c0 : v1 = 0
        · have hw := hw.1 c0
          refine q_tabIn hC 104 dX5_count_62 (by rw [c0]; decide) (by rw [c0]; decide) (by rw [c0]; rfl) (by decide) ?_
          refine q_aload_n hC dX5_count_104 0 rfl 105 rfl ?_
          refine q_getR (C := RX5) (T := TX5) (N := 26) (ci := 5) hC inX5_count_X5 (obF52 hF) rfl 0 (by decide) (List.mem_of_getElem? (i := 1) (by decide +kernel)) rfl 53 (fun _ => rfl) dX5_count_105 108 rfl ?_
          refine q_iconst (v := 0) hC dX5_count_108 rfl 109 rfl ?_
          obtain ⟨hin, hw⟩ := hw
          refine q_iald hC (arF53 hF) hin dX5_count_109 110 rfl ?_
          exact r_iret hR dX5_count_110 hw
        · have hw := hw.2 c0
          by_cases c1 : v1 = 1
          · have hw := hw.1 c1
            refine q_tabIn hC 111 dX5_count_62 (by rw [c1]; decide) (by rw [c1]; decide) (by rw [c1]; rfl) (by decide) ?_
            refine q_iload_n hC dX5_count_111 2 rfl 112 rfl ?_
            exact r_iret hR dX5_count_112 hw
          · have hw := hw.2 c1
            by_cases c2 : v1 = 2
            · have hw := hw.1 c2
              refine q_tabIn hC 113 dX5_count_62 (by rw [c2]; decide) (by rw [c2]; decide) (by rw [c2]; rfl) (by decide) ?_
              refine q_iload_n hC dX5_count_113 3 rfl 114 rfl ?_
              exact r_iret hR dX5_count_114 hw
            · have hw := hw.2 c2
              by_cases c3 : v1 = 3
              · have hw := hw.1 c3
                refine q_tabIn hC 115 dX5_count_62 (by rw [c3]; decide) (by rw [c3]; decide) (by rw [c3]; rfl) (by decide) ?_
                refine q_aload_n hC dX5_count_115 0 rfl 116 rfl ?_
                refine q_getR (C := RX5) (T := TX5) (N := 26) (ci := 5) hC inX5_count_X5 (obF52 hF) rfl 0 (by decide) (List.mem_of_getElem? (i := 1) (by decide +kernel)) rfl 53 (fun _ => rfl) dX5_count_116 119 rfl ?_
                refine q_sipush (v := 341) hC dX5_count_119 (by decide) 122 rfl ?_
                obtain ⟨hin, hw⟩ := hw
                refine q_iald hC (arF53 hF) hin dX5_count_122 123 rfl ?_
                exact r_iret hR dX5_count_123 hw
              · have hw := hw.2 c3
                by_cases c4 : v1 = 4
                · have hw := hw.1 c4
                  refine q_tabIn hC 124 dX5_count_62 (by rw [c4]; decide) (by rw [c4]; decide) (by rw [c4]; rfl) (by decide) ?_
                  refine q_aload_n hC dX5_count_124 0 rfl 125 rfl ?_
                  refine q_getR (C := RX5) (T := TX5) (N := 26) (ci := 5) hC inX5_count_X5 (obF52 hF) rfl 1 (by decide) (List.mem_of_getElem? (i := 2) (by decide +kernel)) rfl 54 (fun _ => rfl) dX5_count_125 128 rfl ?_
                  refine q_iconst (v := 0) hC dX5_count_128 rfl 129 rfl ?_
                  obtain ⟨hin, hw⟩ := hw
                  refine q_zald hC (arF54 hF) hin dX5_count_129 130 rfl ?_
                  refine r_callI hC (go_T (As := [.int (M 54 (0 : Int32).toNatClampNeg)]) (rest := []) hC (ctX5_flag (zl z) g M (M 54 (0 : Int32).toNatClampNeg) _ hw) 1 gX5_count_X5_flag rfl ⟨rfl, rfl⟩ hdT_X5_flag ⟨Nat.le_of_ble_eq_true rfl, Nat.le_of_ble_eq_true rfl⟩ rfl rfl (Nat.le_of_ble_eq_true rfl) dX5_count_130) 133 rfl (fun r1 M2 hw => ?_)
                  refine q_aload_n hC dX5_count_133 0 rfl 134 rfl ?_
                  refine q_getR (C := RX5) (T := TX5) (N := 26) (ci := 5) hC inX5_count_X5 (obF52 hF) rfl 1 (by decide) (List.mem_of_getElem? (i := 2) (by decide +kernel)) rfl 54 (fun _ => rfl) dX5_count_134 137 rfl ?_
                  refine q_iconst (v := 1) hC dX5_count_137 rfl 138 rfl ?_
                  obtain ⟨hin, hw⟩ := hw
                  refine q_zald hC (arF54 hF) hin dX5_count_138 139 rfl ?_
                  refine r_callI hC (go_T (As := [.int (M2 54 (1 : Int32).toNatClampNeg)]) (rest := [.int r1]) hC (ctX5_flag (zl z) g M2 (M2 54 (1 : Int32).toNatClampNeg) _ hw) 1 gX5_count_X5_flag rfl ⟨rfl, rfl⟩ hdT_X5_flag ⟨Nat.le_of_ble_eq_true rfl, Nat.le_of_ble_eq_true rfl⟩ rfl rfl (Nat.le_of_ble_eq_true rfl) dX5_count_139) 142 rfl (fun r3 M4 hw => ?_)
                  refine q_iadd hC dX5_count_142 143 rfl ?_
                  exact r_iret hR dX5_count_143 hw
                · have hw := hw.2 c4
                  by_cases c5 : v1 = 5
                  · have hw := hw.1 c5
                    refine q_tabIn hC 144 dX5_count_62 (by rw [c5]; decide) (by rw [c5]; decide) (by rw [c5]; rfl) (by decide) ?_
                    refine q_aload_n hC dX5_count_144 0 rfl 145 rfl ?_
                    refine q_getI (C := RX5) (T := TX5) (N := 26) (ci := 5) hC inX5_count_X5 (obF52 hF) rfl 9 (by decide) (List.mem_of_getElem? (i := 3) (by decide +kernel)) rfl (fun _ => rfl) dX5_count_145 148 rfl ?_
                    exact r_iret hR dX5_count_148 hw
                  · have hw := hw.2 c5
                    by_cases c6 : v1 = 6
                    · have hw := hw.1 c6
                      refine q_tabIn hC 149 dX5_count_62 (by rw [c6]; decide) (by rw [c6]; decide) (by rw [c6]; rfl) (by decide) ?_
                      refine q_aload_n hC dX5_count_149 0 rfl 150 rfl ?_
                      refine q_getR (C := RX5) (T := TX5) (N := 26) (ci := 5) hC inX5_count_X5 (obF52 hF) rfl 22 (by decide) (List.mem_of_getElem? (i := 4) (by decide +kernel)) rfl 64 (fun _ => rfl) dX5_count_150 153 rfl ?_
                      refine q_iconst (v := 0) hC dX5_count_153 rfl 154 rfl ?_
                      obtain ⟨hin, hw⟩ := hw
                      refine q_iald hC (arF64 hF) hin dX5_count_154 155 rfl ?_
                      refine q_bipush (v := (-4)) hC dX5_count_155 (by decide) 157 rfl ?_
                      refine q_icmp_ne hC 165 dX5_count_157 (by decide) 160 rfl hw (fun hw => ?_) (fun hw => ?_)
                      · refine q_aload_n hC dX5_count_165 0 rfl 166 rfl ?_
                        refine q_getR (C := RX5) (T := TX5) (N := 26) (ci := 5) hC inX5_count_X5 (obF52 hF) rfl 23 (by decide) (List.mem_of_getElem? (i := 5) (by decide +kernel)) rfl 65 (fun _ => rfl) dX5_count_166 169 rfl ?_
                        refine q_iconst (v := 0) hC dX5_count_169 rfl 170 rfl ?_
                        obtain ⟨hin, hw⟩ := hw
                        refine q_iald hC (arF65 hF) hin dX5_count_170 171 rfl ?_
                        exact r_iret hR dX5_count_171 hw
                      · refine q_bipush (v := (-4)) hC dX5_count_160 (by decide) 162 rfl ?_
                        refine q_goto hC 171 dX5_count_162 (by decide) ?_
                        exact r_iret hR dX5_count_171 hw
                    · have hw := hw.2 c6
                      refine q_tabOut hC 172 dX5_count_62 (tab_out6 c0 c1 c2 c3 c4 c5 c6) (by decide) ?_
                      refine q_iconst (v := (-1)) hC dX5_count_172 rfl 173 rfl ?_
                      exact r_iret hR dX5_count_173 hw
      · refine q_iload_n hC dX5_count_18 2 rfl 19 rfl ?_
        refine q_aload_n hC dX5_count_19 0 rfl 20 rfl ?_
        refine q_getR (C := RX5) (T := TX5) (N := 26) (ci := 5) hC inX5_count_X5 (obF52 hF) rfl 0 (by decide) (List.mem_of_getElem? (i := 1) (by decide +kernel)) rfl 53 (fun _ => rfl) dX5_count_20 23 rfl ?_
        refine q_bipush (v := 13) hC dX5_count_23 (by decide) 25 rfl ?_
        refine q_iload hC dX5_count_25 4 rfl 27 rfl ?_
        refine q_iadd hC dX5_count_27 28 rfl ?_
        obtain ⟨hin, hw⟩ := hw
        refine q_iald hC (arF53 hF) hin dX5_count_28 29 rfl ?_
        refine q_if_ne hC 36 dX5_count_29 (by decide) 32 rfl hw (fun hw => ?_) (fun hw => ?_)
        · refine q_iconst (v := 0) hC dX5_count_36 rfl 37 rfl ?_
          exact XX.sub [0, 1, 3, 4] rfl (B37 _ (fun M v2 v3 v4 hw => ih M v2 v3 v4 hw) M v3 v4 0 v2 hw)
        · refine q_iconst (v := 1) hC dX5_count_32 rfl 33 rfl ?_
          refine q_goto hC 37 dX5_count_33 (by decide) ?_
          exact XX.sub [0, 1, 3, 4] rfl (B37 _ (fun M v2 v3 v4 hw => ih M v2 v3 v4 hw) M v3 v4 1 v2 hw)
  refine q_iconst (v := 0) hC dX5_count_0 rfl 1 rfl ?_
  refine q_istore_n (L' := [(2, .int 0), (0, .ref (gA g 52)), (1, .int v1)]) hC dX5_count_1 (by decide) rfl 2 rfl ?_
  refine q_iconst (v := 0) hC dX5_count_2 rfl 3 rfl ?_
  refine q_istore_n (L' := [(3, .int 0), (2, .int 0), (0, .ref (gA g 52)), (1, .int v1)]) hC dX5_count_3 (by decide) rfl 4 rfl ?_
  refine q_iconst (v := 0) hC dX5_count_4 rfl 5 rfl ?_
  refine q_istore (L' := [(4, .int 0), (3, .int 0), (2, .int 0), (0, .ref (gA g 52)), (1, .int v1)]) hC dX5_count_5 (by decide) rfl 7 rfl ?_
  obtain ⟨n0, hw⟩ := hw
  exact XX.sub [3, 4, 2, 1, 0] rfl (B7 n0 M 0 0 0 hw)
