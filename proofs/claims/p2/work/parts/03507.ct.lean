theorem inX5_areBlocks_X5 : ∀ w ∈ u_ws RX5 TX5 26, w ∈ wsX5_areBlocks := uX5_areBlocks__wsX50
set_option maxRecDepth 100000 in
set_option maxHeartbeats 4000000 in
theorem ctX5_areBlocks (l : Launch) (g : GG) (M : MM) (v1 : Int32) (Q : Int32 → MM → Prop) (hF : ful5 g) (hw : wX5_areBlocks Q M v1) : MI g l yX5_areBlocks wsX5_areBlocks (rmOf 1 25) [.ref (gA g 52), .int v1] M Q := by
  refine mk_MZ (cc := cX5_areBlocks) (maxL := 2) (by decide) rfl (Nat.le_of_ble_eq_true rfl) ?_
  intro z Qf hC hR
  show XX z g Qf 2 0 [(0, .ref (gA g 52)), (1, .int v1)] [] M
  refine q_iload_n hC dX5_areBlocks_0 1 rfl 1 rfl ?_
  refine q_i2l hC dX5_areBlocks_1 2 rfl ?_
  refine q_lconst (v := 0) hC dX5_areBlocks_2 rfl 3 rfl ?_
  refine q_iconst (v := 1) hC dX5_areBlocks_3 rfl 4 rfl ?_
  refine q_aload_n hC dX5_areBlocks_4 0 rfl 5 rfl ?_
  refine q_getR (C := RX5) (T := TX5) (N := 26) (ci := 5) hC inX5_areBlocks_X5 (obF52 hF) rfl 0 (by decide) (uX5_areBlocks__o _ (List.mem_of_getElem? (l := owX5_areBlocks) (i := 1) rfl)) rfl 53 (fun _ => rfl) dX5_areBlocks_5 8 rfl ?_
  refine q_iconst (v := 0) hC dX5_areBlocks_8 rfl 9 rfl ?_
  refine q_ialdL hC (arF53 hF) 0 (by decide +kernel) (by decide +kernel) dX5_areBlocks_9 10 rfl ?_
  refine q_ishl hC dX5_areBlocks_10 11 rfl ?_
  refine q_iconst (v := 1) hC dX5_areBlocks_11 rfl 12 rfl ?_
  refine q_isub hC dX5_areBlocks_12 13 rfl ?_
  refine q_i2l hC dX5_areBlocks_13 14 rfl ?_
  refine r_callI hC (go_T (As := [.long (v1.toInt64), .long 0, .long ((((1 : Int32) <<< ((M 53 0) &&& 31)) - (1 : Int32)).toInt64)]) (rest := []) hC (ctX5_in (zl z) g M (v1.toInt64) 0 ((((1 : Int32) <<< ((M 53 0) &&& 31)) - (1 : Int32)).toInt64) _ hw) 3 gX5_areBlocks_X5_in rfl ⟨rfl, rfl⟩ hdT_X5_in ⟨Nat.le_of_ble_eq_true rfl, Nat.le_of_ble_eq_true rfl⟩ rfl rfl (Nat.le_of_ble_eq_true rfl) dX5_areBlocks_14) 17 rfl (fun r1 M2 hw => ?_)
  exact r_iret hR dX5_areBlocks_17 hw
set_option maxRecDepth 100000 in
set_option maxHeartbeats 4000000 in
theorem ctX5_countOf (l : Launch) (g : GG) (M : MM) (v0 : Int32) (Q : Int32 → MM → Prop)  (hw : wX5_countOf Q M v0) : MI g l yX5_countOf wsX5_countOf (rmOf 0 0) [.int v0] M Q := by
  refine mk_MI (cc := cX5_countOf) (maxL := 3) (by decide) rfl (Nat.le_of_ble_eq_true rfl) ?_
  intro z Qf hC hR
  show XX z g Qf 3 0 [(0, .int v0)] [] M
  have B4 : ∀ (n : Nat) (M : MM) (v1 : Int32) (v2 : Int32) , wX5_countOf_4 Q v0 n M v1 v2 → XX z g Qf 3 4 [(0, .int v0), (1, .int v1), (2, .int v2)] [] M := by
    intro n
    induction n with
    | zero =>
      intro M v1 v2 hw
      exact hw.elim
    | succ n ih =>
      intro M v1 v2 hw
      refine q_iload_n hC dX5_countOf_4 2 rfl 5 rfl ?_
      refine q_bipush (v := 12) hC dX5_countOf_5 (by decide) 7 rfl ?_
      refine q_icmp_ge hC 24 dX5_countOf_7 (by decide) 10 rfl hw (fun hw => ?_) (fun hw => ?_)
      · refine q_iload_n hC dX5_countOf_24 1 rfl 25 rfl ?_
        exact r_iret hR dX5_countOf_25 hw
      · refine q_iload_n hC dX5_countOf_10 1 rfl 11 rfl ?_
        refine q_iload_n hC dX5_countOf_11 0 rfl 12 rfl ?_
        refine q_iload_n hC dX5_countOf_12 2 rfl 13 rfl ?_
        refine q_ishr hC dX5_countOf_13 14 rfl ?_
        refine q_iconst (v := 1) hC dX5_countOf_14 rfl 15 rfl ?_
        refine q_iand hC dX5_countOf_15 16 rfl ?_
        refine q_iadd hC dX5_countOf_16 17 rfl ?_
        refine q_nameI (fun x1 ex1 => ?_)
        have hw := hw x1 ex1
        refine q_istore_n (L' := [(1, .int x1), (0, .int v0), (2, .int v2)]) hC dX5_countOf_17 (by decide) rfl 18 rfl ?_
        refine q_iinc (v := v2 + 1) (L' := [(2, .int (v2 + 1)), (1, .int x1), (0, .int v0)]) hC dX5_countOf_18 2 rfl rfl (by decide) rfl 21 rfl ?_
        refine q_goto hC 4 dX5_countOf_21 (by decide) ?_
        exact XX.sub [2, 1, 0] rfl (ih M x1 (v2 + 1) hw)
  refine q_iconst (v := 0) hC dX5_countOf_0 rfl 1 rfl ?_
  refine q_istore_n (L' := [(1, .int 0), (0, .int v0)]) hC dX5_countOf_1 (by decide) rfl 2 rfl ?_
  refine q_iconst (v := 0) hC dX5_countOf_2 rfl 3 rfl ?_
  refine q_istore_n (L' := [(2, .int 0), (1, .int 0), (0, .int v0)]) hC dX5_countOf_3 (by decide) rfl 4 rfl ?_
  obtain ⟨n0, hw⟩ := hw
  exact XX.sub [2, 1, 0] rfl (B4 n0 M 0 0 hw)
theorem hdV_X5_takes : yX5_takes.cls = RX5 ∧ yX5_takes.cls ≠ "java/lang/invoke/MethodHandle" ∧ yX5_takes.cls ≠ "java/lang/invoke/VarHandle" ∧ (parseMethodDescriptor yX5_takes.desc).map (fun d => d.parameters.length) = some 2 := by decide +kernel
theorem inX5_layRest_X5 : ∀ w ∈ u_ws RX5 TX5 26, w ∈ wsX5_layRest := uX5_layRest__wsX50
set_option maxRecDepth 100000 in
set_option maxHeartbeats 4000000 in
theorem ctX5_layRest (l : Launch) (g : GG) (M : MM) (v1 : Int32) (Q : MM → Prop) (hF : ful5 g) (hw : wX5_layRest Q M v1) : MV g l yX5_layRest wsX5_layRest (rmOf 5 113) [.ref (gA g 52), .int v1] M Q := by
  refine mk_MV (cc := cX5_layRest) (maxL := 8) (by decide) rfl (Nat.le_of_ble_eq_true rfl) ?_
  intro z Qf hC hR
  show XX z g Qf 8 0 [(0, .ref (gA g 52)), (1, .int v1)] [] M
  have B200 : ∀ (K63 : MM → Int32 → Int32 → Prop) (hK63 : ∀ (M : MM) (v2 : Int32) (v3 : Int32) , K63 M v2 v3 → XX z g Qf 8 63 [(0, .ref (gA g 52)), (2, .int v2), (3, .int v3)] [] M) (K70 : MM → Int32 → Int32 → Int32 → Prop) (hK70 : ∀ (M : MM) (v2 : Int32) (v3 : Int32) (v4 : Int32) , K70 M v2 v3 v4 → XX z g Qf 8 70 [(0, .ref (gA g 52)), (2, .int v2), (3, .int v3), (4, .int v4)] [] M) (M : MM) (v2 : Int32) (v3 : Int32) (v4 : Int32) (v5 : Int32), wX5_layRest_200 Q K63 K70 v1 M v2 v3 v4 v5 → XX z g Qf 8 200 [(0, .ref (gA g 52)), (2, .int v2), (3, .int v3), (4, .int v4), (5, .int v5)] [] M := by
    intro K63 hK63 K70 hK70 M v2 v3 v4 v5 hw
    refine q_aload_n hC dX5_layRest_200 0 rfl 201 rfl ?_
    refine q_getR (C := RX5) (T := TX5) (N := 26) (ci := 5) hC inX5_layRest_X5 (obF52 hF) rfl 18 (by decide) (uX5_layRest__o _ (List.mem_of_getElem? (l := owX5_layRest) (i := 3) rfl)) rfl 62 (fun _ => rfl) dX5_layRest_201 204 rfl ?_
    refine q_bipush (v := 13) hC dX5_layRest_204 (by decide) 206 rfl ?_
    refine q_iload_n hC dX5_layRest_206 2 rfl 207 rfl ?_
    refine q_imul hC dX5_layRest_207 208 rfl ?_
    refine q_iload hC dX5_layRest_208 3 rfl 210 rfl ?_
    refine q_iadd hC dX5_layRest_210 211 rfl ?_
    refine q_iload hC dX5_layRest_211 4 rfl 213 rfl ?_
    obtain ⟨hin, hw⟩ := hw
    refine q_iast hC (arF62 hF) hin dX5_layRest_213 214 rfl (fun M9 eM9 => ?_)
    have hw := hw M9 eM9
    refine q_iinc (v := v4 + 1) (L' := [(4, .int (v4 + 1)), (0, .ref (gA g 52)), (2, .int v2), (3, .int v3), (5, .int v5)]) hC dX5_layRest_214 3 rfl rfl (by decide) rfl 217 rfl ?_
    refine q_goto hC 70 dX5_layRest_217 (by decide) ?_
    exact XX.sub [1, 2, 3, 0] rfl (hK70 M9 v2 v3 (v4 + 1) hw)
  have B194 : ∀ (K63 : MM → Int32 → Int32 → Prop) (hK63 : ∀ (M : MM) (v2 : Int32) (v3 : Int32) , K63 M v2 v3 → XX z g Qf 8 63 [(0, .ref (gA g 52)), (2, .int v2), (3, .int v3)] [] M) (K70 : MM → Int32 → Int32 → Int32 → Prop) (hK70 : ∀ (M : MM) (v2 : Int32) (v3 : Int32) (v4 : Int32) , K70 M v2 v3 v4 → XX z g Qf 8 70 [(0, .ref (gA g 52)), (2, .int v2), (3, .int v3), (4, .int v4)] [] M) (K138 : MM → Int32 → Int32 → Int32 → Int32 → Int32 → Int32 → Prop) (hK138 : ∀ (M : MM) (v2 : Int32) (v3 : Int32) (v4 : Int32) (v5 : Int32) (v6 : Int32) (v7 : Int32) , K138 M v2 v3 v4 v5 v6 v7 → XX z g Qf 8 138 [(0, .ref (gA g 52)), (2, .int v2), (3, .int v3), (4, .int v4), (5, .int v5), (6, .int v6), (7, .int v7)] [] M) (M : MM) (v2 : Int32) (v3 : Int32) (v4 : Int32) (v5 : Int32) (v6 : Int32) (v7 : Int32), wX5_layRest_194 Q K63 K70 K138 v1 M v2 v3 v4 v5 v6 v7 → XX z g Qf 8 194 [(0, .ref (gA g 52)), (2, .int v2), (3, .int v3), (4, .int v4), (5, .int v5), (6, .int v6), (7, .int v7)] [] M := by
    intro K63 hK63 K70 hK70 K138 hK138 M v2 v3 v4 v5 v6 v7 hw
    refine q_iinc (v := v7 + 1) (L' := [(7, .int (v7 + 1)), (0, .ref (gA g 52)), (2, .int v2), (3, .int v3), (4, .int v4), (5, .int v5), (6, .int v6)]) hC dX5_layRest_194 6 rfl rfl (by decide) rfl 197 rfl ?_
    refine q_goto hC 138 dX5_layRest_197 (by decide) ?_
    exact XX.sub [1, 2, 3, 4, 5, 6, 0] rfl (hK138 M v2 v3 v4 v5 v6 (v7 + 1) hw)
  have B138 : ∀ (K63 : MM → Int32 → Int32 → Prop) (hK63 : ∀ (M : MM) (v2 : Int32) (v3 : Int32) , K63 M v2 v3 → XX z g Qf 8 63 [(0, .ref (gA g 52)), (2, .int v2), (3, .int v3)] [] M) (K70 : MM → Int32 → Int32 → Int32 → Prop) (hK70 : ∀ (M : MM) (v2 : Int32) (v3 : Int32) (v4 : Int32) , K70 M v2 v3 v4 → XX z g Qf 8 70 [(0, .ref (gA g 52)), (2, .int v2), (3, .int v3), (4, .int v4)] [] M) (n : Nat) (M : MM) (v2 : Int32) (v3 : Int32) (v4 : Int32) (v5 : Int32) (v6 : Int32) (v7 : Int32) , wX5_layRest_138 Q K63 K70 v1 n M v2 v3 v4 v5 v6 v7 → XX z g Qf 8 138 [(0, .ref (gA g 52)), (2, .int v2), (3, .int v3), (4, .int v4), (5, .int v5), (6, .int v6), (7, .int v7)] [] M := by
    intro K63 hK63 K70 hK70 n
    induction n with
    | zero =>
      intro M v2 v3 v4 v5 v6 v7 hw
      exact hw.elim
    | succ n ih =>
      intro M v2 v3 v4 v5 v6 v7 hw
      refine q_iload hC dX5_layRest_138 6 rfl 140 rfl ?_
      refine q_aload_n hC dX5_layRest_140 0 rfl 141 rfl ?_
      refine q_getI (C := RX5) (T := TX5) (N := 26) (ci := 5) hC inX5_layRest_X5 (obF52 hF) rfl 20 (by decide) (uX5_layRest__o _ (List.mem_of_getElem? (l := owX5_layRest) (i := 1) rfl)) rfl (fun _ => rfl) dX5_layRest_141 144 rfl ?_
      refine q_icmp_ge hC 200 dX5_layRest_144 (by decide) 147 rfl hw (fun hw => ?_) (fun hw => ?_)
      · exact XX.sub [0, 1, 2, 3, 4] rfl (B200 _ hK63 _ hK70 M v2 v3 v4 v5 hw)
      · refine q_iload hC dX5_layRest_147 5 rfl 149 rfl ?_
        refine q_if_eq hC 200 dX5_layRest_149 (by decide) 152 rfl hw (fun hw => ?_) (fun hw => ?_)
        · exact XX.sub [0, 1, 2, 3, 4] rfl (B200 _ hK63 _ hK70 M v2 v3 v4 v5 hw)
        · refine q_iload_n hC dX5_layRest_152 2 rfl 153 rfl ?_
          refine q_iload hC dX5_layRest_153 6 rfl 155 rfl ?_
          refine q_ishr hC dX5_layRest_155 156 rfl ?_
          refine q_iconst (v := 1) hC dX5_layRest_156 rfl 157 rfl ?_
          refine q_iand hC dX5_layRest_157 158 rfl ?_
          refine q_if_ne hC 194 dX5_layRest_158 (by decide) 161 rfl hw (fun hw => ?_) (fun hw => ?_)
          · exact XX.sub [0, 1, 2, 3, 4, 5, 6] rfl (B194 _ hK63 _ hK70 _ (fun M v2 v3 v4 v5 v6 v7 hw => ih M v2 v3 v4 v5 v6 v7 hw) M v2 v3 v4 v5 v6 v7 hw)
          · refine q_iload hC dX5_layRest_161 4 rfl 163 rfl ?_
            refine q_aload_n hC dX5_layRest_163 0 rfl 164 rfl ?_
            refine q_iload hC dX5_layRest_164 3 rfl 166 rfl ?_
            refine q_iload hC dX5_layRest_166 6 rfl 168 rfl ?_
            refine r_callI hC (go_V (q := (RX5, TX5, 26)) (As := [.int v4, .int v7]) (rest := [.int v5]) hC (ctX5_takes (zl z) g M v4 v7 _ hF hw) 2 gX5_layRest_X5_takes rfl ⟨rfl, rfl⟩ hdV_X5_takes ⟨Nat.le_of_ble_eq_true rfl, Nat.le_of_ble_eq_true rfl⟩ (obF52 hF) rfl rfl rfl (Nat.le_of_ble_eq_true rfl) dX5_layRest_168) 171 rfl (fun r5 M6 hw => ?_)
            refine q_aload_n hC dX5_layRest_171 0 rfl 172 rfl ?_
            refine q_getR (C := RX5) (T := TX5) (N := 26) (ci := 5) hC inX5_layRest_X5 (obF52 hF) rfl 18 (by decide) (uX5_layRest__o _ (List.mem_of_getElem? (l := owX5_layRest) (i := 3) rfl)) rfl 62 (fun _ => rfl) dX5_layRest_172 175 rfl ?_
            refine q_bipush (v := 13) hC dX5_layRest_175 (by decide) 177 rfl ?_
            refine q_iload_n hC dX5_layRest_177 2 rfl 178 rfl ?_
            refine q_iconst (v := 1) hC dX5_layRest_178 rfl 179 rfl ?_
            refine q_iload hC dX5_layRest_179 6 rfl 181 rfl ?_
            refine q_ishl hC dX5_layRest_181 182 rfl ?_
            refine q_ior hC dX5_layRest_182 183 rfl ?_
            refine q_imul hC dX5_layRest_183 184 rfl ?_
            refine q_iload hC dX5_layRest_184 6 rfl 186 rfl ?_
            refine q_iadd hC dX5_layRest_186 187 rfl ?_
            obtain ⟨hin, hw⟩ := hw
            refine q_iald hC (arF62 hF) hin dX5_layRest_187 188 rfl ?_
            refine q_iadd hC dX5_layRest_188 189 rfl ?_
            refine r_callI hC (go_T (As := [.int v5, .int (r5 + (M6 62 (((13 : Int32) * (v3 ||| ((1 : Int32) <<< (v7 &&& 31)))) + v7).toNatClampNeg))]) (rest := []) hC (ctX5_less (zl z) g M6 v5 (r5 + (M6 62 (((13 : Int32) * (v3 ||| ((1 : Int32) <<< (v7 &&& 31)))) + v7).toNatClampNeg)) _ hw) 2 gX5_layRest_X5_less rfl ⟨rfl, rfl⟩ hdT_X5_less ⟨Nat.le_of_ble_eq_true rfl, Nat.le_of_ble_eq_true rfl⟩ rfl rfl (Nat.le_of_ble_eq_true rfl) dX5_layRest_189) 192 rfl (fun r7 M8 hw => ?_)
            refine q_istore (L' := [(5, .int r7), (0, .ref (gA g 52)), (2, .int v2), (3, .int v3), (4, .int v4), (6, .int v6), (7, .int v7)]) hC dX5_layRest_192 (by decide) rfl 194 rfl ?_
            exact XX.sub [1, 2, 3, 4, 0, 5, 6] rfl (B194 _ hK63 _ hK70 _ (fun M v2 v3 v4 v5 v6 v7 hw => ih M v2 v3 v4 v5 v6 v7 hw) M8 v2 v3 v4 r7 v6 v7 hw)
  have B133 : ∀ (K63 : MM → Int32 → Int32 → Prop) (hK63 : ∀ (M : MM) (v2 : Int32) (v3 : Int32) , K63 M v2 v3 → XX z g Qf 8 63 [(0, .ref (gA g 52)), (2, .int v2), (3, .int v3)] [] M) (K70 : MM → Int32 → Int32 → Int32 → Prop) (hK70 : ∀ (M : MM) (v2 : Int32) (v3 : Int32) (v4 : Int32) , K70 M v2 v3 v4 → XX z g Qf 8 70 [(0, .ref (gA g 52)), (2, .int v2), (3, .int v3), (4, .int v4)] [] M) (M : MM) (v2 : Int32) (v3 : Int32) (v4 : Int32) (v5 : Int32) (p0 : Int32), wX5_layRest_133 Q K63 K70 v1 M v2 v3 v4 v5 p0 → XX z g Qf 8 133 [(0, .ref (gA g 52)), (2, .int v2), (3, .int v3), (4, .int v4), (5, .int v5)] [.int p0] M := by
    intro K63 hK63 K70 hK70 M v2 v3 v4 v5 p0 hw
    refine q_istore (L' := [(6, .int p0), (0, .ref (gA g 52)), (2, .int v2), (3, .int v3), (4, .int v4), (5, .int v5)]) hC dX5_layRest_133 (by decide) rfl 135 rfl ?_
    refine q_iconst (v := 0) hC dX5_layRest_135 rfl 136 rfl ?_
    refine q_istore (L' := [(7, .int 0), (6, .int p0), (0, .ref (gA g 52)), (2, .int v2), (3, .int v3), (4, .int v4), (5, .int v5)]) hC dX5_layRest_136 (by decide) rfl 138 rfl ?_
    obtain ⟨n0, hw⟩ := hw
    exact XX.sub [2, 3, 4, 5, 6, 1, 0] rfl (B138 _ hK63 _ hK70 n0 M v2 v3 v4 v5 p0 0 hw)
  have B132 : ∀ (K63 : MM → Int32 → Int32 → Prop) (hK63 : ∀ (M : MM) (v2 : Int32) (v3 : Int32) , K63 M v2 v3 → XX z g Qf 8 63 [(0, .ref (gA g 52)), (2, .int v2), (3, .int v3)] [] M) (K70 : MM → Int32 → Int32 → Int32 → Prop) (hK70 : ∀ (M : MM) (v2 : Int32) (v3 : Int32) (v4 : Int32) , K70 M v2 v3 v4 → XX z g Qf 8 70 [(0, .ref (gA g 52)), (2, .int v2), (3, .int v3), (4, .int v4)] [] M) (M : MM) (v2 : Int32) (v3 : Int32) (v4 : Int32) (v5 : Int32), wX5_layRest_132 Q K63 K70 v1 M v2 v3 v4 v5 → XX z g Qf 8 132 [(0, .ref (gA g 52)), (2, .int v2), (3, .int v3), (4, .int v4), (5, .int v5)] [] M := by
    intro K63 hK63 K70 hK70 M v2 v3 v4 v5 hw
    refine q_iconst (v := 0) hC dX5_layRest_132 rfl 133 rfl ?_
    exact XX.sub [0, 1, 2, 3, 4] rfl (B133 _ hK63 _ hK70 M v2 v3 v4 v5 0 hw)
  have B88 : ∀ (K63 : MM → Int32 → Int32 → Prop) (hK63 : ∀ (M : MM) (v2 : Int32) (v3 : Int32) , K63 M v2 v3 → XX z g Qf 8 63 [(0, .ref (gA g 52)), (2, .int v2), (3, .int v3)] [] M) (K70 : MM → Int32 → Int32 → Int32 → Prop) (hK70 : ∀ (M : MM) (v2 : Int32) (v3 : Int32) (v4 : Int32) , K70 M v2 v3 v4 → XX z g Qf 8 70 [(0, .ref (gA g 52)), (2, .int v2), (3, .int v3), (4, .int v4)] [] M) (M : MM) (v2 : Int32) (v3 : Int32) (v4 : Int32) (p0 : Int32), wX5_layRest_88 Q K63 K70 v1 M v2 v3 v4 p0 → XX z g Qf 8 88 [(0, .ref (gA g 52)), (2, .int v2), (3, .int v3), (4, .int v4)] [.int p0] M := by
    intro K63 hK63 K70 hK70 M v2 v3 v4 p0 hw
    refine q_istore (L' := [(5, .int p0), (0, .ref (gA g 52)), (2, .int v2), (3, .int v3), (4, .int v4)]) hC dX5_layRest_88 (by decide) rfl 90 rfl ?_
    refine q_iload hC dX5_layRest_90 4 rfl 92 rfl ?_
    refine q_bipush (v := 8) hC dX5_layRest_92 (by decide) 94 rfl ?_
    refine q_icmp_ne hC 109 dX5_layRest_94 (by decide) 97 rfl hw (fun hw => ?_) (fun hw => ?_)
    · refine q_iload hC dX5_layRest_109 4 rfl 111 rfl ?_
      refine q_aload_n hC dX5_layRest_111 1 rfl 112 rfl ?_
      refine q_getI (C := RX5) (T := TX5) (N := 26) (ci := 5) hC inX5_layRest_X5 (obF52 hF) rfl 20 (by decide) (uX5_layRest__o _ (List.mem_of_getElem? (l := owX5_layRest) (i := 1) rfl)) rfl (fun _ => rfl) dX5_layRest_112 115 rfl ?_
      refine q_icmp_ge hC 132 dX5_layRest_115 (by decide) 118 rfl hw (fun hw => ?_) (fun hw => ?_)
      · exact XX.sub [1, 2, 3, 4, 0] rfl (B132 _ hK63 _ hK70 M v2 v3 v4 p0 hw)
      · refine q_iload_n hC dX5_layRest_118 3 rfl 119 rfl ?_
        refine q_iload hC dX5_layRest_119 4 rfl 121 rfl ?_
        refine q_ishr hC dX5_layRest_121 122 rfl ?_
        refine q_iconst (v := 1) hC dX5_layRest_122 rfl 123 rfl ?_
        refine q_iand hC dX5_layRest_123 124 rfl ?_
        refine q_iconst (v := 1) hC dX5_layRest_124 rfl 125 rfl ?_
        refine q_icmp_ne hC 132 dX5_layRest_125 (by decide) 128 rfl hw (fun hw => ?_) (fun hw => ?_)
        · exact XX.sub [1, 2, 3, 4, 0] rfl (B132 _ hK63 _ hK70 M v2 v3 v4 p0 hw)
        · refine q_iconst (v := 1) hC dX5_layRest_128 rfl 129 rfl ?_
          refine q_goto hC 133 dX5_layRest_129 (by decide) ?_
          exact XX.sub [1, 2, 3, 4, 0] rfl (B133 _ hK63 _ hK70 M v2 v3 v4 p0 1 hw)
    · refine q_iload_n hC dX5_layRest_97 3 rfl 98 rfl ?_
      refine q_if_ne hC 105 dX5_layRest_98 (by decide) 101 rfl hw (fun hw => ?_) (fun hw => ?_)
      · refine q_iconst (v := 0) hC dX5_layRest_105 rfl 106 rfl ?_
        refine q_goto hC 133 dX5_layRest_106 (by decide) ?_
        exact XX.sub [1, 2, 3, 4, 0] rfl (B133 _ hK63 _ hK70 M v2 v3 v4 p0 0 hw)
      · refine q_iconst (v := 1) hC dX5_layRest_101 rfl 102 rfl ?_
        refine q_goto hC 133 dX5_layRest_102 (by decide) ?_
        exact XX.sub [1, 2, 3, 4, 0] rfl (B133 _ hK63 _ hK70 M v2 v3 v4 p0 1 hw)
  have B70 : ∀ (K63 : MM → Int32 → Int32 → Prop) (hK63 : ∀ (M : MM) (v2 : Int32) (v3 : Int32) , K63 M v2 v3 → XX z g Qf 8 63 [(0, .ref (gA g 52)), (2, .int v2), (3, .int v3)] [] M) (n : Nat) (M : MM) (v2 : Int32) (v3 : Int32) (v4 : Int32) , wX5_layRest_70 Q K63 v1 n M v2 v3 v4 → XX z g Qf 8 70 [(0, .ref (gA g 52)), (2, .int v2), (3, .int v3), (4, .int v4)] [] M := by
    intro K63 hK63 n
    induction n with
    | zero =>
      intro M v2 v3 v4 hw
      exact hw.elim
    | succ n ih =>
      intro M v2 v3 v4 hw
      refine q_iload hC dX5_layRest_70 3 rfl 72 rfl ?_
      refine q_bipush (v := 9) hC dX5_layRest_72 (by decide) 74 rfl ?_
      refine q_icmp_ge hC 220 dX5_layRest_74 (by decide) 77 rfl hw (fun hw => ?_) (fun hw => ?_)
      · refine q_iinc (v := v3 + (-1)) (L' := [(3, .int (v3 + (-1))), (0, .ref (gA g 52)), (2, .int v2), (4, .int v4)]) hC dX5_layRest_220 2 rfl rfl (by decide) rfl 223 rfl ?_
        refine q_goto hC 63 dX5_layRest_223 (by decide) ?_
        exact XX.sub [1, 2, 0] rfl (hK63 M v2 (v3 + (-1)) hw)
      · refine q_iload_n hC dX5_layRest_77 2 rfl 78 rfl ?_
        refine q_iload_n hC dX5_layRest_78 1 rfl 79 rfl ?_
        refine q_icmp_ne hC 86 dX5_layRest_79 (by decide) 82 rfl hw (fun hw => ?_) (fun hw => ?_)
        · refine q_ldc (v := 2000000000) hC (uX5_layRest__o _ (List.mem_of_getElem? (l := owX5_layRest) (i := 2) rfl)) dX5_layRest_86 88 rfl ?_
          exact XX.sub [0, 1, 2, 3] rfl (B88 _ hK63 _ (fun M v2 v3 v4 hw => ih M v2 v3 v4 hw) M v2 v3 v4 2000000000 hw)
        · refine q_iconst (v := 0) hC dX5_layRest_82 rfl 83 rfl ?_
          refine q_goto hC 88 dX5_layRest_83 (by decide) ?_
          exact XX.sub [0, 1, 2, 3] rfl (B88 _ hK63 _ (fun M v2 v3 v4 hw => ih M v2 v3 v4 hw) M v2 v3 v4 0 hw)
  have B63 : ∀ (n : Nat) (M : MM) (v2 : Int32) (v3 : Int32) , wX5_layRest_63 Q v1 n M v2 v3 → XX z g Qf 8 63 [(0, .ref (gA g 52)), (2, .int v2), (3, .int v3)] [] M := by
    intro n
    induction n with
    | zero =>
      intro M v2 v3 hw
      exact hw.elim
    | succ n ih =>
      intro M v2 v3 hw
      refine q_iload_n hC dX5_layRest_63 2 rfl 64 rfl ?_
      refine q_if_lt hC 226 dX5_layRest_64 (by decide) 67 rfl hw (fun hw => ?_) (fun hw => ?_)
      · exact r_vret hR dX5_layRest_226 hw
      · refine q_iconst (v := 0) hC dX5_layRest_67 rfl 68 rfl ?_
        refine q_istore (L' := [(4, .int 0), (0, .ref (gA g 52)), (2, .int v2), (3, .int v3)]) hC dX5_layRest_68 (by decide) rfl 70 rfl ?_
        obtain ⟨n0, hw⟩ := hw
        exact XX.sub [1, 2, 3, 0] rfl (B70 _ (fun M v2 v3 hw => ih M v2 v3 hw) n0 M v2 v3 0 hw)
  have B46 : ∀ (K7 : MM → Int32 → Prop) (hK7 : ∀ (M : MM) (v2 : Int32) , K7 M v2 → XX z g Qf 8 7 [(0, .ref (gA g 52)), (1, .int v1), (2, .int v2)] [] M) (M : MM) (v2 : Int32), wX5_layRest_46 Q K7 v1 M v2 → XX z g Qf 8 46 [(0, .ref (gA g 52)), (1, .int v1), (2, .int v2)] [] M := by
    intro K7 hK7 M v2 hw
    refine q_iinc (v := v2 + 1) (L' := [(2, .int (v2 + 1)), (0, .ref (gA g 52)), (1, .int v1)]) hC dX5_layRest_46 2 rfl rfl (by decide) rfl 49 rfl ?_
    refine q_goto hC 7 dX5_layRest_49 (by decide) ?_
    exact XX.sub [1, 2, 0] rfl (hK7 M (v2 + 1) hw)
  have B7 : ∀ (n : Nat) (M : MM) (v2 : Int32) , wX5_layRest_7 Q v1 n M v2 → XX z g Qf 8 7 [(0, .ref (gA g 52)), (1, .int v1), (2, .int v2)] [] M := by
    intro n
    induction n with
    | zero =>
      intro M v2 hw
      exact hw.elim
    | succ n ih =>
      intro M v2 hw
      refine q_iload_n hC dX5_layRest_7 2 rfl 8 rfl ?_
      refine q_aload_n hC dX5_layRest_8 0 rfl 9 rfl ?_
      refine q_getR (C := RX5) (T := TX5) (N := 26) (ci := 5) hC inX5_layRest_X5 (obF52 hF) rfl 0 (by decide) (uX5_layRest__X5_endOf _ (List.mem_of_getElem? (l := owX5_endOf) (i := 1) rfl)) rfl 53 (fun _ => rfl) dX5_layRest_9 12 rfl ?_
      refine q_iconst (v := 0) hC dX5_layRest_12 rfl 13 rfl ?_
      refine q_ialdL hC (arF53 hF) 0 (by decide +kernel) (by decide +kernel) dX5_layRest_13 14 rfl ?_
      refine q_icmp_ge hC 52 dX5_layRest_14 (by decide) 17 rfl hw (fun hw => ?_) (fun hw => ?_)
      · refine q_iconst (v := 1) hC dX5_layRest_52 rfl 53 rfl ?_
        refine q_aload_n hC dX5_layRest_53 0 rfl 54 rfl ?_
        refine q_getI (C := RX5) (T := TX5) (N := 26) (ci := 5) hC inX5_layRest_X5 (obF52 hF) rfl 20 (by decide) (uX5_layRest__o _ (List.mem_of_getElem? (l := owX5_layRest) (i := 1) rfl)) rfl (fun _ => rfl) dX5_layRest_54 57 rfl ?_
        refine q_ishl hC dX5_layRest_57 58 rfl ?_
        refine q_iconst (v := 1) hC dX5_layRest_58 rfl 59 rfl ?_
        refine q_isub hC dX5_layRest_59 60 rfl ?_
        refine q_nameI (fun x2 ex2 => ?_)
        have hw := hw x2 ex2
        refine q_istore_n (L' := [(2, .int x2), (0, .ref (gA g 52)), (1, .int v1)]) hC dX5_layRest_60 (by decide) rfl 61 rfl ?_
        refine q_iload_n hC dX5_layRest_61 0 rfl 62 rfl ?_
        refine q_istore_n (L' := [(3, .int x2), (2, .int x2), (0, .ref (gA g 52)), (1, .int v1)]) hC dX5_layRest_62 (by decide) rfl 63 rfl ?_
        obtain ⟨n0, hw⟩ := hw
        exact XX.sub [2, 1, 0] rfl (B63 n0 M x2 x2 hw)
      · refine q_iload_n hC dX5_layRest_17 1 rfl 18 rfl ?_
        refine q_iload_n hC dX5_layRest_18 2 rfl 19 rfl ?_
        refine q_ishr hC dX5_layRest_19 20 rfl ?_
        refine q_iconst (v := 1) hC dX5_layRest_20 rfl 21 rfl ?_
        refine q_iand hC dX5_layRest_21 22 rfl ?_
        refine q_iconst (v := 1) hC dX5_layRest_22 rfl 23 rfl ?_
        refine q_icmp_ne hC 46 dX5_layRest_23 (by decide) 26 rfl hw (fun hw => ?_) (fun hw => ?_)
        · exact XX.sub [0, 1, 2] rfl (B46 _ (fun M v2 hw => ih M v2 hw) M v2 hw)
        · refine q_aload_n hC dX5_layRest_26 0 rfl 27 rfl ?_
          refine q_getR (C := RX5) (T := TX5) (N := 26) (ci := 5) hC inX5_layRest_X5 (obF52 hF) rfl 19 (by decide) (uX5_layRest__X5_takes _ (List.mem_of_getElem? (l := owX5_takes) (i := 1) rfl)) rfl 63 (fun _ => rfl) dX5_layRest_27 30 rfl ?_
          refine q_aload_n hC dX5_layRest_30 0 rfl 31 rfl ?_
          refine q_getI (C := RX5) (T := TX5) (N := 26) (ci := 5) hC inX5_layRest_X5 (obF52 hF) rfl 20 (by decide) (uX5_layRest__o _ (List.mem_of_getElem? (l := owX5_layRest) (i := 1) rfl)) rfl (fun _ => rfl) dX5_layRest_31 34 rfl ?_
          refine q_iload_n hC dX5_layRest_34 2 rfl 35 rfl ?_
          obtain ⟨hin, hw⟩ := hw
          refine q_iast hC (arF63 hF) hin dX5_layRest_35 36 rfl (fun M3 eM3 => ?_)
          have hw := hw M3 eM3
          refine q_aload_n hC dX5_layRest_36 0 rfl 37 rfl ?_
          refine q_dup hC dX5_layRest_37 rfl 38 rfl ?_
          refine q_getI (C := RX5) (T := TX5) (N := 26) (ci := 5) hC inX5_layRest_X5 (obF52 hF) rfl 20 (by decide) (uX5_layRest__o _ (List.mem_of_getElem? (l := owX5_layRest) (i := 1) rfl)) rfl (fun _ => rfl) dX5_layRest_38 41 rfl ?_
          refine q_iconst (v := 1) hC dX5_layRest_41 rfl 42 rfl ?_
          refine q_iadd hC dX5_layRest_42 43 rfl ?_
          refine q_putI (C := RX5) (T := TX5) (N := 26) (ci := 5) hC inX5_layRest_X5 tyX5 tyX5_ok nmX5 (obF52 hF) rfl 20 (by decide) (uX5_layRest__o _ (List.mem_of_getElem? (l := owX5_layRest) (i := 1) rfl)) rfl rfl rfl (fun _ => Nat.le_of_ble_eq_true rfl) (fun _ => rfl) dX5_layRest_43 46 rfl (fun M4 eM4 => ?_)
          have hw := hw M4 eM4
          exact XX.sub [0, 1, 2] rfl (B46 _ (fun M v2 hw => ih M v2 hw) M4 v2 hw)
  refine q_aload_n hC dX5_layRest_0 0 rfl 1 rfl ?_
  refine q_iconst (v := 0) hC dX5_layRest_1 rfl 2 rfl ?_
  refine q_putI (C := RX5) (T := TX5) (N := 26) (ci := 5) hC inX5_layRest_X5 tyX5 tyX5_ok nmX5 (obF52 hF) rfl 20 (by decide) (uX5_layRest__o _ (List.mem_of_getElem? (l := owX5_layRest) (i := 1) rfl)) rfl rfl rfl (fun _ => Nat.le_of_ble_eq_true rfl) (fun _ => rfl) dX5_layRest_2 5 rfl (fun M1 eM1 => ?_)
  have hw := hw M1 eM1
  refine q_iconst (v := 0) hC dX5_layRest_5 rfl 6 rfl ?_
  refine q_istore_n (L' := [(2, .int 0), (0, .ref (gA g 52)), (1, .int v1)]) hC dX5_layRest_6 (by decide) rfl 7 rfl ?_
  obtain ⟨n0, hw⟩ := hw
  exact XX.sub [1, 2, 0] rfl (B7 n0 M1 0 hw)
theorem inX5_follows_X5 : ∀ w ∈ u_ws RX5 TX5 26, w ∈ wsX5_follows := uX5_follows__wsX50
set_option maxRecDepth 100000 in
set_option maxHeartbeats 4000000 in
theorem ctX5_follows (l : Launch) (g : GG) (M : MM) (v1 : Int32) (v2 : Int32) (Q : Int32 → MM → Prop) (hF : ful5 g) (hw : wX5_follows Q M v1 v2) : MI g l yX5_follows wsX5_follows (rmOf 5 113) [.ref (gA g 52), .int v1, .int v2] M Q := by
  refine mk_MI (cc := cX5_follows) (maxL := 6) (by decide) rfl (Nat.le_of_ble_eq_true rfl) ?_
  intro z Qf hC hR
  show XX z g Qf 6 0 [(0, .ref (gA g 52)), (1, .int v1), (2, .int v2)] [] M
  have B82 : ∀ (K11 : MM → Int32 → Int32 → Prop) (hK11 : ∀ (M : MM) (v3 : Int32) (v4 : Int32) , K11 M v3 v4 → XX z g Qf 6 11 [(0, .ref (gA g 52)), (1, .int v1), (2, .int v2), (3, .int v3), (4, .int v4)] [] M) (M : MM) (v4 : Int32) (p0 : Int32), wX5_follows_82 Q K11 v1 v2 M v4 p0 → XX z g Qf 6 82 [(0, .ref (gA g 52)), (1, .int v1), (2, .int v2), (4, .int v4)] [.int p0] M := by
    intro K11 hK11 M v4 p0 hw
    refine q_istore_n (L' := [(3, .int p0), (0, .ref (gA g 52)), (1, .int v1), (2, .int v2), (4, .int v4)]) hC dX5_follows_82 (by decide) rfl 83 rfl ?_
    refine q_iinc (v := v4 + (-1)) (L' := [(4, .int (v4 + (-1))), (3, .int p0), (0, .ref (gA g 52)), (1, .int v1), (2, .int v2)]) hC dX5_follows_83 4 rfl rfl (by decide) rfl 86 rfl ?_
    refine q_goto hC 11 dX5_follows_86 (by decide) ?_
    exact XX.sub [2, 3, 4, 1, 0] rfl (hK11 M p0 (v4 + (-1)) hw)
  have B69 : ∀ (K11 : MM → Int32 → Int32 → Prop) (hK11 : ∀ (M : MM) (v3 : Int32) (v4 : Int32) , K11 M v3 v4 → XX z g Qf 6 11 [(0, .ref (gA g 52)), (1, .int v1), (2, .int v2), (3, .int v3), (4, .int v4)] [] M) (M : MM) (v3 : Int32) (v4 : Int32) (p0 : Int32), wX5_follows_69 Q K11 v1 v2 M v3 v4 p0 → XX z g Qf 6 69 [(0, .ref (gA g 52)), (1, .int v1), (2, .int v2), (3, .int v3), (4, .int v4)] [.int p0] M := by
    intro K11 hK11 M v3 v4 p0 hw
    refine q_istore (L' := [(5, .int p0), (0, .ref (gA g 52)), (1, .int v1), (2, .int v2), (3, .int v3), (4, .int v4)]) hC dX5_follows_69 (by decide) rfl 71 rfl ?_
    refine q_iload hC dX5_follows_71 0 rfl 73 rfl ?_
    refine q_if_eq hC 81 dX5_follows_73 (by decide) 76 rfl hw (fun hw => ?_) (fun hw => ?_)
    · refine q_iload_n hC dX5_follows_81 4 rfl 82 rfl ?_
      exact XX.sub [1, 2, 3, 5] rfl (B82 _ hK11 M v4 v3 hw)
    · refine q_iload hC dX5_follows_76 5 rfl 78 rfl ?_
      refine q_goto hC 82 dX5_follows_78 (by decide) ?_
      exact XX.sub [1, 2, 3, 5] rfl (B82 _ hK11 M v4 v4 hw)
  have B68 : ∀ (K11 : MM → Int32 → Int32 → Prop) (hK11 : ∀ (M : MM) (v3 : Int32) (v4 : Int32) , K11 M v3 v4 → XX z g Qf 6 11 [(0, .ref (gA g 52)), (1, .int v1), (2, .int v2), (3, .int v3), (4, .int v4)] [] M) (M : MM) (v3 : Int32) (v4 : Int32), wX5_follows_68 Q K11 v1 v2 M v3 v4 → XX z g Qf 6 68 [(0, .ref (gA g 52)), (1, .int v1), (2, .int v2), (3, .int v3), (4, .int v4)] [] M := by
    intro K11 hK11 M v3 v4 hw
    refine q_iconst (v := 0) hC dX5_follows_68 rfl 69 rfl ?_
    exact XX.sub [0, 1, 2, 3, 4] rfl (B69 _ hK11 M v3 v4 0 hw)
  have B11 : ∀ (n : Nat) (M : MM) (v3 : Int32) (v4 : Int32) , wX5_follows_11 Q v1 v2 n M v3 v4 → XX z g Qf 6 11 [(0, .ref (gA g 52)), (1, .int v1), (2, .int v2), (3, .int v3), (4, .int v4)] [] M := by
    intro n
    induction n with
    | zero =>
      intro M v3 v4 hw
      exact hw.elim
    | succ n ih =>
      intro M v3 v4 hw
      refine q_iload hC dX5_follows_11 4 rfl 13 rfl ?_
      refine q_if_lt hC 89 dX5_follows_13 (by decide) 16 rfl hw (fun hw => ?_) (fun hw => ?_)
      · refine q_iload_n hC dX5_follows_89 3 rfl 90 rfl ?_
        exact r_iret hR dX5_follows_90 hw
      · refine q_iload_n hC dX5_follows_16 1 rfl 17 rfl ?_
        refine q_iload hC dX5_follows_17 4 rfl 19 rfl ?_
        refine q_ishr hC dX5_follows_19 20 rfl ?_
        refine q_iconst (v := 1) hC dX5_follows_20 rfl 21 rfl ?_
        refine q_iand hC dX5_follows_21 22 rfl ?_
        refine q_if_ne hC 68 dX5_follows_22 (by decide) 25 rfl hw (fun hw => ?_) (fun hw => ?_)
        · exact XX.sub [0, 1, 2, 3, 4] rfl (B68 _ (fun M v3 v4 hw => ih M v3 v4 hw) M v3 v4 hw)
        · refine q_aload_n hC dX5_follows_25 0 rfl 26 rfl ?_
          refine q_iload_n hC dX5_follows_26 2 rfl 27 rfl ?_
          refine q_iload hC dX5_follows_27 4 rfl 29 rfl ?_
          refine r_callI hC (go_V (q := (RX5, TX5, 26)) (As := [.int v2, .int v4]) (rest := []) hC (ctX5_takes (zl z) g M v2 v4 _ hF hw) 2 gX5_follows_X5_takes rfl ⟨rfl, rfl⟩ hdV_X5_takes ⟨Nat.le_of_ble_eq_true rfl, Nat.le_of_ble_eq_true rfl⟩ (obF52 hF) rfl rfl rfl (Nat.le_of_ble_eq_true rfl) dX5_follows_29) 32 rfl (fun r2 M3 hw => ?_)
          refine q_aload_n hC dX5_follows_32 0 rfl 33 rfl ?_
          refine q_getR (C := RX5) (T := TX5) (N := 26) (ci := 5) hC inX5_follows_X5 (obF52 hF) rfl 18 (by decide) (uX5_follows__o _ (List.mem_of_getElem? (l := owX5_follows) (i := 2) rfl)) rfl 62 (fun _ => rfl) dX5_follows_33 36 rfl ?_
          refine q_bipush (v := 13) hC dX5_follows_36 (by decide) 38 rfl ?_
          refine q_iload_n hC dX5_follows_38 1 rfl 39 rfl ?_
          refine q_iconst (v := 1) hC dX5_follows_39 rfl 40 rfl ?_
          refine q_iload hC dX5_follows_40 4 rfl 42 rfl ?_
          refine q_ishl hC dX5_follows_42 43 rfl ?_
          refine q_ior hC dX5_follows_43 44 rfl ?_
          refine q_imul hC dX5_follows_44 45 rfl ?_
          refine q_iload hC dX5_follows_45 4 rfl 47 rfl ?_
          refine q_iadd hC dX5_follows_47 48 rfl ?_
          obtain ⟨hin, hw⟩ := hw
          refine q_iald hC (arF62 hF) hin dX5_follows_48 49 rfl ?_
          refine q_iadd hC dX5_follows_49 50 rfl ?_
          refine q_aload_n hC dX5_follows_50 0 rfl 51 rfl ?_
          refine q_getR (C := RX5) (T := TX5) (N := 26) (ci := 5) hC inX5_follows_X5 (obF52 hF) rfl 18 (by decide) (uX5_follows__o _ (List.mem_of_getElem? (l := owX5_follows) (i := 2) rfl)) rfl 62 (fun _ => rfl) dX5_follows_51 54 rfl ?_
          refine q_bipush (v := 13) hC dX5_follows_54 (by decide) 56 rfl ?_
          refine q_iload_n hC dX5_follows_56 1 rfl 57 rfl ?_
          refine q_imul hC dX5_follows_57 58 rfl ?_
          refine q_iload_n hC dX5_follows_58 2 rfl 59 rfl ?_
          refine q_iadd hC dX5_follows_59 60 rfl ?_
          obtain ⟨hin, hw⟩ := hw
          refine q_iald hC (arF62 hF) hin dX5_follows_60 61 rfl ?_
          refine q_icmp_ne hC 68 dX5_follows_61 (by decide) 64 rfl hw (fun hw => ?_) (fun hw => ?_)
          · exact XX.sub [0, 1, 2, 3, 4] rfl (B68 _ (fun M v3 v4 hw => ih M v3 v4 hw) M3 v3 v4 hw)
          · refine q_iconst (v := 1) hC dX5_follows_64 rfl 65 rfl ?_
            refine q_goto hC 69 dX5_follows_65 (by decide) ?_
            exact XX.sub [0, 1, 2, 3, 4] rfl (B69 _ (fun M v3 v4 hw => ih M v3 v4 hw) M3 v3 v4 1 hw)
  refine q_bipush (v := (-4)) hC dX5_follows_0 (by decide) 2 rfl ?_
  refine q_istore_n (L' := [(3, .int (-4)), (0, .ref (gA g 52)), (1, .int v1), (2, .int v2)]) hC dX5_follows_2 (by decide) rfl 3 rfl ?_
  refine q_aload_n hC dX5_follows_3 1 rfl 4 rfl ?_
  refine q_getI (C := RX5) (T := TX5) (N := 26) (ci := 5) hC inX5_follows_X5 (obF52 hF) rfl 20 (by decide) (uX5_follows__o _ (List.mem_of_getElem? (l := owX5_follows) (i := 1) rfl)) rfl (fun _ => rfl) dX5_follows_4 7 rfl ?_
  refine q_iconst (v := 1) hC dX5_follows_7 rfl 8 rfl ?_
  refine q_isub hC dX5_follows_8 9 rfl ?_
  refine q_nameI (fun x1 ex1 => ?_)
  have hw := hw x1 ex1
  refine q_istore (L' := [(4, .int x1), (3, .int (-4)), (0, .ref (gA g 52)), (1, .int v1), (2, .int v2)]) hC dX5_follows_9 (by decide) rfl 11 rfl ?_
  obtain ⟨n0, hw⟩ := hw
  exact XX.sub [2, 3, 4, 1, 0] rfl (B11 n0 M (-4) x1 hw)
theorem hdV_X5_follows : yX5_follows.cls = RX5 ∧ yX5_follows.cls ≠ "java/lang/invoke/MethodHandle" ∧ yX5_follows.cls ≠ "java/lang/invoke/VarHandle" ∧ (parseMethodDescriptor yX5_follows.desc).map (fun d => d.parameters.length) = some 2 := by decide +kernel
theorem inX5_nthOf_X5 : ∀ w ∈ u_ws RX5 TX5 26, w ∈ wsX5_nthOf := uX5_nthOf__wsX50
set_option maxRecDepth 100000 in
set_option maxHeartbeats 4000000 in
theorem ctX5_nthOf (l : Launch) (g : GG) (M : MM) (v1 : Int32) (Q : Int32 → MM → Prop) (hF : ful5 g) (hw : wX5_nthOf Q M v1) : MI g l yX5_nthOf wsX5_nthOf (rmOf 6 138) [.ref (gA g 52), .int v1] M Q := by
  refine mk_MI (cc := cX5_nthOf) (maxL := 5) (by decide) rfl (Nat.le_of_ble_eq_true rfl) ?_
  intro z Qf hC hR
  show XX z g Qf 5 0 [(0, .ref (gA g 52)), (1, .int v1)] [] M
  have B8 : ∀ (n : Nat) (M : MM) (v2 : Int32) (v3 : Int32) (v4 : Int32) , wX5_nthOf_8 Q v1 n M v2 v3 v4 → XX z g Qf 5 8 [(0, .ref (gA g 52)), (1, .int v1), (2, .int v2), (3, .int v3), (4, .int v4)] [] M := by
    intro n
    induction n with
    | zero =>
      intro M v2 v3 v4 hw
      exact hw.elim
    | succ n ih =>
      intro M v2 v3 v4 hw
      refine q_iload hC dX5_nthOf_8 4 rfl 10 rfl ?_
      refine q_iload_n hC dX5_nthOf_10 1 rfl 11 rfl ?_
      refine q_icmp_gt hC 33 dX5_nthOf_11 (by decide) 14 rfl hw (fun hw => ?_) (fun hw => ?_)
      · refine q_aload_n hC dX5_nthOf_33 0 rfl 34 rfl ?_
        refine q_getR (C := RX5) (T := TX5) (N := 26) (ci := 5) hC inX5_nthOf_X5 (obF52 hF) rfl 19 (by decide) (uX5_nthOf__X5_takes _ (List.mem_of_getElem? (l := owX5_takes) (i := 1) rfl)) rfl 63 (fun _ => rfl) dX5_nthOf_34 37 rfl ?_
        refine q_iload_n hC dX5_nthOf_37 3 rfl 38 rfl ?_
        obtain ⟨hin, hw⟩ := hw
        refine q_iald hC (arF63 hF) hin dX5_nthOf_38 39 rfl ?_
        exact r_iret hR dX5_nthOf_39 hw
      · refine q_aload_n hC dX5_nthOf_14 0 rfl 15 rfl ?_
        refine q_iload_n hC dX5_nthOf_15 2 rfl 16 rfl ?_
        refine q_iload_n hC dX5_nthOf_16 3 rfl 17 rfl ?_
        refine r_callI hC (go_V (q := (RX5, TX5, 26)) (As := [.int v2, .int v3]) (rest := []) hC (ctX5_follows (zl z) g M v2 v3 _ hF hw) 2 gX5_nthOf_X5_follows rfl ⟨rfl, rfl⟩ hdV_X5_follows ⟨Nat.le_of_ble_eq_true rfl, Nat.le_of_ble_eq_true rfl⟩ (obF52 hF) rfl rfl rfl (Nat.le_of_ble_eq_true rfl) dX5_nthOf_17) 20 rfl (fun r1 M2 hw => ?_)
        refine q_istore_n (L' := [(3, .int r1), (0, .ref (gA g 52)), (1, .int v1), (2, .int v2), (4, .int v4)]) hC dX5_nthOf_20 (by decide) rfl 21 rfl ?_
        refine q_iload_n hC dX5_nthOf_21 3 rfl 22 rfl ?_
        refine q_iconst (v := 1) hC dX5_nthOf_22 rfl 23 rfl ?_
        refine q_iload_n hC dX5_nthOf_23 0 rfl 24 rfl ?_
        refine q_ishl hC dX5_nthOf_24 25 rfl ?_
        refine q_ior hC dX5_nthOf_25 26 rfl ?_
        refine q_nameI (fun x3 ex3 => ?_)
        have hw := hw x3 ex3
        refine q_istore_n (L' := [(2, .int x3), (3, .int r1), (0, .ref (gA g 52)), (1, .int v1), (4, .int v4)]) hC dX5_nthOf_26 (by decide) rfl 27 rfl ?_
        refine q_iinc (v := v4 + 1) (L' := [(4, .int (v4 + 1)), (2, .int x3), (3, .int r1), (0, .ref (gA g 52)), (1, .int v1)]) hC dX5_nthOf_27 4 rfl rfl (by decide) rfl 30 rfl ?_
        refine q_goto hC 8 dX5_nthOf_30 (by decide) ?_
        exact XX.sub [3, 4, 1, 2, 0] rfl (ih M2 x3 r1 (v4 + 1) hw)
  refine q_iconst (v := 0) hC dX5_nthOf_0 rfl 1 rfl ?_
  refine q_istore_n (L' := [(2, .int 0), (0, .ref (gA g 52)), (1, .int v1)]) hC dX5_nthOf_1 (by decide) rfl 2 rfl ?_
  refine q_bipush (v := 8) hC dX5_nthOf_2 (by decide) 4 rfl ?_
  refine q_istore_n (L' := [(3, .int 8), (2, .int 0), (0, .ref (gA g 52)), (1, .int v1)]) hC dX5_nthOf_4 (by decide) rfl 5 rfl ?_
  refine q_iconst (v := 0) hC dX5_nthOf_5 rfl 6 rfl ?_
  refine q_istore (L' := [(4, .int 0), (3, .int 8), (2, .int 0), (0, .ref (gA g 52)), (1, .int v1)]) hC dX5_nthOf_6 (by decide) rfl 8 rfl ?_
  obtain ⟨n0, hw⟩ := hw
  exact XX.sub [3, 4, 2, 1, 0] rfl (B8 n0 M 0 8 0 hw)
theorem hdV_X5_areBlocks : yX5_areBlocks.cls = RX5 ∧ yX5_areBlocks.cls ≠ "java/lang/invoke/MethodHandle" ∧ yX5_areBlocks.cls ≠ "java/lang/invoke/VarHandle" ∧ (parseMethodDescriptor yX5_areBlocks.desc).map (fun d => d.parameters.length) = some 1 := by decide +kernel
theorem hdT_X5_countOf : yX5_countOf.cls ≠ "java/lang/invoke/MethodHandle" ∧ yX5_countOf.cls ≠ "java/lang/invoke/VarHandle" ∧ (parseMethodDescriptor yX5_countOf.desc).map (fun d => d.parameters.length) = some 1 := by decide +kernel
theorem hdV_X5_layRest : yX5_layRest.cls = RX5 ∧ yX5_layRest.cls ≠ "java/lang/invoke/MethodHandle" ∧ yX5_layRest.cls ≠ "java/lang/invoke/VarHandle" ∧ (parseMethodDescriptor yX5_layRest.desc).map (fun d => d.parameters.length) = some 1 := by decide +kernel
theorem hdV_X5_nthOf : yX5_nthOf.cls = RX5 ∧ yX5_nthOf.cls ≠ "java/lang/invoke/MethodHandle" ∧ yX5_nthOf.cls ≠ "java/lang/invoke/VarHandle" ∧ (parseMethodDescriptor yX5_nthOf.desc).map (fun d => d.parameters.length) = some 1 := by decide +kernel
theorem inX5_order_X5 : ∀ w ∈ u_ws RX5 TX5 26, w ∈ wsX5_order := uX5_order__wsX50
set_option maxRecDepth 100000 in
set_option maxHeartbeats 4000000 in
theorem ctX5_order (l : Launch) (g : GG) (M : MM) (v1 : Int32) (v2 : Int32) (Q : Int32 → MM → Prop) (hF : ful5 g) (hw : wX5_order Q M v1 v2) : MI g l yX5_order wsX5_order (rmOf 7 162) [.ref (gA g 52), .int v1, .int v2] M Q := by
  refine mk_MI (cc := cX5_order) (maxL := 3) (by decide) rfl (Nat.le_of_ble_eq_true rfl) ?_
  intro z Qf hC hR
  show XX z g Qf 3 0 [(0, .ref (gA g 52)), (1, .int v1), (2, .int v2)] [] M
  have B28 : ∀ (M : MM), wX5_order_28 Q v1 v2 M → XX z g Qf 3 28 [(0, .ref (gA g 52)), (1, .int v1), (2, .int v2)] [] M := by
    intro M hw
    refine q_iload_n hC dX5_order_28 1 rfl 29 rfl ?_
    refine r_callI hC (go_T (As := [.int v1]) (rest := []) hC (ctX5_countOf (zl z) g M v1 _ hw) 1 gX5_order_X5_countOf rfl ⟨rfl, rfl⟩ hdT_X5_countOf ⟨Nat.le_of_ble_eq_true rfl, Nat.le_of_ble_eq_true rfl⟩ rfl rfl (Nat.le_of_ble_eq_true rfl) dX5_order_29) 32 rfl (fun r5 M6 hw => ?_)
    refine q_bipush (v := 8) hC dX5_order_32 (by decide) 34 rfl ?_
    refine q_icmp_le hC 40 dX5_order_34 (by decide) 37 rfl hw (fun hw => ?_) (fun hw => ?_)
    · refine q_aload_n hC dX5_order_40 0 rfl 41 rfl ?_
      refine q_iload_n hC dX5_order_41 1 rfl 42 rfl ?_
      refine r_callV hC (go_V (q := (RX5, TX5, 26)) (As := [.int v1]) (rest := []) hC (ctX5_layRest (zl z) g M6 v1 _ hF hw) 1 gX5_order_X5_layRest rfl ⟨rfl, rfl⟩ hdV_X5_layRest ⟨Nat.le_of_ble_eq_true rfl, Nat.le_of_ble_eq_true rfl⟩ (obF52 hF) rfl rfl rfl (Nat.le_of_ble_eq_true rfl) dX5_order_42) 45 rfl (fun M7 hw => ?_)
      refine q_iload_n hC dX5_order_45 2 rfl 46 rfl ?_
      refine q_if_ne hC 59 dX5_order_46 (by decide) 49 rfl hw (fun hw => ?_) (fun hw => ?_)
      · refine q_iload_n hC dX5_order_59 2 rfl 60 rfl ?_
        refine q_bipush (v := 10) hC dX5_order_60 (by decide) 62 rfl ?_
        refine q_isub hC dX5_order_62 63 rfl ?_
        refine q_aload_n hC dX5_order_63 0 rfl 64 rfl ?_
        refine q_getI (C := RX5) (T := TX5) (N := 26) (ci := 5) hC inX5_order_X5 (obF52 hF) rfl 20 (by decide) (uX5_order__X5_layRest _ (List.mem_of_getElem? (l := owX5_layRest) (i := 1) rfl)) rfl (fun _ => rfl) dX5_order_64 67 rfl ?_
        refine q_icmp_ge hC 81 dX5_order_67 (by decide) 70 rfl hw (fun hw => ?_) (fun hw => ?_)
        · refine q_iconst (v := (-1)) hC dX5_order_81 rfl 82 rfl ?_
          exact r_iret hR dX5_order_82 hw
        · refine q_aload_n hC dX5_order_70 0 rfl 71 rfl ?_
          refine q_iload_n hC dX5_order_71 2 rfl 72 rfl ?_
          refine q_bipush (v := 10) hC dX5_order_72 (by decide) 74 rfl ?_
          refine q_isub hC dX5_order_74 75 rfl ?_
          refine r_callI hC (go_V (q := (RX5, TX5, 26)) (As := [.int (v2 - (10 : Int32))]) (rest := []) hC (ctX5_nthOf (zl z) g M7 (v2 - (10 : Int32)) _ hF hw) 1 gX5_order_X5_nthOf rfl ⟨rfl, rfl⟩ hdV_X5_nthOf ⟨Nat.le_of_ble_eq_true rfl, Nat.le_of_ble_eq_true rfl⟩ (obF52 hF) rfl rfl rfl (Nat.le_of_ble_eq_true rfl) dX5_order_75) 78 rfl (fun r8 M9 hw => ?_)
          refine q_goto hC 82 dX5_order_78 (by decide) ?_
          exact r_iret hR dX5_order_82 hw
      · refine q_aload_n hC dX5_order_49 0 rfl 50 rfl ?_
        refine q_getR (C := RX5) (T := TX5) (N := 26) (ci := 5) hC inX5_order_X5 (obF52 hF) rfl 18 (by decide) (uX5_order__X5_layRest _ (List.mem_of_getElem? (l := owX5_layRest) (i := 3) rfl)) rfl 62 (fun _ => rfl) dX5_order_50 53 rfl ?_
        refine q_bipush (v := 8) hC dX5_order_53 (by decide) 55 rfl ?_
        refine q_ialdL hC (arF62 hF) 8 (by decide +kernel) (by decide +kernel) dX5_order_55 56 rfl ?_
        refine q_goto hC 82 dX5_order_56 (by decide) ?_
        exact r_iret hR dX5_order_82 hw
    · refine q_bipush (v := (-2)) hC dX5_order_37 (by decide) 39 rfl ?_
      exact r_iret hR dX5_order_39 hw
  refine q_aload_n hC dX5_order_0 0 rfl 1 rfl ?_
  refine q_iload_n hC dX5_order_1 1 rfl 2 rfl ?_
  refine r_callI hC (go_V (q := (RX5, TX5, 26)) (As := [.int v1]) (rest := []) hC (ctX5_areBlocks (zl z) g M v1 _ hF hw) 1 gX5_order_X5_areBlocks rfl ⟨rfl, rfl⟩ hdV_X5_areBlocks ⟨Nat.le_of_ble_eq_true rfl, Nat.le_of_ble_eq_true rfl⟩ (obF52 hF) rfl rfl rfl (Nat.le_of_ble_eq_true rfl) dX5_order_2) 5 rfl (fun r1 M2 hw => ?_)
  refine q_if_eq hC 26 dX5_order_5 (by decide) 8 rfl hw (fun hw => ?_) (fun hw => ?_)
  · refine q_iconst (v := (-1)) hC dX5_order_26 rfl 27 rfl ?_
    exact r_iret hR dX5_order_27 hw
  · refine q_iload_n hC dX5_order_8 2 rfl 9 rfl ?_
    refine q_if_eq hC 28 dX5_order_9 (by decide) 12 rfl hw (fun hw => ?_) (fun hw => ?_)
    · exact XX.sub [0, 1, 2] rfl (B28 M2 hw)
    · refine q_iload_n hC dX5_order_12 2 rfl 13 rfl ?_
      refine q_i2l hC dX5_order_13 14 rfl ?_
      refine q_ldc2 (v := 10) hC (uX5_order__o _ (List.mem_of_getElem? (l := owX5_order) (i := 1) rfl)) dX5_order_14 17 rfl ?_
      refine q_ldc2 (v := 17) hC (uX5_order__o _ (List.mem_of_getElem? (l := owX5_order) (i := 2) rfl)) dX5_order_17 20 rfl ?_
      refine r_callI hC (go_T (As := [.long (v2.toInt64), .long 10, .long 17]) (rest := []) hC (ctX5_in (zl z) g M2 (v2.toInt64) 10 17 _ hw) 3 gX5_order_X5_in rfl ⟨rfl, rfl⟩ hdT_X5_in ⟨Nat.le_of_ble_eq_true rfl, Nat.le_of_ble_eq_true rfl⟩ rfl rfl (Nat.le_of_ble_eq_true rfl) dX5_order_20) 23 rfl (fun r3 M4 hw => ?_)
      refine q_if_ne hC 28 dX5_order_23 (by decide) 26 rfl hw (fun hw => ?_) (fun hw => ?_)
      · exact XX.sub [0, 1, 2] rfl (B28 M4 hw)
      · refine q_iconst (v := (-1)) hC dX5_order_26 rfl 27 rfl ?_
        exact r_iret hR dX5_order_27 hw
