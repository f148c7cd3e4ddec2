theorem inX5_torn_X5 : ∀ w ∈ u_ws RX5 TX5 26, w ∈ wsX5_torn := uX5_torn__wsX50
set_option maxRecDepth 100000 in
set_option maxHeartbeats 4000000 in
theorem ctX5_torn (l : Launch) (g : GG) (M : MM)  (Q : Int32 → MM → Prop) (hF : ful5 g) (hw : wX5_torn Q M ) : MI g l yX5_torn wsX5_torn (rmOf 0 0) [.ref (gA g 52)] M Q := by
  refine mk_MI (cc := cX5_torn) (maxL := 1) (by decide) rfl (Nat.le_of_ble_eq_true rfl) ?_
  intro z Qf hC hR
  show XX z g Qf 1 0 [(0, .ref (gA g 52))] [] M
  refine q_aload_n hC dX5_torn_0 0 rfl 1 rfl ?_
  refine q_getI (C := RX5) (T := TX5) (N := 26) (ci := 5) hC inX5_torn_X5 (obF52 hF) rfl 25 (by decide) (uX5_torn__o _ (List.mem_of_getElem? (l := owX5_torn) (i := 1) rfl)) rfl (fun _ => rfl) dX5_torn_1 4 rfl ?_
  exact r_iret hR dX5_torn_4 hw
theorem inX5_count_X5 : ∀ w ∈ u_ws RX5 TX5 26, w ∈ wsX5_count := uX5_count__wsX50
set_option maxRecDepth 100000 in
set_option maxHeartbeats 4000000 in
theorem ctX5_count (l : Launch) (g : GG) (M : MM) (v1 : Int32) (Q : Int32 → MM → Prop) (hF : ful5 g) (hw : wX5_count Q M v1) : MI g l yX5_count wsX5_count (rmOf 1 20) [.ref (gA g 52), .int v1] M Q := by
  refine mk_MI (cc := cX5_count) (maxL := 5) (by decide) rfl (Nat.le_of_ble_eq_true rfl) ?_
  intro z Qf hC hR
  show XX z g Qf 5 0 [(0, .ref (gA g 52)), (1, .int v1)] [] M
  have B37 : ∀ (K7 : MM → Int32 → Int32 → Int32 → Prop) (hK7 : ∀ (M : MM) (v2 : Int32) (v3 : Int32) (v4 : Int32) , K7 M v2 v3 v4 → XX z g Qf 5 7 [(0, .ref (gA g 52)), (1, .int v1), (2, .int v2), (3, .int v3), (4, .int v4)] [] M) (M : MM) (v3 : Int32) (v4 : Int32) (p0 : Int32) (p1 : Int32), wX5_count_37 Q K7 v1 M v3 v4 p0 p1 → XX z g Qf 5 37 [(0, .ref (gA g 52)), (1, .int v1), (3, .int v3), (4, .int v4)] [.int p0, .int p1] M := by
    intro K7 hK7 M v3 v4 p0 p1 hw
    refine r_callI hC (go_T (As := [.int p0]) (rest := [.int p1]) hC (ctX5_flag (zl z) g M p0 _ hw) 1 gX5_count_X5_flag rfl ⟨rfl, rfl⟩ hdT_X5_flag ⟨Nat.le_of_ble_eq_true rfl, Nat.le_of_ble_eq_true rfl⟩ rfl rfl (Nat.le_of_ble_eq_true rfl) dX5_count_37) 40 rfl (fun r5 M6 hw => ?_)
    refine q_iadd hC dX5_count_40 41 rfl ?_
    refine q_istore_n (L' := [(2, .int (p1 + r5)), (0, .ref (gA g 52)), (1, .int v1), (3, .int v3), (4, .int v4)]) hC dX5_count_41 (by decide) rfl 42 rfl ?_
    refine q_iload_n hC dX5_count_42 3 rfl 43 rfl ?_
    refine q_aload_n hC dX5_count_43 1 rfl 44 rfl ?_
    refine q_getR (C := RX5) (T := TX5) (N := 26) (ci := 5) hC inX5_count_X5 (obF52 hF) rfl 0 (by decide) (uX5_count__o _ (List.mem_of_getElem? (l := owX5_count) (i := 1) rfl)) rfl 53 (fun _ => rfl) dX5_count_44 47 rfl ?_
    refine q_bipush (v := 13) hC dX5_count_47 (by decide) 49 rfl ?_
    refine q_iload hC dX5_count_49 4 rfl 51 rfl ?_
    refine q_iadd hC dX5_count_51 52 rfl ?_
    obtain ⟨hin, hw⟩ := hw
    refine q_iald hC (arF53 hF) hin dX5_count_52 53 rfl ?_
    refine q_iadd hC dX5_count_53 54 rfl ?_
    refine q_nameI (fun x7 ex7 => ?_)
    have hw := hw x7 ex7
    refine q_istore_n (L' := [(3, .int x7), (2, .int (p1 + r5)), (0, .ref (gA g 52)), (1, .int v1), (4, .int v4)]) hC dX5_count_54 (by decide) rfl 55 rfl ?_
    refine q_iinc (v := v4 + 1) (L' := [(4, .int (v4 + 1)), (3, .int x7), (2, .int (p1 + r5)), (0, .ref (gA g 52)), (1, .int v1)]) hC dX5_count_55 4 rfl rfl (by decide) rfl 58 rfl ?_
    refine q_goto hC 7 dX5_count_58 (by decide) ?_
    exact XX.sub [3, 4, 2, 1, 0] rfl (hK7 M6 (p1 + r5) x7 (v4 + 1) hw)
  have B7 : ∀ (n : Nat) (M : MM) (v2 : Int32) (v3 : Int32) (v4 : Int32) , wX5_count_7 Q v1 n M v2 v3 v4 → XX z g Qf 5 7 [(0, .ref (gA g 52)), (1, .int v1), (2, .int v2), (3, .int v3), (4, .int v4)] [] M := by
    intro n
    induction n with
    | zero =>
      intro M v2 v3 v4 hw
      exact hw.elim
    | succ n ih =>
      intro M v2 v3 v4 hw
      refine q_iload hC dX5_count_7 4 rfl 9 rfl ?_
      refine q_aload_n hC dX5_count_9 0 rfl 10 rfl ?_
      refine q_getR (C := RX5) (T := TX5) (N := 26) (ci := 5) hC inX5_count_X5 (obF52 hF) rfl 0 (by decide) (uX5_count__o _ (List.mem_of_getElem? (l := owX5_count) (i := 1) rfl)) rfl 53 (fun _ => rfl) dX5_count_10 13 rfl ?_
      refine q_iconst (v := 0) hC dX5_count_13 rfl 14 rfl ?_
      refine q_ialdL hC (arF53 hF) 0 (by decide +kernel) (by decide +kernel) dX5_count_14 15 rfl ?_
      refine q_icmp_ge hC 61 dX5_count_15 (by decide) 18 rfl hw (fun hw => ?_) (fun hw => ?_)
      · refine q_iload_n hC dX5_count_61 1 rfl 62 rfl ?_
        by_cases c0 : v1 = 0
        · have hw := hw.1 c0
          refine q_tabIn hC 104 dX5_count_62 (by rw [c0]; decide) (by rw [c0]; decide) (by rw [c0]; rfl) (by decide) ?_
          refine q_aload_n hC dX5_count_104 0 rfl 105 rfl ?_
          refine q_getR (C := RX5) (T := TX5) (N := 26) (ci := 5) hC inX5_count_X5 (obF52 hF) rfl 0 (by decide) (uX5_count__o _ (List.mem_of_getElem? (l := owX5_count) (i := 1) rfl)) rfl 53 (fun _ => rfl) dX5_count_105 108 rfl ?_
          refine q_iconst (v := 0) hC dX5_count_108 rfl 109 rfl ?_
          refine q_ialdL hC (arF53 hF) 0 (by decide +kernel) (by decide +kernel) dX5_count_109 110 rfl ?_
          exact r_iret hR dX5_count_110 hw
        · have hw := hw.2 c0
          by_cases c1 : v1 = 1
          · have hw := hw.1 c1
            refine q_tabIn hC 111 dX5_count_62 (by rw [c1]; decide) (by rw [c1]; decide) (by rw [c1]; rfl) (by decide) ?_
            refine q_iload_n hC dX5_count_111 2 rfl 112 rfl ?_
            exact r_iret hR dX5_count_112 hw
          · have hw := hw.2 c1
            by_cases c2 : v1 = 2
            · have hw := hw.1 c2
              refine q_tabIn hC 113 dX5_count_62 (by rw [c2]; decide) (by rw [c2]; decide) (by rw [c2]; rfl) (by decide) ?_
              refine q_iload_n hC dX5_count_113 3 rfl 114 rfl ?_
              exact r_iret hR dX5_count_114 hw
            · have hw := hw.2 c2
              by_cases c3 : v1 = 3
              · have hw := hw.1 c3
                refine q_tabIn hC 115 dX5_count_62 (by rw [c3]; decide) (by rw [c3]; decide) (by rw [c3]; rfl) (by decide) ?_
                refine q_aload_n hC dX5_count_115 0 rfl 116 rfl ?_
                refine q_getR (C := RX5) (T := TX5) (N := 26) (ci := 5) hC inX5_count_X5 (obF52 hF) rfl 0 (by decide) (uX5_count__o _ (List.mem_of_getElem? (l := owX5_count) (i := 1) rfl)) rfl 53 (fun _ => rfl) dX5_count_116 119 rfl ?_
                refine q_sipush (v := 341) hC dX5_count_119 (by decide) 122 rfl ?_
                refine q_ialdL hC (arF53 hF) 341 (by decide +kernel) (by decide +kernel) dX5_count_122 123 rfl ?_
                exact r_iret hR dX5_count_123 hw
              · have hw := hw.2 c3
                by_cases c4 : v1 = 4
                · have hw := hw.1 c4
                  refine q_tabIn hC 124 dX5_count_62 (by rw [c4]; decide) (by rw [c4]; decide) (by rw [c4]; rfl) (by decide) ?_
                  refine q_aload_n hC dX5_count_124 0 rfl 125 rfl ?_
                  refine q_getR (C := RX5) (T := TX5) (N := 26) (ci := 5) hC inX5_count_X5 (obF52 hF) rfl 1 (by decide) (uX5_count__o _ (List.mem_of_getElem? (l := owX5_count) (i := 2) rfl)) rfl 54 (fun _ => rfl) dX5_count_125 128 rfl ?_
                  refine q_iconst (v := 0) hC dX5_count_128 rfl 129 rfl ?_
                  refine q_zaldL hC (arF54 hF) 0 (by decide +kernel) (by decide +kernel) dX5_count_129 130 rfl ?_
                  refine r_callI hC (go_T (As := [.int (M 54 0)]) (rest := []) hC (ctX5_flag (zl z) g M (M 54 0) _ hw) 1 gX5_count_X5_flag rfl ⟨rfl, rfl⟩ hdT_X5_flag ⟨Nat.le_of_ble_eq_true rfl, Nat.le_of_ble_eq_true rfl⟩ rfl rfl (Nat.le_of_ble_eq_true rfl) dX5_count_130) 133 rfl (fun r1 M2 hw => ?_)
                  refine q_aload_n hC dX5_count_133 0 rfl 134 rfl ?_
                  refine q_getR (C := RX5) (T := TX5) (N := 26) (ci := 5) hC inX5_count_X5 (obF52 hF) rfl 1 (by decide) (uX5_count__o _ (List.mem_of_getElem? (l := owX5_count) (i := 2) rfl)) rfl 54 (fun _ => rfl) dX5_count_134 137 rfl ?_
                  refine q_iconst (v := 1) hC dX5_count_137 rfl 138 rfl ?_
                  refine q_zaldL hC (arF54 hF) 1 (by decide +kernel) (by decide +kernel) dX5_count_138 139 rfl ?_
                  refine r_callI hC (go_T (As := [.int (M2 54 1)]) (rest := [.int r1]) hC (ctX5_flag (zl z) g M2 (M2 54 1) _ hw) 1 gX5_count_X5_flag rfl ⟨rfl, rfl⟩ hdT_X5_flag ⟨Nat.le_of_ble_eq_true rfl, Nat.le_of_ble_eq_true rfl⟩ rfl rfl (Nat.le_of_ble_eq_true rfl) dX5_count_139) 142 rfl (fun r3 M4 hw => ?_)
                  refine q_iadd hC dX5_count_142 143 rfl ?_
                  exact r_iret hR dX5_count_143 hw
                · have hw := hw.2 c4
                  by_cases c5 : v1 = 5
                  · have hw := hw.1 c5
                    refine q_tabIn hC 144 dX5_count_62 (by rw [c5]; decide) (by rw [c5]; decide) (by rw [c5]; rfl) (by decide) ?_
                    refine q_aload_n hC dX5_count_144 0 rfl 145 rfl ?_
                    refine q_getI (C := RX5) (T := TX5) (N := 26) (ci := 5) hC inX5_count_X5 (obF52 hF) rfl 9 (by decide) (uX5_count__o _ (List.mem_of_getElem? (l := owX5_count) (i := 3) rfl)) rfl (fun _ => rfl) dX5_count_145 148 rfl ?_
                    exact r_iret hR dX5_count_148 hw
                  · have hw := hw.2 c5
                    by_cases c6 : v1 = 6
                    · have hw := hw.1 c6
                      refine q_tabIn hC 149 dX5_count_62 (by rw [c6]; decide) (by rw [c6]; decide) (by rw [c6]; rfl) (by decide) ?_
                      refine q_aload_n hC dX5_count_149 0 rfl 150 rfl ?_
                      refine q_getR (C := RX5) (T := TX5) (N := 26) (ci := 5) hC inX5_count_X5 (obF52 hF) rfl 22 (by decide) (uX5_count__o _ (List.mem_of_getElem? (l := owX5_count) (i := 4) rfl)) rfl 64 (fun _ => rfl) dX5_count_150 153 rfl ?_
                      refine q_iconst (v := 0) hC dX5_count_153 rfl 154 rfl ?_
                      refine q_ialdL hC (arF64 hF) 0 (by decide +kernel) (by decide +kernel) dX5_count_154 155 rfl ?_
                      refine q_bipush (v := (-4)) hC dX5_count_155 (by decide) 157 rfl ?_
                      refine q_icmp_ne hC 165 dX5_count_157 (by decide) 160 rfl hw (fun hw => ?_) (fun hw => ?_)
                      · refine q_aload_n hC dX5_count_165 0 rfl 166 rfl ?_
                        refine q_getR (C := RX5) (T := TX5) (N := 26) (ci := 5) hC inX5_count_X5 (obF52 hF) rfl 23 (by decide) (uX5_count__o _ (List.mem_of_getElem? (l := owX5_count) (i := 5) rfl)) rfl 65 (fun _ => rfl) dX5_count_166 169 rfl ?_
                        refine q_iconst (v := 0) hC dX5_count_169 rfl 170 rfl ?_
                        refine q_ialdL hC (arF65 hF) 0 (by decide +kernel) (by decide +kernel) dX5_count_170 171 rfl ?_
                        exact r_iret hR dX5_count_171 hw
                      · refine q_bipush (v := (-4)) hC dX5_count_160 (by decide) 162 rfl ?_
                        refine q_goto hC 171 dX5_count_162 (by decide) ?_
                        exact r_iret hR dX5_count_171 hw
                    · have hw := hw.2 c6
                      refine q_tabOut hC 172 dX5_count_62 (tab_out6 c0 c1 c2 c3 c4 c5 c6) (by decide) ?_
                      refine q_iconst (v := (-1)) hC dX5_count_172 rfl 173 rfl ?_
                      exact r_iret hR dX5_count_173 hw
      · refine q_iload_n hC dX5_count_18 2 rfl 19 rfl ?_
        refine q_aload_n hC dX5_count_19 0 rfl 20 rfl ?_
        refine q_getR (C := RX5) (T := TX5) (N := 26) (ci := 5) hC inX5_count_X5 (obF52 hF) rfl 0 (by decide) (uX5_count__o _ (List.mem_of_getElem? (l := owX5_count) (i := 1) rfl)) rfl 53 (fun _ => rfl) dX5_count_20 23 rfl ?_
        refine q_bipush (v := 13) hC dX5_count_23 (by decide) 25 rfl ?_
        refine q_iload hC dX5_count_25 4 rfl 27 rfl ?_
        refine q_iadd hC dX5_count_27 28 rfl ?_
        obtain ⟨hin, hw⟩ := hw
        refine q_iald hC (arF53 hF) hin dX5_count_28 29 rfl ?_
        refine q_if_ne hC 36 dX5_count_29 (by decide) 32 rfl hw (fun hw => ?_) (fun hw => ?_)
        · refine q_iconst (v := 0) hC dX5_count_36 rfl 37 rfl ?_
          exact XX.sub [0, 1, 3, 4] rfl (B37 _ (fun M v2 v3 v4 hw => ih M v2 v3 v4 hw) M v3 v4 0 v2 hw)
        · refine q_iconst (v := 1) hC dX5_count_32 rfl 33 rfl ?_
          refine q_goto hC 37 dX5_count_33 (by decide) ?_
          exact XX.sub [0, 1, 3, 4] rfl (B37 _ (fun M v2 v3 v4 hw => ih M v2 v3 v4 hw) M v3 v4 1 v2 hw)
  refine q_iconst (v := 0) hC dX5_count_0 rfl 1 rfl ?_
  refine q_istore_n (L' := [(2, .int 0), (0, .ref (gA g 52)), (1, .int v1)]) hC dX5_count_1 (by decide) rfl 2 rfl ?_
  refine q_iconst (v := 0) hC dX5_count_2 rfl 3 rfl ?_
  refine q_istore_n (L' := [(3, .int 0), (2, .int 0), (0, .ref (gA g 52)), (1, .int v1)]) hC dX5_count_3 (by decide) rfl 4 rfl ?_
  refine q_iconst (v := 0) hC dX5_count_4 rfl 5 rfl ?_
  refine q_istore (L' := [(4, .int 0), (3, .int 0), (2, .int 0), (0, .ref (gA g 52)), (1, .int v1)]) hC dX5_count_5 (by decide) rfl 7 rfl ?_
  obtain ⟨n0, hw⟩ := hw
  exact XX.sub [3, 4, 2, 1, 0] rfl (B7 n0 M 0 0 0 hw)
