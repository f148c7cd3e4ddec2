theorem law_end {z : ZZ} {g : GG} {Qf : State → Prop} {b Ln : Nat} {xs : Nat → Int32} (hC : CX z g cL_law 4 wsL_law RL room_1) (hX : SX z g b Ln xs) (hL : Ln ≤ 3072) {i : Nat} {M : MM} (hi : i ≤ 4000) (h : Ln < i + 6) (hQ : ∀ (pc : Nat) (ls : Array Slot) (M : MM) (H : Heap) (locs : List Loc), decode cL_law pc = .ok (.ireturn, 1) → IV g M (zs z) H → va_S (AA g) (zs z).heap H locs → WZ z H locs Qf (F0 (zm z) pc ls [.int 1])) : XX z g Qf 4 18 [(0, .ref b), (1, .ref (gA g 0)), (2, .ref (gA g 52)), (3, .int (nI i))] [] M := by
  refine q_iload_n hC dL_law_18 3 rfl 19 rfl ?_
  refine q_aload_n hC dL_law_19 0 rfl 20 rfl ?_
  refine q_slen hC hX dL_law_20 21 rfl ?_
  refine q_bipush (v := 6) hC dL_law_21 (by decide) 23 rfl ?_
  refine q_isub hC dL_law_23 24 rfl ?_
  refine q_icmp_gt (A := True) (B := False) hC 1443 dL_law_24 (by decide) 27 rfl ⟨fun _ => trivial, fun q => absurd ((end_iff hL hi).mpr h) q⟩ (fun _ => ?_) (fun q => q.elim)
  refine q_iconst (v := 1) hC dL_law_1443 (by decide) 1444 rfl ?_
  exact fun H locs ls hI hS _ => hQ 1444 ls M H locs dL_law_1444 hI hS
theorem law_loop {z : ZZ} {g : GG} {Qf : State → Prop} {b Ln : Nat} {xs : Nat → Int32} (hC : CX z g cL_law 4 wsL_law RL room_1) (hF : full g) (hX : SX z g b Ln xs) (hL : Ln ≤ 3072) (hQ : ∀ (pc : Nat) (ls : Array Slot) (M : MM) (H : Heap) (locs : List Loc), decode cL_law pc = .ok (.ireturn, 1) → IV g M (zs z) H → va_S (AA g) (zs z).heap H locs → WZ z H locs Qf (F0 (zm z) pc ls [.int 1])) : ∀ n i (M : MM), Ln < i + n → i ≤ Ln + 6 → Rel M → XX z g Qf 4 18 [(0, .ref b), (1, .ref (gA g 0)), (2, .ref (gA g 52)), (3, .int (nI i))] [] M := by
  intro n
  induction n with
  | zero =>
    intro i M hn hi6 hR
    exact law_end hC hX (by omega) (by omega) (by omega) hQ
  | succ n ih =>
    intro i M hn hi6 hR
    by_cases h : Ln < i + 6
    · exact law_end hC hX (by omega) (by omega) h hQ
    · refine q_iload_n hC dL_law_18 3 rfl 19 rfl ?_
      refine q_aload_n hC dL_law_19 0 rfl 20 rfl ?_
      refine q_slen hC hX dL_law_20 21 rfl ?_
      refine q_bipush (v := 6) hC dL_law_21 (by decide) 23 rfl ?_
      refine q_isub hC dL_law_23 24 rfl ?_
      refine q_icmp_gt (A := False) (B := True) hC 1443 dL_law_24 (by decide) 27 rfl ⟨fun q => h ((end_iff (by omega) (by omega)).mp q), fun _ => trivial⟩ (fun q => q.elim) (fun _ => ?_)
      have hB : inS (nI i) Ln := inS_nI (by omega) (by omega)
      refine q_aload_n hC dL_law_27 0 rfl 28 rfl ?_
      refine q_iload_n hC dL_law_28 3 rfl 29 rfl ?_
      refine q_sld hC hX hB.1 dL_law_29 30 rfl ?_
      refine q_bipush (v := 63) hC dL_law_30 (by decide) 32 rfl ?_
      refine q_iand hC dL_law_32 33 rfl ?_
      refine law_sw hC hF hX hB hR (fun M2 h2 => ?_) _
      refine q_iinc (v := nI (i + 6)) (L' := [(3, .int (nI (i + 6))), (0, .ref b), (1, .ref (gA g 0)), (2, .ref (gA g 52))]) hC dL_law_1437 3 rfl (nI_add i 6) (by decide) rfl 1440 rfl ?_
      refine q_goto hC 18 dL_law_1440 (by decide) ?_
      exact XX.sub [1, 2, 3, 0] rfl (ih (i + 6) M2 (by omega) (by omega) h2)
