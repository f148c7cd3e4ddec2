set_option maxHeartbeats 4000000 in
theorem law_c12 {z : ZZ} {g : GG} {Qf : State → Prop} {M : MM} {b Ln : Nat} {xs : Nat → Int32} {v3 : Int32} (hC : CX z g cL_law 4 wsL_law RL room_1) (hF : full g) (hX : SX z g b Ln xs) (hB : inS v3 Ln) (hR : Rel M) (kk : ∀ M2, Rel M2 → XX z g Qf 4 1437 [(0, .ref b), (1, .ref (gA g 0)), (2, .ref (gA g 52)), (3, .int v3)] [] M2) : XX z g Qf 4 570 [(0, .ref b), (1, .ref (gA g 0)), (2, .ref (gA g 52)), (3, .int v3)] [] M := by
  refine q_aload_n hC dL_law_570 1 rfl 571 rfl ?_
  refine q_aload_n hC dL_law_571 0 rfl 572 rfl ?_
  refine q_iload_n hC dL_law_572 3 rfl 573 rfl ?_
  refine q_iconst (v := 1) hC dL_law_573 (by decide) 574 rfl ?_
  refine q_iadd hC dL_law_574 575 rfl ?_
  refine q_sld hC hX hB.2.1 dL_law_575 576 rfl ?_
  refine q_aload_n hC dL_law_576 0 rfl 577 rfl ?_
  refine q_iload_n hC dL_law_577 3 rfl 578 rfl ?_
  refine q_iconst (v := 2) hC dL_law_578 (by decide) 579 rfl ?_
  refine q_iadd hC dL_law_579 580 rfl ?_
  refine q_sld hC hX hB.2.2.1 dL_law_580 581 rfl ?_
  refine r_callI hC (go_V (q := (RX4, TX4, 12)) (As := [.int (xs (v3 + 1).toNatClampNeg), .int (xs (v3 + 2).toNatClampNeg)]) (rest := []) hC (ctX4_block (zl z) g M (xs (v3 + 1).toNatClampNeg) (xs (v3 + 2).toNatClampNeg) _ hF (L_block hR (xs (v3 + 1).toNatClampNeg) (xs (v3 + 2).toNatClampNeg))) 2 gL_law_X4_block rfl ⟨rfl, rfl⟩ hdL_X4_block ⟨Nat.le_of_ble_eq_true rfl, Nat.le_of_ble_eq_true rfl⟩ (obF0 hF) rfl rfl rfl (Nat.le_of_ble_eq_true rfl) dL_law_581) 584 rfl (fun r1 M1 hw => ?_)
  refine q_pop hC dL_law_584 rfl 585 rfl ?_
  refine q_aload_n hC dL_law_585 2 rfl 586 rfl ?_
  refine q_aload_n hC dL_law_586 0 rfl 587 rfl ?_
  refine q_iload_n hC dL_law_587 3 rfl 588 rfl ?_
  refine q_iconst (v := 1) hC dL_law_588 (by decide) 589 rfl ?_
  refine q_iadd hC dL_law_589 590 rfl ?_
  refine q_sld hC hX hB.2.1 dL_law_590 591 rfl ?_
  refine q_aload_n hC dL_law_591 0 rfl 592 rfl ?_
  refine q_iload_n hC dL_law_592 3 rfl 593 rfl ?_
  refine q_iconst (v := 2) hC dL_law_593 (by decide) 594 rfl ?_
  refine q_iadd hC dL_law_594 595 rfl ?_
  refine q_sld hC hX hB.2.2.1 dL_law_595 596 rfl ?_
  refine r_callI hC (go_V (q := (RX5, TX5, 26)) (As := [.int (xs (v3 + 1).toNatClampNeg), .int (xs (v3 + 2).toNatClampNeg)]) (rest := []) hC (ctX5_block (zl z) g M1 (xs (v3 + 1).toNatClampNeg) (xs (v3 + 2).toNatClampNeg) _ hF.f5 hw) 2 gL_law_X5_block rfl ⟨rfl, rfl⟩ hdL_X5_block ⟨Nat.le_of_ble_eq_true rfl, Nat.le_of_ble_eq_true rfl⟩ (obF52 hF.f5) rfl rfl rfl (Nat.le_of_ble_eq_true rfl) dL_law_596) 599 rfl (fun r2 M2 hw => ?_)
  have hw3 := hw.2
  refine q_pop hC dL_law_599 rfl 600 rfl ?_
  refine q_goto hC 1437 dL_law_600 (by decide) ?_
  exact kk _ hw3
set_option maxHeartbeats 4000000 in
theorem law_c13 {z : ZZ} {g : GG} {Qf : State → Prop} {M : MM} {b Ln : Nat} {xs : Nat → Int32} {v3 : Int32} (hC : CX z g cL_law 4 wsL_law RL room_1) (hF : full g) (hX : SX z g b Ln xs) (hB : inS v3 Ln) (hR : Rel M) (kk : ∀ M2, Rel M2 → XX z g Qf 4 1437 [(0, .ref b), (1, .ref (gA g 0)), (2, .ref (gA g 52)), (3, .int v3)] [] M2) : XX z g Qf 4 603 [(0, .ref b), (1, .ref (gA g 0)), (2, .ref (gA g 52)), (3, .int v3)] [] M := by
  refine q_aload_n hC dL_law_603 1 rfl 604 rfl ?_
  refine q_aload_n hC dL_law_604 0 rfl 605 rfl ?_
  refine q_iload_n hC dL_law_605 3 rfl 606 rfl ?_
  refine q_iconst (v := 1) hC dL_law_606 (by decide) 607 rfl ?_
  refine q_iadd hC dL_law_607 608 rfl ?_
  refine q_sld hC hX hB.2.1 dL_law_608 609 rfl ?_
  refine r_callI hC (go_V (q := (RX4, TX4, 12)) (As := [.int (xs (v3 + 1).toNatClampNeg)]) (rest := []) hC (ctX4_blockAt (zl z) g M (xs (v3 + 1).toNatClampNeg) _ hF (L_blockAt hR (xs (v3 + 1).toNatClampNeg))) 1 gL_law_X4_blockAt rfl ⟨rfl, rfl⟩ hdL_X4_blockAt ⟨Nat.le_of_ble_eq_true rfl, Nat.le_of_ble_eq_true rfl⟩ (obF0 hF) rfl rfl rfl (Nat.le_of_ble_eq_true rfl) dL_law_609) 612 rfl (fun r1 M1 hw => ?_)
  refine q_pop hC dL_law_612 rfl 613 rfl ?_
  refine q_aload_n hC dL_law_613 2 rfl 614 rfl ?_
  refine q_aload_n hC dL_law_614 0 rfl 615 rfl ?_
  refine q_iload_n hC dL_law_615 3 rfl 616 rfl ?_
  refine q_iconst (v := 1) hC dL_law_616 (by decide) 617 rfl ?_
  refine q_iadd hC dL_law_617 618 rfl ?_
  refine q_sld hC hX hB.2.1 dL_law_618 619 rfl ?_
  refine r_callI hC (go_V (q := (RX5, TX5, 26)) (As := [.int (xs (v3 + 1).toNatClampNeg)]) (rest := []) hC (ctX5_blockAt (zl z) g M1 (xs (v3 + 1).toNatClampNeg) _ hF.f5 hw) 1 gL_law_X5_blockAt rfl ⟨rfl, rfl⟩ hdL_X5_blockAt ⟨Nat.le_of_ble_eq_true rfl, Nat.le_of_ble_eq_true rfl⟩ (obF52 hF.f5) rfl rfl rfl (Nat.le_of_ble_eq_true rfl) dL_law_619) 622 rfl (fun r2 M2 hw => ?_)
  have hw3 := hw.2
  refine q_pop hC dL_law_622 rfl 623 rfl ?_
  refine q_goto hC 1437 dL_law_623 (by decide) ?_
  exact kk _ hw3
set_option maxHeartbeats 4000000 in
theorem law_c14 {z : ZZ} {g : GG} {Qf : State → Prop} {M : MM} {b Ln : Nat} {xs : Nat → Int32} {v3 : Int32} (hC : CX z g cL_law 4 wsL_law RL room_1) (hF : full g) (hX : SX z g b Ln xs) (hB : inS v3 Ln) (hR : Rel M) (kk : ∀ M2, Rel M2 → XX z g Qf 4 1437 [(0, .ref b), (1, .ref (gA g 0)), (2, .ref (gA g 52)), (3, .int v3)] [] M2) : XX z g Qf 4 626 [(0, .ref b), (1, .ref (gA g 0)), (2, .ref (gA g 52)), (3, .int v3)] [] M := by
  refine q_aload_n hC dL_law_626 1 rfl 627 rfl ?_
  refine q_aload_n hC dL_law_627 0 rfl 628 rfl ?_
  refine q_iload_n hC dL_law_628 3 rfl 629 rfl ?_
  refine q_iconst (v := 1) hC dL_law_629 (by decide) 630 rfl ?_
  refine q_iadd hC dL_law_630 631 rfl ?_
  refine q_sld hC hX hB.2.1 dL_law_631 632 rfl ?_
  refine r_callI hC (go_V (q := (RX4, TX4, 12)) (As := [.int (xs (v3 + 1).toNatClampNeg)]) (rest := []) hC (ctX4_type (zl z) g M (xs (v3 + 1).toNatClampNeg) _ hF (L_type hR (xs (v3 + 1).toNatClampNeg))) 1 gL_law_X4_type rfl ⟨rfl, rfl⟩ hdL_X4_type ⟨Nat.le_of_ble_eq_true rfl, Nat.le_of_ble_eq_true rfl⟩ (obF0 hF) rfl rfl rfl (Nat.le_of_ble_eq_true rfl) dL_law_632) 635 rfl (fun r1 M1 hw => ?_)
  refine q_pop hC dL_law_635 rfl 636 rfl ?_
  refine q_aload_n hC dL_law_636 2 rfl 637 rfl ?_
  refine q_aload_n hC dL_law_637 0 rfl 638 rfl ?_
  refine q_iload_n hC dL_law_638 3 rfl 639 rfl ?_
  refine q_iconst (v := 1) hC dL_law_639 (by decide) 640 rfl ?_
  refine q_iadd hC dL_law_640 641 rfl ?_
  refine q_sld hC hX hB.2.1 dL_law_641 642 rfl ?_
  refine r_callI hC (go_V (q := (RX5, TX5, 26)) (As := [.int (xs (v3 + 1).toNatClampNeg)]) (rest := []) hC (ctX5_type (zl z) g M1 (xs (v3 + 1).toNatClampNeg) _ hF.f5 hw) 1 gL_law_X5_type rfl ⟨rfl, rfl⟩ hdL_X5_type ⟨Nat.le_of_ble_eq_true rfl, Nat.le_of_ble_eq_true rfl⟩ (obF52 hF.f5) rfl rfl rfl (Nat.le_of_ble_eq_true rfl) dL_law_642) 645 rfl (fun r2 M2 hw => ?_)
  have hw3 := hw.2
  refine q_pop hC dL_law_645 rfl 646 rfl ?_
  refine q_goto hC 1437 dL_law_646 (by decide) ?_
  exact kk _ hw3
set_option maxHeartbeats 4000000 in
theorem law_c15 {z : ZZ} {g : GG} {Qf : State → Prop} {M : MM} {b Ln : Nat} {xs : Nat → Int32} {v3 : Int32} (hC : CX z g cL_law 4 wsL_law RL room_1) (hF : full g) (hX : SX z g b Ln xs) (hB : inS v3 Ln) (hR : Rel M) (kk : ∀ M2, Rel M2 → XX z g Qf 4 1437 [(0, .ref b), (1, .ref (gA g 0)), (2, .ref (gA g 52)), (3, .int v3)] [] M2) : XX z g Qf 4 649 [(0, .ref b), (1, .ref (gA g 0)), (2, .ref (gA g 52)), (3, .int v3)] [] M := by
  refine q_aload_n hC dL_law_649 1 rfl 650 rfl ?_
  refine q_aload_n hC dL_law_650 0 rfl 651 rfl ?_
  refine q_iload_n hC dL_law_651 3 rfl 652 rfl ?_
  refine q_iconst (v := 1) hC dL_law_652 (by decide) 653 rfl ?_
  refine q_iadd hC dL_law_653 654 rfl ?_
  refine q_sld hC hX hB.2.1 dL_law_654 655 rfl ?_
  refine r_callI hC (go_V (q := (RX4, TX4, 12)) (As := [.int (xs (v3 + 1).toNatClampNeg)]) (rest := []) hC (ctX4_write (zl z) g M (xs (v3 + 1).toNatClampNeg) _ hF (L_write hR (xs (v3 + 1).toNatClampNeg))) 1 gL_law_X4_write rfl ⟨rfl, rfl⟩ hdL_X4_write ⟨Nat.le_of_ble_eq_true rfl, Nat.le_of_ble_eq_true rfl⟩ (obF0 hF) rfl rfl rfl (Nat.le_of_ble_eq_true rfl) dL_law_655) 658 rfl (fun r1 M1 hw => ?_)
  refine q_pop hC dL_law_658 rfl 659 rfl ?_
  refine q_aload_n hC dL_law_659 2 rfl 660 rfl ?_
  refine q_aload_n hC dL_law_660 0 rfl 661 rfl ?_
  refine q_iload_n hC dL_law_661 3 rfl 662 rfl ?_
  refine q_iconst (v := 1) hC dL_law_662 (by decide) 663 rfl ?_
  refine q_iadd hC dL_law_663 664 rfl ?_
  refine q_sld hC hX hB.2.1 dL_law_664 665 rfl ?_
  refine r_callI hC (go_V (q := (RX5, TX5, 26)) (As := [.int (xs (v3 + 1).toNatClampNeg)]) (rest := []) hC (ctX5_write (zl z) g M1 (xs (v3 + 1).toNatClampNeg) _ hF.f5 hw) 1 gL_law_X5_write rfl ⟨rfl, rfl⟩ hdL_X5_write ⟨Nat.le_of_ble_eq_true rfl, Nat.le_of_ble_eq_true rfl⟩ (obF52 hF.f5) rfl rfl rfl (Nat.le_of_ble_eq_true rfl) dL_law_665) 668 rfl (fun r2 M2 hw => ?_)
  have hw3 := hw.2
  refine q_pop hC dL_law_668 rfl 669 rfl ?_
  refine q_goto hC 1437 dL_law_669 (by decide) ?_
  exact kk _ hw3
set_option maxHeartbeats 4000000 in
theorem law_c16 {z : ZZ} {g : GG} {Qf : State → Prop} {M : MM} {b Ln : Nat} {xs : Nat → Int32} {v3 : Int32} (hC : CX z g cL_law 4 wsL_law RL room_1) (hF : full g) (hX : SX z g b Ln xs) (hB : inS v3 Ln) (hR : Rel M) (kk : ∀ M2, Rel M2 → XX z g Qf 4 1437 [(0, .ref b), (1, .ref (gA g 0)), (2, .ref (gA g 52)), (3, .int v3)] [] M2) : XX z g Qf 4 672 [(0, .ref b), (1, .ref (gA g 0)), (2, .ref (gA g 52)), (3, .int v3)] [] M := by
  refine q_aload_n hC dL_law_672 1 rfl 673 rfl ?_
  refine q_aload_n hC dL_law_673 0 rfl 674 rfl ?_
  refine q_iload_n hC dL_law_674 3 rfl 675 rfl ?_
  refine q_iconst (v := 1) hC dL_law_675 (by decide) 676 rfl ?_
  refine q_iadd hC dL_law_676 677 rfl ?_
  refine q_sld hC hX hB.2.1 dL_law_677 678 rfl ?_
  refine r_callI hC (go_V (q := (RX4, TX4, 12)) (As := [.int (xs (v3 + 1).toNatClampNeg)]) (rest := []) hC (ctX4_mark (zl z) g M (xs (v3 + 1).toNatClampNeg) _ hF (L_mark hR (xs (v3 + 1).toNatClampNeg))) 1 gL_law_X4_mark rfl ⟨rfl, rfl⟩ hdL_X4_mark ⟨Nat.le_of_ble_eq_true rfl, Nat.le_of_ble_eq_true rfl⟩ (obF0 hF) rfl rfl rfl (Nat.le_of_ble_eq_true rfl) dL_law_678) 681 rfl (fun r1 M1 hw => ?_)
  refine q_pop hC dL_law_681 rfl 682 rfl ?_
  refine q_aload_n hC dL_law_682 2 rfl 683 rfl ?_
  refine q_aload_n hC dL_law_683 0 rfl 684 rfl ?_
  refine q_iload_n hC dL_law_684 3 rfl 685 rfl ?_
  refine q_iconst (v := 1) hC dL_law_685 (by decide) 686 rfl ?_
  refine q_iadd hC dL_law_686 687 rfl ?_
  refine q_sld hC hX hB.2.1 dL_law_687 688 rfl ?_
  refine r_callI hC (go_V (q := (RX5, TX5, 26)) (As := [.int (xs (v3 + 1).toNatClampNeg)]) (rest := []) hC (ctX5_mark (zl z) g M1 (xs (v3 + 1).toNatClampNeg) _ hF.f5 hw) 1 gL_law_X5_mark rfl ⟨rfl, rfl⟩ hdL_X5_mark ⟨Nat.le_of_ble_eq_true rfl, Nat.le_of_ble_eq_true rfl⟩ (obF52 hF.f5) rfl rfl rfl (Nat.le_of_ble_eq_true rfl) dL_law_688) 691 rfl (fun r2 M2 hw => ?_)
  have hw3 := hw.2
  refine q_pop hC dL_law_691 rfl 692 rfl ?_
  refine q_goto hC 1437 dL_law_692 (by decide) ?_
  exact kk _ hw3
set_option maxHeartbeats 4000000 in
theorem law_c17 {z : ZZ} {g : GG} {Qf : State → Prop} {M : MM} {b Ln : Nat} {xs : Nat → Int32} {v3 : Int32} (hC : CX z g cL_law 4 wsL_law RL room_1) (hF : full g) (hX : SX z g b Ln xs) (hB : inS v3 Ln) (hR : Rel M) (kk : ∀ M2, Rel M2 → XX z g Qf 4 1437 [(0, .ref b), (1, .ref (gA g 0)), (2, .ref (gA g 52)), (3, .int v3)] [] M2) : XX z g Qf 4 695 [(0, .ref b), (1, .ref (gA g 0)), (2, .ref (gA g 52)), (3, .int v3)] [] M := by
  refine q_aload_n hC dL_law_695 1 rfl 696 rfl ?_
  refine q_aload_n hC dL_law_696 0 rfl 697 rfl ?_
  refine q_iload_n hC dL_law_697 3 rfl 698 rfl ?_
  refine q_iconst (v := 1) hC dL_law_698 (by decide) 699 rfl ?_
  refine q_iadd hC dL_law_699 700 rfl ?_
  refine q_sld hC hX hB.2.1 dL_law_700 701 rfl ?_
  refine q_aload_n hC dL_law_701 0 rfl 702 rfl ?_
  refine q_iload_n hC dL_law_702 3 rfl 703 rfl ?_
  refine q_iconst (v := 2) hC dL_law_703 (by decide) 704 rfl ?_
  refine q_iadd hC dL_law_704 705 rfl ?_
  refine q_sld hC hX hB.2.2.1 dL_law_705 706 rfl ?_
  refine q_aload_n hC dL_law_706 0 rfl 707 rfl ?_
  refine q_iload_n hC dL_law_707 3 rfl 708 rfl ?_
  refine q_iconst (v := 3) hC dL_law_708 (by decide) 709 rfl ?_
  refine q_iadd hC dL_law_709 710 rfl ?_
  refine q_sld hC hX hB.2.2.2.1 dL_law_710 711 rfl ?_
  refine r_callI hC (go_V (q := (RX4, TX4, 12)) (As := [.int (xs (v3 + 1).toNatClampNeg), .int (xs (v3 + 2).toNatClampNeg), .int (xs (v3 + 3).toNatClampNeg)]) (rest := []) hC (ctX4_spoil (zl z) g M (xs (v3 + 1).toNatClampNeg) (xs (v3 + 2).toNatClampNeg) (xs (v3 + 3).toNatClampNeg) _ hF (L_spoil hR (xs (v3 + 1).toNatClampNeg) (xs (v3 + 2).toNatClampNeg) (xs (v3 + 3).toNatClampNeg))) 3 gL_law_X4_spoil rfl ⟨rfl, rfl⟩ hdL_X4_spoil ⟨Nat.le_of_ble_eq_true rfl, Nat.le_of_ble_eq_true rfl⟩ (obF0 hF) rfl rfl rfl (Nat.le_of_ble_eq_true rfl) dL_law_711) 714 rfl (fun r1 M1 hw => ?_)
  refine q_pop hC dL_law_714 rfl 715 rfl ?_
  refine q_aload_n hC dL_law_715 2 rfl 716 rfl ?_
  refine q_aload_n hC dL_law_716 0 rfl 717 rfl ?_
  refine q_iload_n hC dL_law_717 3 rfl 718 rfl ?_
  refine q_iconst (v := 1) hC dL_law_718 (by decide) 719 rfl ?_
  refine q_iadd hC dL_law_719 720 rfl ?_
  refine q_sld hC hX hB.2.1 dL_law_720 721 rfl ?_
  refine q_aload_n hC dL_law_721 0 rfl 722 rfl ?_
  refine q_iload_n hC dL_law_722 3 rfl 723 rfl ?_
  refine q_iconst (v := 2) hC dL_law_723 (by decide) 724 rfl ?_
  refine q_iadd hC dL_law_724 725 rfl ?_
  refine q_sld hC hX hB.2.2.1 dL_law_725 726 rfl ?_
  refine q_aload_n hC dL_law_726 0 rfl 727 rfl ?_
  refine q_iload_n hC dL_law_727 3 rfl 728 rfl ?_
  refine q_iconst (v := 3) hC dL_law_728 (by decide) 729 rfl ?_
  refine q_iadd hC dL_law_729 730 rfl ?_
  refine q_sld hC hX hB.2.2.2.1 dL_law_730 731 rfl ?_
  refine r_callI hC (go_V (q := (RX5, TX5, 26)) (As := [.int (xs (v3 + 1).toNatClampNeg), .int (xs (v3 + 2).toNatClampNeg), .int (xs (v3 + 3).toNatClampNeg)]) (rest := []) hC (ctX5_spoil (zl z) g M1 (xs (v3 + 1).toNatClampNeg) (xs (v3 + 2).toNatClampNeg) (xs (v3 + 3).toNatClampNeg) _ hF.f5 hw) 3 gL_law_X5_spoil rfl ⟨rfl, rfl⟩ hdL_X5_spoil ⟨Nat.le_of_ble_eq_true rfl, Nat.le_of_ble_eq_true rfl⟩ (obF52 hF.f5) rfl rfl rfl (Nat.le_of_ble_eq_true rfl) dL_law_731) 734 rfl (fun r2 M2 hw => ?_)
  have hw3 := hw.2
  refine q_pop hC dL_law_734 rfl 735 rfl ?_
  refine q_goto hC 1437 dL_law_735 (by decide) ?_
  exact kk _ hw3
set_option maxHeartbeats 4000000 in
theorem law_c18 {z : ZZ} {g : GG} {Qf : State → Prop} {M : MM} {b Ln : Nat} {xs : Nat → Int32} {v3 : Int32} (hC : CX z g cL_law 4 wsL_law RL room_1) (hF : full g) (hX : SX z g b Ln xs) (hB : inS v3 Ln) (hR : Rel M) (kk : ∀ M2, Rel M2 → XX z g Qf 4 1437 [(0, .ref b), (1, .ref (gA g 0)), (2, .ref (gA g 52)), (3, .int v3)] [] M2) : XX z g Qf 4 738 [(0, .ref b), (1, .ref (gA g 0)), (2, .ref (gA g 52)), (3, .int v3)] [] M := by
  refine q_aload_n hC dL_law_738 1 rfl 739 rfl ?_
  refine q_aload_n hC dL_law_739 0 rfl 740 rfl ?_
  refine q_iload_n hC dL_law_740 3 rfl 741 rfl ?_
  refine q_iconst (v := 1) hC dL_law_741 (by decide) 742 rfl ?_
  refine q_iadd hC dL_law_742 743 rfl ?_
  refine q_sld hC hX hB.2.1 dL_law_743 744 rfl ?_
  refine r_callI hC (go_V (q := (RX4, TX4, 12)) (As := [.int (xs (v3 + 1).toNatClampNeg)]) (rest := []) hC (ctX4_dead (zl z) g M (xs (v3 + 1).toNatClampNeg) _ hF (L_dead hR (xs (v3 + 1).toNatClampNeg))) 1 gL_law_X4_dead rfl ⟨rfl, rfl⟩ hdL_X4_dead ⟨Nat.le_of_ble_eq_true rfl, Nat.le_of_ble_eq_true rfl⟩ (obF0 hF) rfl rfl rfl (Nat.le_of_ble_eq_true rfl) dL_law_744) 747 rfl (fun r1 M1 hw => ?_)
  refine q_pop hC dL_law_747 rfl 748 rfl ?_
  refine q_aload_n hC dL_law_748 2 rfl 749 rfl ?_
  refine q_aload_n hC dL_law_749 0 rfl 750 rfl ?_
  refine q_iload_n hC dL_law_750 3 rfl 751 rfl ?_
  refine q_iconst (v := 1) hC dL_law_751 (by decide) 752 rfl ?_
  refine q_iadd hC dL_law_752 753 rfl ?_
  refine q_sld hC hX hB.2.1 dL_law_753 754 rfl ?_
  refine r_callI hC (go_V (q := (RX5, TX5, 26)) (As := [.int (xs (v3 + 1).toNatClampNeg)]) (rest := []) hC (ctX5_dead (zl z) g M1 (xs (v3 + 1).toNatClampNeg) _ hF.f5 hw) 1 gL_law_X5_dead rfl ⟨rfl, rfl⟩ hdL_X5_dead ⟨Nat.le_of_ble_eq_true rfl, Nat.le_of_ble_eq_true rfl⟩ (obF52 hF.f5) rfl rfl rfl (Nat.le_of_ble_eq_true rfl) dL_law_754) 757 rfl (fun r2 M2 hw => ?_)
  have hw3 := hw.2
  refine q_pop hC dL_law_757 rfl 758 rfl ?_
  refine q_goto hC 1437 dL_law_758 (by decide) ?_
  exact kk _ hw3
set_option maxHeartbeats 4000000 in
theorem law_c19 {z : ZZ} {g : GG} {Qf : State → Prop} {M : MM} {b Ln : Nat} {xs : Nat → Int32} {v3 : Int32} (hC : CX z g cL_law 4 wsL_law RL room_1) (hF : full g) (hX : SX z g b Ln xs) (hB : inS v3 Ln) (hR : Rel M) (kk : ∀ M2, Rel M2 → XX z g Qf 4 1437 [(0, .ref b), (1, .ref (gA g 0)), (2, .ref (gA g 52)), (3, .int v3)] [] M2) : XX z g Qf 4 761 [(0, .ref b), (1, .ref (gA g 0)), (2, .ref (gA g 52)), (3, .int v3)] [] M := by
  refine q_aload_n hC dL_law_761 1 rfl 762 rfl ?_
  refine q_aload_n hC dL_law_762 0 rfl 763 rfl ?_
  refine q_iload_n hC dL_law_763 3 rfl 764 rfl ?_
  refine q_iconst (v := 1) hC dL_law_764 (by decide) 765 rfl ?_
  refine q_iadd hC dL_law_765 766 rfl ?_
  refine q_sld hC hX hB.2.1 dL_law_766 767 rfl ?_
  refine r_callI hC (go_V (q := (RX4, TX4, 12)) (As := [.int (xs (v3 + 1).toNatClampNeg)]) (rest := []) hC (ctX4_check (zl z) g M (xs (v3 + 1).toNatClampNeg) _ hF (L_check hR (xs (v3 + 1).toNatClampNeg))) 1 gL_law_X4_check rfl ⟨rfl, rfl⟩ hdL_X4_check ⟨Nat.le_of_ble_eq_true rfl, Nat.le_of_ble_eq_true rfl⟩ (obF0 hF) rfl rfl rfl (Nat.le_of_ble_eq_true rfl) dL_law_767) 770 rfl (fun r1 M1 hw => ?_)
  refine q_pop hC dL_law_770 rfl 771 rfl ?_
  refine q_aload_n hC dL_law_771 2 rfl 772 rfl ?_
  refine q_aload_n hC dL_law_772 0 rfl 773 rfl ?_
  refine q_iload_n hC dL_law_773 3 rfl 774 rfl ?_
  refine q_iconst (v := 1) hC dL_law_774 (by decide) 775 rfl ?_
  refine q_iadd hC dL_law_775 776 rfl ?_
  refine q_sld hC hX hB.2.1 dL_law_776 777 rfl ?_
  refine r_callI hC (go_V (q := (RX5, TX5, 26)) (As := [.int (xs (v3 + 1).toNatClampNeg)]) (rest := []) hC (ctX5_check (zl z) g M1 (xs (v3 + 1).toNatClampNeg) _ hF.f5 hw) 1 gL_law_X5_check rfl ⟨rfl, rfl⟩ hdL_X5_check ⟨Nat.le_of_ble_eq_true rfl, Nat.le_of_ble_eq_true rfl⟩ (obF52 hF.f5) rfl rfl rfl (Nat.le_of_ble_eq_true rfl) dL_law_777) 780 rfl (fun r2 M2 hw => ?_)
  have hw3 := hw.2
  refine q_pop hC dL_law_780 rfl 781 rfl ?_
  refine q_goto hC 1437 dL_law_781 (by decide) ?_
  exact kk _ hw3
set_option maxHeartbeats 4000000 in
theorem law_c20 {z : ZZ} {g : GG} {Qf : State → Prop} {M : MM} {b Ln : Nat} {xs : Nat → Int32} {v3 : Int32} (hC : CX z g cL_law 4 wsL_law RL room_1) (hF : full g) (hX : SX z g b Ln xs) (hB : inS v3 Ln) (hR : Rel M) (kk : ∀ M2, Rel M2 → XX z g Qf 4 1437 [(0, .ref b), (1, .ref (gA g 0)), (2, .ref (gA g 52)), (3, .int v3)] [] M2) : XX z g Qf 4 784 [(0, .ref b), (1, .ref (gA g 0)), (2, .ref (gA g 52)), (3, .int v3)] [] M := by
  refine q_aload_n hC dL_law_784 1 rfl 785 rfl ?_
  refine q_aload_n hC dL_law_785 0 rfl 786 rfl ?_
  refine q_iload_n hC dL_law_786 3 rfl 787 rfl ?_
  refine q_iconst (v := 1) hC dL_law_787 (by decide) 788 rfl ?_
  refine q_iadd hC dL_law_788 789 rfl ?_
  refine q_sld hC hX hB.2.1 dL_law_789 790 rfl ?_
  refine q_aload_n hC dL_law_790 0 rfl 791 rfl ?_
  refine q_iload_n hC dL_law_791 3 rfl 792 rfl ?_
  refine q_iconst (v := 2) hC dL_law_792 (by decide) 793 rfl ?_
  refine q_iadd hC dL_law_793 794 rfl ?_
  refine q_sld hC hX hB.2.2.1 dL_law_794 795 rfl ?_
  refine r_callI hC (go_V (q := (RX4, TX4, 12)) (As := [.int (xs (v3 + 1).toNatClampNeg), .int (xs (v3 + 2).toNatClampNeg)]) (rest := []) hC (ctX4_got (zl z) g M (xs (v3 + 1).toNatClampNeg) (xs (v3 + 2).toNatClampNeg) _ hF (L_got hR (xs (v3 + 1).toNatClampNeg) (xs (v3 + 2).toNatClampNeg))) 2 gL_law_X4_got rfl ⟨rfl, rfl⟩ hdL_X4_got ⟨Nat.le_of_ble_eq_true rfl, Nat.le_of_ble_eq_true rfl⟩ (obF0 hF) rfl rfl rfl (Nat.le_of_ble_eq_true rfl) dL_law_795) 798 rfl (fun r1 M1 hw => ?_)
  refine q_pop hC dL_law_798 rfl 799 rfl ?_
  refine q_aload_n hC dL_law_799 2 rfl 800 rfl ?_
  refine q_aload_n hC dL_law_800 0 rfl 801 rfl ?_
  refine q_iload_n hC dL_law_801 3 rfl 802 rfl ?_
  refine q_iconst (v := 1) hC dL_law_802 (by decide) 803 rfl ?_
  refine q_iadd hC dL_law_803 804 rfl ?_
  refine q_sld hC hX hB.2.1 dL_law_804 805 rfl ?_
  refine q_aload_n hC dL_law_805 0 rfl 806 rfl ?_
  refine q_iload_n hC dL_law_806 3 rfl 807 rfl ?_
  refine q_iconst (v := 2) hC dL_law_807 (by decide) 808 rfl ?_
  refine q_iadd hC dL_law_808 809 rfl ?_
  refine q_sld hC hX hB.2.2.1 dL_law_809 810 rfl ?_
  refine r_callI hC (go_V (q := (RX5, TX5, 26)) (As := [.int (xs (v3 + 1).toNatClampNeg), .int (xs (v3 + 2).toNatClampNeg)]) (rest := []) hC (ctX5_got (zl z) g M1 (xs (v3 + 1).toNatClampNeg) (xs (v3 + 2).toNatClampNeg) _ hF.f5 hw) 2 gL_law_X5_got rfl ⟨rfl, rfl⟩ hdL_X5_got ⟨Nat.le_of_ble_eq_true rfl, Nat.le_of_ble_eq_true rfl⟩ (obF52 hF.f5) rfl rfl rfl (Nat.le_of_ble_eq_true rfl) dL_law_810) 813 rfl (fun r2 M2 hw => ?_)
  have hw3 := hw.2
  refine q_pop hC dL_law_813 rfl 814 rfl ?_
  refine q_goto hC 1437 dL_law_814 (by decide) ?_
  exact kk _ hw3
set_option maxHeartbeats 4000000 in
theorem law_c21 {z : ZZ} {g : GG} {Qf : State → Prop} {M : MM} {b Ln : Nat} {xs : Nat → Int32} {v3 : Int32} (hC : CX z g cL_law 4 wsL_law RL room_1) (hF : full g) (hX : SX z g b Ln xs) (hB : inS v3 Ln) (hR : Rel M) (kk : ∀ M2, Rel M2 → XX z g Qf 4 1437 [(0, .ref b), (1, .ref (gA g 0)), (2, .ref (gA g 52)), (3, .int v3)] [] M2) : XX z g Qf 4 817 [(0, .ref b), (1, .ref (gA g 0)), (2, .ref (gA g 52)), (3, .int v3)] [] M := by
  refine q_aload_n hC dL_law_817 1 rfl 818 rfl ?_
  refine q_aload_n hC dL_law_818 0 rfl 819 rfl ?_
  refine q_iload_n hC dL_law_819 3 rfl 820 rfl ?_
  refine q_iconst (v := 1) hC dL_law_820 (by decide) 821 rfl ?_
  refine q_iadd hC dL_law_821 822 rfl ?_
  refine q_sld hC hX hB.2.1 dL_law_822 823 rfl ?_
  refine q_aload_n hC dL_law_823 0 rfl 824 rfl ?_
  refine q_iload_n hC dL_law_824 3 rfl 825 rfl ?_
  refine q_iconst (v := 2) hC dL_law_825 (by decide) 826 rfl ?_
  refine q_iadd hC dL_law_826 827 rfl ?_
  refine q_sld hC hX hB.2.2.1 dL_law_827 828 rfl ?_
  refine r_callI hC (go_V (q := (RX4, TX4, 12)) (As := [.int (xs (v3 + 1).toNatClampNeg), .int (xs (v3 + 2).toNatClampNeg)]) (rest := []) hC (ctX4_column (zl z) g M (xs (v3 + 1).toNatClampNeg) (xs (v3 + 2).toNatClampNeg) _ hF (L_column hR (xs (v3 + 1).toNatClampNeg) (xs (v3 + 2).toNatClampNeg))) 2 gL_law_X4_column rfl ⟨rfl, rfl⟩ hdL_X4_column ⟨Nat.le_of_ble_eq_true rfl, Nat.le_of_ble_eq_true rfl⟩ (obF0 hF) rfl rfl rfl (Nat.le_of_ble_eq_true rfl) dL_law_828) 831 rfl (fun r1 M1 hw => ?_)
  refine q_pop hC dL_law_831 rfl 832 rfl ?_
  refine q_aload_n hC dL_law_832 2 rfl 833 rfl ?_
  refine q_aload_n hC dL_law_833 0 rfl 834 rfl ?_
  refine q_iload_n hC dL_law_834 3 rfl 835 rfl ?_
  refine q_iconst (v := 1) hC dL_law_835 (by decide) 836 rfl ?_
  refine q_iadd hC dL_law_836 837 rfl ?_
  refine q_sld hC hX hB.2.1 dL_law_837 838 rfl ?_
  refine q_aload_n hC dL_law_838 0 rfl 839 rfl ?_
  refine q_iload_n hC dL_law_839 3 rfl 840 rfl ?_
  refine q_iconst (v := 2) hC dL_law_840 (by decide) 841 rfl ?_
  refine q_iadd hC dL_law_841 842 rfl ?_
  refine q_sld hC hX hB.2.2.1 dL_law_842 843 rfl ?_
  refine r_callI hC (go_V (q := (RX5, TX5, 26)) (As := [.int (xs (v3 + 1).toNatClampNeg), .int (xs (v3 + 2).toNatClampNeg)]) (rest := []) hC (ctX5_column (zl z) g M1 (xs (v3 + 1).toNatClampNeg) (xs (v3 + 2).toNatClampNeg) _ hF.f5 hw) 2 gL_law_X5_column rfl ⟨rfl, rfl⟩ hdL_X5_column ⟨Nat.le_of_ble_eq_true rfl, Nat.le_of_ble_eq_true rfl⟩ (obF52 hF.f5) rfl rfl rfl (Nat.le_of_ble_eq_true rfl) dL_law_843) 846 rfl (fun r2 M2 hw => ?_)
  have hw3 := hw.2
  refine q_pop hC dL_law_846 rfl 847 rfl ?_
  refine q_goto hC 1437 dL_law_847 (by decide) ?_
  exact kk _ hw3
set_option maxHeartbeats 4000000 in
theorem law_c22 {z : ZZ} {g : GG} {Qf : State → Prop} {M : MM} {b Ln : Nat} {xs : Nat → Int32} {v3 : Int32} (hC : CX z g cL_law 4 wsL_law RL room_1) (hF : full g) (hX : SX z g b Ln xs) (hB : inS v3 Ln) (hR : Rel M) (kk : ∀ M2, Rel M2 → XX z g Qf 4 1437 [(0, .ref b), (1, .ref (gA g 0)), (2, .ref (gA g 52)), (3, .int v3)] [] M2) : XX z g Qf 4 850 [(0, .ref b), (1, .ref (gA g 0)), (2, .ref (gA g 52)), (3, .int v3)] [] M := by
  refine q_aload_n hC dL_law_850 1 rfl 851 rfl ?_
  refine q_aload_n hC dL_law_851 0 rfl 852 rfl ?_
  refine q_iload_n hC dL_law_852 3 rfl 853 rfl ?_
  refine q_iconst (v := 1) hC dL_law_853 (by decide) 854 rfl ?_
  refine q_iadd hC dL_law_854 855 rfl ?_
  refine q_sld hC hX hB.2.1 dL_law_855 856 rfl ?_
  refine r_callI hC (go_V (q := (RX4, TX4, 12)) (As := [.int (xs (v3 + 1).toNatClampNeg)]) (rest := []) hC (ctX4_state (zl z) g M (xs (v3 + 1).toNatClampNeg) _ hF (L_state hR (xs (v3 + 1).toNatClampNeg))) 1 gL_law_X4_state rfl ⟨rfl, rfl⟩ hdL_X4_state ⟨Nat.le_of_ble_eq_true rfl, Nat.le_of_ble_eq_true rfl⟩ (obF0 hF) rfl rfl rfl (Nat.le_of_ble_eq_true rfl) dL_law_856) 859 rfl (fun r1 M1 hw => ?_)
  refine q_pop hC dL_law_859 rfl 860 rfl ?_
  refine q_aload_n hC dL_law_860 2 rfl 861 rfl ?_
  refine q_aload_n hC dL_law_861 0 rfl 862 rfl ?_
  refine q_iload_n hC dL_law_862 3 rfl 863 rfl ?_
  refine q_iconst (v := 1) hC dL_law_863 (by decide) 864 rfl ?_
  refine q_iadd hC dL_law_864 865 rfl ?_
  refine q_sld hC hX hB.2.1 dL_law_865 866 rfl ?_
  refine r_callI hC (go_V (q := (RX5, TX5, 26)) (As := [.int (xs (v3 + 1).toNatClampNeg)]) (rest := []) hC (ctX5_state (zl z) g M1 (xs (v3 + 1).toNatClampNeg) _ hF.f5 hw) 1 gL_law_X5_state rfl ⟨rfl, rfl⟩ hdL_X5_state ⟨Nat.le_of_ble_eq_true rfl, Nat.le_of_ble_eq_true rfl⟩ (obF52 hF.f5) rfl rfl rfl (Nat.le_of_ble_eq_true rfl) dL_law_866) 869 rfl (fun r2 M2 hw => ?_)
  have hw3 := hw.2
  refine q_pop hC dL_law_869 rfl 870 rfl ?_
  refine q_goto hC 1437 dL_law_870 (by decide) ?_
  exact kk _ hw3
set_option maxHeartbeats 4000000 in
theorem law_c23 {z : ZZ} {g : GG} {Qf : State → Prop} {M : MM} {b Ln : Nat} {xs : Nat → Int32} {v3 : Int32} (hC : CX z g cL_law 4 wsL_law RL room_1) (hF : full g) (hX : SX z g b Ln xs) (hB : inS v3 Ln) (hR : Rel M) (kk : ∀ M2, Rel M2 → XX z g Qf 4 1437 [(0, .ref b), (1, .ref (gA g 0)), (2, .ref (gA g 52)), (3, .int v3)] [] M2) : XX z g Qf 4 873 [(0, .ref b), (1, .ref (gA g 0)), (2, .ref (gA g 52)), (3, .int v3)] [] M := by
  refine q_aload_n hC dL_law_873 1 rfl 874 rfl ?_
  refine q_aload_n hC dL_law_874 0 rfl 875 rfl ?_
  refine q_iload_n hC dL_law_875 3 rfl 876 rfl ?_
  refine q_iconst (v := 1) hC dL_law_876 (by decide) 877 rfl ?_
  refine q_iadd hC dL_law_877 878 rfl ?_
  refine q_sld hC hX hB.2.1 dL_law_878 879 rfl ?_
  refine r_callI hC (go_V (q := (RX4, TX4, 12)) (As := [.int (xs (v3 + 1).toNatClampNeg)]) (rest := []) hC (ctX4_best (zl z) g M (xs (v3 + 1).toNatClampNeg) _ hF (L_best hR (xs (v3 + 1).toNatClampNeg))) 1 gL_law_X4_best rfl ⟨rfl, rfl⟩ hdL_X4_best ⟨Nat.le_of_ble_eq_true rfl, Nat.le_of_ble_eq_true rfl⟩ (obF0 hF) rfl rfl rfl (Nat.le_of_ble_eq_true rfl) dL_law_879) 882 rfl (fun r1 M1 hw => ?_)
  refine q_pop hC dL_law_882 rfl 883 rfl ?_
  refine q_aload_n hC dL_law_883 2 rfl 884 rfl ?_
  refine q_aload_n hC dL_law_884 0 rfl 885 rfl ?_
  refine q_iload_n hC dL_law_885 3 rfl 886 rfl ?_
  refine q_iconst (v := 1) hC dL_law_886 (by decide) 887 rfl ?_
  refine q_iadd hC dL_law_887 888 rfl ?_
  refine q_sld hC hX hB.2.1 dL_law_888 889 rfl ?_
  refine r_callI hC (go_V (q := (RX5, TX5, 26)) (As := [.int (xs (v3 + 1).toNatClampNeg)]) (rest := []) hC (ctX5_best (zl z) g M1 (xs (v3 + 1).toNatClampNeg) _ hF.f5 hw) 1 gL_law_X5_best rfl ⟨rfl, rfl⟩ hdL_X5_best ⟨Nat.le_of_ble_eq_true rfl, Nat.le_of_ble_eq_true rfl⟩ (obF52 hF.f5) rfl rfl rfl (Nat.le_of_ble_eq_true rfl) dL_law_889) 892 rfl (fun r2 M2 hw => ?_)
  have hw3 := hw.2
  refine q_pop hC dL_law_892 rfl 893 rfl ?_
  refine q_goto hC 1437 dL_law_893 (by decide) ?_
  exact kk _ hw3
