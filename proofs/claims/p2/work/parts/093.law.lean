set_option maxHeartbeats 4000000 in
theorem law_c24 {z : ZZ} {g : GG} {Qf : State → Prop} {M : MM} {b Ln : Nat} {xs : Nat → Int32} {v3 : Int32} (hC : CX z g cL_law 4 wsL_law RL room_1) (hF : full g) (hX : SX z g b Ln xs) (hB : inS v3 Ln) (hR : Rel M) (kk : ∀ M2, Rel M2 → XX z g Qf 4 1437 [(0, .ref b), (1, .ref (gA g 0)), (2, .ref (gA g 52)), (3, .int v3)] [] M2) : XX z g Qf 4 896 [(0, .ref b), (1, .ref (gA g 0)), (2, .ref (gA g 52)), (3, .int v3)] [] M := by
  refine q_aload_n hC dL_law_896 1 rfl 897 rfl ?_
  refine q_aload_n hC dL_law_897 0 rfl 898 rfl ?_
  refine q_iload_n hC dL_law_898 3 rfl 899 rfl ?_
  refine q_iconst (v := 1) hC dL_law_899 (by decide) 900 rfl ?_
  refine q_iadd hC dL_law_900 901 rfl ?_
  refine q_sld hC hX hB.2.1 dL_law_901 902 rfl ?_
  refine q_aload_n hC dL_law_902 0 rfl 903 rfl ?_
  refine q_iload_n hC dL_law_903 3 rfl 904 rfl ?_
  refine q_iconst (v := 2) hC dL_law_904 (by decide) 905 rfl ?_
  refine q_iadd hC dL_law_905 906 rfl ?_
  refine q_sld hC hX hB.2.2.1 dL_law_906 907 rfl ?_
  refine r_callI hC (go_V (q := (RX4, TX4, 12)) (As := [.int (xs (v3 + 1).toNatClampNeg), .int (xs (v3 + 2).toNatClampNeg)]) (rest := []) hC (ctX4_order (zl z) g M (xs (v3 + 1).toNatClampNeg) (xs (v3 + 2).toNatClampNeg) _ hF (L_order hR (xs (v3 + 1).toNatClampNeg) (xs (v3 + 2).toNatClampNeg))) 2 gL_law_X4_order rfl ⟨rfl, rfl⟩ hdL_X4_order ⟨Nat.le_of_ble_eq_true rfl, Nat.le_of_ble_eq_true rfl⟩ (obF0 hF) rfl rfl rfl (Nat.le_of_ble_eq_true rfl) dL_law_907) 910 rfl (fun r1 M1 hw => ?_)
  refine q_pop hC dL_law_910 rfl 911 rfl ?_
  refine q_aload_n hC dL_law_911 2 rfl 912 rfl ?_
  refine q_aload_n hC dL_law_912 0 rfl 913 rfl ?_
  refine q_iload_n hC dL_law_913 3 rfl 914 rfl ?_
  refine q_iconst (v := 1) hC dL_law_914 (by decide) 915 rfl ?_
  refine q_iadd hC dL_law_915 916 rfl ?_
  refine q_sld hC hX hB.2.1 dL_law_916 917 rfl ?_
  refine q_aload_n hC dL_law_917 0 rfl 918 rfl ?_
  refine q_iload_n hC dL_law_918 3 rfl 919 rfl ?_
  refine q_iconst (v := 2) hC dL_law_919 (by decide) 920 rfl ?_
  refine q_iadd hC dL_law_920 921 rfl ?_
  refine q_sld hC hX hB.2.2.1 dL_law_921 922 rfl ?_
  refine r_callI hC (go_V (q := (RX5, TX5, 26)) (As := [.int (xs (v3 + 1).toNatClampNeg), .int (xs (v3 + 2).toNatClampNeg)]) (rest := []) hC (ctX5_order (zl z) g M1 (xs (v3 + 1).toNatClampNeg) (xs (v3 + 2).toNatClampNeg) _ hF.f5 hw) 2 gL_law_X5_order rfl ⟨rfl, rfl⟩ hdL_X5_order ⟨Nat.le_of_ble_eq_true rfl, Nat.le_of_ble_eq_true rfl⟩ (obF52 hF.f5) rfl rfl rfl (Nat.le_of_ble_eq_true rfl) dL_law_922) 925 rfl (fun r2 M2 hw => ?_)
  have hw3 := hw.2
  refine q_pop hC dL_law_925 rfl 926 rfl ?_
  refine q_goto hC 1437 dL_law_926 (by decide) ?_
  exact kk _ hw3
set_option maxHeartbeats 4000000 in
theorem law_c25 {z : ZZ} {g : GG} {Qf : State → Prop} {M : MM} {b Ln : Nat} {xs : Nat → Int32} {v3 : Int32} (hC : CX z g cL_law 4 wsL_law RL room_1) (hF : full g) (hX : SX z g b Ln xs) (hB : inS v3 Ln) (hR : Rel M) (kk : ∀ M2, Rel M2 → XX z g Qf 4 1437 [(0, .ref b), (1, .ref (gA g 0)), (2, .ref (gA g 52)), (3, .int v3)] [] M2) : XX z g Qf 4 929 [(0, .ref b), (1, .ref (gA g 0)), (2, .ref (gA g 52)), (3, .int v3)] [] M := by
  refine q_aload_n hC dL_law_929 1 rfl 930 rfl ?_
  refine q_aload_n hC dL_law_930 0 rfl 931 rfl ?_
  refine q_iload_n hC dL_law_931 3 rfl 932 rfl ?_
  refine q_iconst (v := 1) hC dL_law_932 (by decide) 933 rfl ?_
  refine q_iadd hC dL_law_933 934 rfl ?_
  refine q_sld hC hX hB.2.1 dL_law_934 935 rfl ?_
  refine r_callI hC (go_V (q := (RX4, TX4, 12)) (As := [.int (xs (v3 + 1).toNatClampNeg)]) (rest := []) hC (ctX4_reads (zl z) g M (xs (v3 + 1).toNatClampNeg) _ hF (L_reads hR (xs (v3 + 1).toNatClampNeg))) 1 gL_law_X4_reads rfl ⟨rfl, rfl⟩ hdL_X4_reads ⟨Nat.le_of_ble_eq_true rfl, Nat.le_of_ble_eq_true rfl⟩ (obF0 hF) rfl rfl rfl (Nat.le_of_ble_eq_true rfl) dL_law_935) 938 rfl (fun r1 M1 hw => ?_)
  refine q_pop hC dL_law_938 rfl 939 rfl ?_
  refine q_aload_n hC dL_law_939 2 rfl 940 rfl ?_
  refine q_aload_n hC dL_law_940 0 rfl 941 rfl ?_
  refine q_iload_n hC dL_law_941 3 rfl 942 rfl ?_
  refine q_iconst (v := 1) hC dL_law_942 (by decide) 943 rfl ?_
  refine q_iadd hC dL_law_943 944 rfl ?_
  refine q_sld hC hX hB.2.1 dL_law_944 945 rfl ?_
  refine r_callI hC (go_V (q := (RX5, TX5, 26)) (As := [.int (xs (v3 + 1).toNatClampNeg)]) (rest := []) hC (ctX5_reads (zl z) g M1 (xs (v3 + 1).toNatClampNeg) _ hF.f5 hw) 1 gL_law_X5_reads rfl ⟨rfl, rfl⟩ hdL_X5_reads ⟨Nat.le_of_ble_eq_true rfl, Nat.le_of_ble_eq_true rfl⟩ (obF52 hF.f5) rfl rfl rfl (Nat.le_of_ble_eq_true rfl) dL_law_945) 948 rfl (fun r2 M2 hw => ?_)
  have hw3 := hw.2
  refine q_pop hC dL_law_948 rfl 949 rfl ?_
  refine q_goto hC 1437 dL_law_949 (by decide) ?_
  exact kk _ hw3
set_option maxHeartbeats 4000000 in
theorem law_c26 {z : ZZ} {g : GG} {Qf : State → Prop} {M : MM} {b Ln : Nat} {xs : Nat → Int32} {v3 : Int32} (hC : CX z g cL_law 4 wsL_law RL room_1) (hF : full g) (hX : SX z g b Ln xs) (hB : inS v3 Ln) (hR : Rel M) (kk : ∀ M2, Rel M2 → XX z g Qf 4 1437 [(0, .ref b), (1, .ref (gA g 0)), (2, .ref (gA g 52)), (3, .int v3)] [] M2) : XX z g Qf 4 952 [(0, .ref b), (1, .ref (gA g 0)), (2, .ref (gA g 52)), (3, .int v3)] [] M := by
  refine q_aload_n hC dL_law_952 1 rfl 953 rfl ?_
  refine q_aload_n hC dL_law_953 0 rfl 954 rfl ?_
  refine q_iload_n hC dL_law_954 3 rfl 955 rfl ?_
  refine q_iconst (v := 1) hC dL_law_955 (by decide) 956 rfl ?_
  refine q_iadd hC dL_law_956 957 rfl ?_
  refine q_sld hC hX hB.2.1 dL_law_957 958 rfl ?_
  refine q_aload_n hC dL_law_958 0 rfl 959 rfl ?_
  refine q_iload_n hC dL_law_959 3 rfl 960 rfl ?_
  refine q_iconst (v := 2) hC dL_law_960 (by decide) 961 rfl ?_
  refine q_iadd hC dL_law_961 962 rfl ?_
  refine q_sld hC hX hB.2.2.1 dL_law_962 963 rfl ?_
  refine r_callI hC (go_V (q := (RX4, TX4, 12)) (As := [.int (xs (v3 + 1).toNatClampNeg), .int (xs (v3 + 2).toNatClampNeg)]) (rest := []) hC (ctX4_cut (zl z) g M (xs (v3 + 1).toNatClampNeg) (xs (v3 + 2).toNatClampNeg) _ hF (L_cut hR (xs (v3 + 1).toNatClampNeg) (xs (v3 + 2).toNatClampNeg))) 2 gL_law_X4_cut rfl ⟨rfl, rfl⟩ hdL_X4_cut ⟨Nat.le_of_ble_eq_true rfl, Nat.le_of_ble_eq_true rfl⟩ (obF0 hF) rfl rfl rfl (Nat.le_of_ble_eq_true rfl) dL_law_963) 966 rfl (fun r1 M1 hw => ?_)
  refine q_pop hC dL_law_966 rfl 967 rfl ?_
  refine q_aload_n hC dL_law_967 2 rfl 968 rfl ?_
  refine q_aload_n hC dL_law_968 0 rfl 969 rfl ?_
  refine q_iload_n hC dL_law_969 3 rfl 970 rfl ?_
  refine q_iconst (v := 1) hC dL_law_970 (by decide) 971 rfl ?_
  refine q_iadd hC dL_law_971 972 rfl ?_
  refine q_sld hC hX hB.2.1 dL_law_972 973 rfl ?_
  refine q_aload_n hC dL_law_973 0 rfl 974 rfl ?_
  refine q_iload_n hC dL_law_974 3 rfl 975 rfl ?_
  refine q_iconst (v := 2) hC dL_law_975 (by decide) 976 rfl ?_
  refine q_iadd hC dL_law_976 977 rfl ?_
  refine q_sld hC hX hB.2.2.1 dL_law_977 978 rfl ?_
  refine r_callI hC (go_V (q := (RX5, TX5, 26)) (As := [.int (xs (v3 + 1).toNatClampNeg), .int (xs (v3 + 2).toNatClampNeg)]) (rest := []) hC (ctX5_cut (zl z) g M1 (xs (v3 + 1).toNatClampNeg) (xs (v3 + 2).toNatClampNeg) _ hF.f5 hw) 2 gL_law_X5_cut rfl ⟨rfl, rfl⟩ hdL_X5_cut ⟨Nat.le_of_ble_eq_true rfl, Nat.le_of_ble_eq_true rfl⟩ (obF52 hF.f5) rfl rfl rfl (Nat.le_of_ble_eq_true rfl) dL_law_978) 981 rfl (fun r2 M2 hw => ?_)
  have hw3 := hw.2
  refine q_pop hC dL_law_981 rfl 982 rfl ?_
  refine q_goto hC 1437 dL_law_982 (by decide) ?_
  exact kk _ hw3
set_option maxHeartbeats 4000000 in
theorem law_c27 {z : ZZ} {g : GG} {Qf : State → Prop} {M : MM} {b Ln : Nat} {xs : Nat → Int32} {v3 : Int32} (hC : CX z g cL_law 4 wsL_law RL room_1) (hF : full g) (hX : SX z g b Ln xs) (hB : inS v3 Ln) (hR : Rel M) (kk : ∀ M2, Rel M2 → XX z g Qf 4 1437 [(0, .ref b), (1, .ref (gA g 0)), (2, .ref (gA g 52)), (3, .int v3)] [] M2) : XX z g Qf 4 985 [(0, .ref b), (1, .ref (gA g 0)), (2, .ref (gA g 52)), (3, .int v3)] [] M := by
  refine q_aload_n hC dL_law_985 1 rfl 986 rfl ?_
  refine q_aload_n hC dL_law_986 0 rfl 987 rfl ?_
  refine q_iload_n hC dL_law_987 3 rfl 988 rfl ?_
  refine q_iconst (v := 1) hC dL_law_988 (by decide) 989 rfl ?_
  refine q_iadd hC dL_law_989 990 rfl ?_
  refine q_sld hC hX hB.2.1 dL_law_990 991 rfl ?_
  refine r_callI hC (go_V (q := (RX4, TX4, 12)) (As := [.int (xs (v3 + 1).toNatClampNeg)]) (rest := []) hC (ctX4_holds (zl z) g M (xs (v3 + 1).toNatClampNeg) _ hF (L_holds hR (xs (v3 + 1).toNatClampNeg))) 1 gL_law_X4_holds rfl ⟨rfl, rfl⟩ hdL_X4_holds ⟨Nat.le_of_ble_eq_true rfl, Nat.le_of_ble_eq_true rfl⟩ (obF0 hF) rfl rfl rfl (Nat.le_of_ble_eq_true rfl) dL_law_991) 994 rfl (fun r1 M1 hw => ?_)
  refine q_pop hC dL_law_994 rfl 995 rfl ?_
  refine q_aload_n hC dL_law_995 2 rfl 996 rfl ?_
  refine q_aload_n hC dL_law_996 0 rfl 997 rfl ?_
  refine q_iload_n hC dL_law_997 3 rfl 998 rfl ?_
  refine q_iconst (v := 1) hC dL_law_998 (by decide) 999 rfl ?_
  refine q_iadd hC dL_law_999 1000 rfl ?_
  refine q_sld hC hX hB.2.1 dL_law_1000 1001 rfl ?_
  refine r_callI hC (go_V (q := (RX5, TX5, 26)) (As := [.int (xs (v3 + 1).toNatClampNeg)]) (rest := []) hC (ctX5_holds (zl z) g M1 (xs (v3 + 1).toNatClampNeg) _ hF.f5 hw) 1 gL_law_X5_holds rfl ⟨rfl, rfl⟩ hdL_X5_holds ⟨Nat.le_of_ble_eq_true rfl, Nat.le_of_ble_eq_true rfl⟩ (obF52 hF.f5) rfl rfl rfl (Nat.le_of_ble_eq_true rfl) dL_law_1001) 1004 rfl (fun r2 M2 hw => ?_)
  have hw3 := hw.2
  refine q_pop hC dL_law_1004 rfl 1005 rfl ?_
  refine q_goto hC 1437 dL_law_1005 (by decide) ?_
  exact kk _ hw3
set_option maxHeartbeats 4000000 in
theorem law_c28 {z : ZZ} {g : GG} {Qf : State → Prop} {M : MM} {b Ln : Nat} {xs : Nat → Int32} {v3 : Int32} (hC : CX z g cL_law 4 wsL_law RL room_1) (hF : full g) (hX : SX z g b Ln xs) (hB : inS v3 Ln) (hR : Rel M) (kk : ∀ M2, Rel M2 → XX z g Qf 4 1437 [(0, .ref b), (1, .ref (gA g 0)), (2, .ref (gA g 52)), (3, .int v3)] [] M2) : XX z g Qf 4 1008 [(0, .ref b), (1, .ref (gA g 0)), (2, .ref (gA g 52)), (3, .int v3)] [] M := by
  refine q_aload_n hC dL_law_1008 1 rfl 1009 rfl ?_
  refine q_aload_n hC dL_law_1009 0 rfl 1010 rfl ?_
  refine q_iload_n hC dL_law_1010 3 rfl 1011 rfl ?_
  refine q_iconst (v := 1) hC dL_law_1011 (by decide) 1012 rfl ?_
  refine q_iadd hC dL_law_1012 1013 rfl ?_
  refine q_sld hC hX hB.2.1 dL_law_1013 1014 rfl ?_
  refine r_callI hC (go_V (q := (RX4, TX4, 12)) (As := [.int (xs (v3 + 1).toNatClampNeg)]) (rest := []) hC (ctX4_most (zl z) g M (xs (v3 + 1).toNatClampNeg) _ hF (L_most hR (xs (v3 + 1).toNatClampNeg))) 1 gL_law_X4_most rfl ⟨rfl, rfl⟩ hdL_X4_most ⟨Nat.le_of_ble_eq_true rfl, Nat.le_of_ble_eq_true rfl⟩ (obF0 hF) rfl rfl rfl (Nat.le_of_ble_eq_true rfl) dL_law_1014) 1017 rfl (fun r1 M1 hw => ?_)
  refine q_pop hC dL_law_1017 rfl 1018 rfl ?_
  refine q_aload_n hC dL_law_1018 2 rfl 1019 rfl ?_
  refine q_aload_n hC dL_law_1019 0 rfl 1020 rfl ?_
  refine q_iload_n hC dL_law_1020 3 rfl 1021 rfl ?_
  refine q_iconst (v := 1) hC dL_law_1021 (by decide) 1022 rfl ?_
  refine q_iadd hC dL_law_1022 1023 rfl ?_
  refine q_sld hC hX hB.2.1 dL_law_1023 1024 rfl ?_
  refine r_callI hC (go_V (q := (RX5, TX5, 26)) (As := [.int (xs (v3 + 1).toNatClampNeg)]) (rest := []) hC (ctX5_most (zl z) g M1 (xs (v3 + 1).toNatClampNeg) _ hF.f5 hw) 1 gL_law_X5_most rfl ⟨rfl, rfl⟩ hdL_X5_most ⟨Nat.le_of_ble_eq_true rfl, Nat.le_of_ble_eq_true rfl⟩ (obF52 hF.f5) rfl rfl rfl (Nat.le_of_ble_eq_true rfl) dL_law_1024) 1027 rfl (fun r2 M2 hw => ?_)
  have hw3 := hw.2
  refine q_pop hC dL_law_1027 rfl 1028 rfl ?_
  refine q_goto hC 1437 dL_law_1028 (by decide) ?_
  exact kk _ hw3
set_option maxHeartbeats 4000000 in
theorem law_c29 {z : ZZ} {g : GG} {Qf : State → Prop} {M : MM} {b Ln : Nat} {xs : Nat → Int32} {v3 : Int32} (hC : CX z g cL_law 4 wsL_law RL room_1) (hF : full g) (hX : SX z g b Ln xs) (hB : inS v3 Ln) (hR : Rel M) (kk : ∀ M2, Rel M2 → XX z g Qf 4 1437 [(0, .ref b), (1, .ref (gA g 0)), (2, .ref (gA g 52)), (3, .int v3)] [] M2) : XX z g Qf 4 1031 [(0, .ref b), (1, .ref (gA g 0)), (2, .ref (gA g 52)), (3, .int v3)] [] M := by
  refine q_aload_n hC dL_law_1031 1 rfl 1032 rfl ?_
  refine q_aload_n hC dL_law_1032 0 rfl 1033 rfl ?_
  refine q_iload_n hC dL_law_1033 3 rfl 1034 rfl ?_
  refine q_iconst (v := 1) hC dL_law_1034 (by decide) 1035 rfl ?_
  refine q_iadd hC dL_law_1035 1036 rfl ?_
  refine q_sld hC hX hB.2.1 dL_law_1036 1037 rfl ?_
  refine q_aload_n hC dL_law_1037 0 rfl 1038 rfl ?_
  refine q_iload_n hC dL_law_1038 3 rfl 1039 rfl ?_
  refine q_iconst (v := 2) hC dL_law_1039 (by decide) 1040 rfl ?_
  refine q_iadd hC dL_law_1040 1041 rfl ?_
  refine q_sld hC hX hB.2.2.1 dL_law_1041 1042 rfl ?_
  refine q_aload_n hC dL_law_1042 0 rfl 1043 rfl ?_
  refine q_iload_n hC dL_law_1043 3 rfl 1044 rfl ?_
  refine q_iconst (v := 3) hC dL_law_1044 (by decide) 1045 rfl ?_
  refine q_iadd hC dL_law_1045 1046 rfl ?_
  refine q_sld hC hX hB.2.2.2.1 dL_law_1046 1047 rfl ?_
  refine q_aload_n hC dL_law_1047 0 rfl 1048 rfl ?_
  refine q_iload_n hC dL_law_1048 3 rfl 1049 rfl ?_
  refine q_iconst (v := 4) hC dL_law_1049 (by decide) 1050 rfl ?_
  refine q_iadd hC dL_law_1050 1051 rfl ?_
  refine q_sld hC hX hB.2.2.2.2.1 dL_law_1051 1052 rfl ?_
  refine q_aload_n hC dL_law_1052 0 rfl 1053 rfl ?_
  refine q_iload_n hC dL_law_1053 3 rfl 1054 rfl ?_
  refine q_iconst (v := 5) hC dL_law_1054 (by decide) 1055 rfl ?_
  refine q_iadd hC dL_law_1055 1056 rfl ?_
  refine q_sld hC hX hB.2.2.2.2.2 dL_law_1056 1057 rfl ?_
  refine r_callI hC (go_V (q := (RX4, TX4, 12)) (As := [.int (xs (v3 + 1).toNatClampNeg), .int (xs (v3 + 2).toNatClampNeg), .int (xs (v3 + 3).toNatClampNeg), .int (xs (v3 + 4).toNatClampNeg), .int (xs (v3 + 5).toNatClampNeg)]) (rest := []) hC (ctX4_stream (zl z) g M (xs (v3 + 1).toNatClampNeg) (xs (v3 + 2).toNatClampNeg) (xs (v3 + 3).toNatClampNeg) (xs (v3 + 4).toNatClampNeg) (xs (v3 + 5).toNatClampNeg) _ hF (L_stream hR (xs (v3 + 1).toNatClampNeg) (xs (v3 + 2).toNatClampNeg) (xs (v3 + 3).toNatClampNeg) (xs (v3 + 4).toNatClampNeg) (xs (v3 + 5).toNatClampNeg))) 5 gL_law_X4_stream rfl ⟨rfl, rfl⟩ hdL_X4_stream ⟨Nat.le_of_ble_eq_true rfl, Nat.le_of_ble_eq_true rfl⟩ (obF0 hF) rfl rfl rfl (Nat.le_of_ble_eq_true rfl) dL_law_1057) 1060 rfl (fun r1 M1 hw => ?_)
  refine q_pop hC dL_law_1060 rfl 1061 rfl ?_
  refine q_aload_n hC dL_law_1061 2 rfl 1062 rfl ?_
  refine q_aload_n hC dL_law_1062 0 rfl 1063 rfl ?_
  refine q_iload_n hC dL_law_1063 3 rfl 1064 rfl ?_
  refine q_iconst (v := 1) hC dL_law_1064 (by decide) 1065 rfl ?_
  refine q_iadd hC dL_law_1065 1066 rfl ?_
  refine q_sld hC hX hB.2.1 dL_law_1066 1067 rfl ?_
  refine q_aload_n hC dL_law_1067 0 rfl 1068 rfl ?_
  refine q_iload_n hC dL_law_1068 3 rfl 1069 rfl ?_
  refine q_iconst (v := 2) hC dL_law_1069 (by decide) 1070 rfl ?_
  refine q_iadd hC dL_law_1070 1071 rfl ?_
  refine q_sld hC hX hB.2.2.1 dL_law_1071 1072 rfl ?_
  refine q_aload_n hC dL_law_1072 0 rfl 1073 rfl ?_
  refine q_iload_n hC dL_law_1073 3 rfl 1074 rfl ?_
  refine q_iconst (v := 3) hC dL_law_1074 (by decide) 1075 rfl ?_
  refine q_iadd hC dL_law_1075 1076 rfl ?_
  refine q_sld hC hX hB.2.2.2.1 dL_law_1076 1077 rfl ?_
  refine q_aload_n hC dL_law_1077 0 rfl 1078 rfl ?_
  refine q_iload_n hC dL_law_1078 3 rfl 1079 rfl ?_
  refine q_iconst (v := 4) hC dL_law_1079 (by decide) 1080 rfl ?_
  refine q_iadd hC dL_law_1080 1081 rfl ?_
  refine q_sld hC hX hB.2.2.2.2.1 dL_law_1081 1082 rfl ?_
  refine q_aload_n hC dL_law_1082 0 rfl 1083 rfl ?_
  refine q_iload_n hC dL_law_1083 3 rfl 1084 rfl ?_
  refine q_iconst (v := 5) hC dL_law_1084 (by decide) 1085 rfl ?_
  refine q_iadd hC dL_law_1085 1086 rfl ?_
  refine q_sld hC hX hB.2.2.2.2.2 dL_law_1086 1087 rfl ?_
  refine r_callI hC (go_V (q := (RX5, TX5, 26)) (As := [.int (xs (v3 + 1).toNatClampNeg), .int (xs (v3 + 2).toNatClampNeg), .int (xs (v3 + 3).toNatClampNeg), .int (xs (v3 + 4).toNatClampNeg), .int (xs (v3 + 5).toNatClampNeg)]) (rest := []) hC (ctX5_stream (zl z) g M1 (xs (v3 + 1).toNatClampNeg) (xs (v3 + 2).toNatClampNeg) (xs (v3 + 3).toNatClampNeg) (xs (v3 + 4).toNatClampNeg) (xs (v3 + 5).toNatClampNeg) _ hF.f5 hw) 5 gL_law_X5_stream rfl ⟨rfl, rfl⟩ hdL_X5_stream ⟨Nat.le_of_ble_eq_true rfl, Nat.le_of_ble_eq_true rfl⟩ (obF52 hF.f5) rfl rfl rfl (Nat.le_of_ble_eq_true rfl) dL_law_1087) 1090 rfl (fun r2 M2 hw => ?_)
  have hw3 := hw.2
  refine q_pop hC dL_law_1090 rfl 1091 rfl ?_
  refine q_goto hC 1437 dL_law_1091 (by decide) ?_
  exact kk _ hw3
set_option maxHeartbeats 4000000 in
theorem law_c30 {z : ZZ} {g : GG} {Qf : State → Prop} {M : MM} {b Ln : Nat} {xs : Nat → Int32} {v3 : Int32} (hC : CX z g cL_law 4 wsL_law RL room_1) (hF : full g) (hX : SX z g b Ln xs) (hB : inS v3 Ln) (hR : Rel M) (kk : ∀ M2, Rel M2 → XX z g Qf 4 1437 [(0, .ref b), (1, .ref (gA g 0)), (2, .ref (gA g 52)), (3, .int v3)] [] M2) : XX z g Qf 4 1094 [(0, .ref b), (1, .ref (gA g 0)), (2, .ref (gA g 52)), (3, .int v3)] [] M := by
  refine q_aload_n hC dL_law_1094 1 rfl 1095 rfl ?_
  refine q_aload_n hC dL_law_1095 0 rfl 1096 rfl ?_
  refine q_iload_n hC dL_law_1096 3 rfl 1097 rfl ?_
  refine q_iconst (v := 1) hC dL_law_1097 (by decide) 1098 rfl ?_
  refine q_iadd hC dL_law_1098 1099 rfl ?_
  refine q_sld hC hX hB.2.1 dL_law_1099 1100 rfl ?_
  refine q_aload_n hC dL_law_1100 0 rfl 1101 rfl ?_
  refine q_iload_n hC dL_law_1101 3 rfl 1102 rfl ?_
  refine q_iconst (v := 2) hC dL_law_1102 (by decide) 1103 rfl ?_
  refine q_iadd hC dL_law_1103 1104 rfl ?_
  refine q_sld hC hX hB.2.2.1 dL_law_1104 1105 rfl ?_
  refine q_aload_n hC dL_law_1105 0 rfl 1106 rfl ?_
  refine q_iload_n hC dL_law_1106 3 rfl 1107 rfl ?_
  refine q_iconst (v := 3) hC dL_law_1107 (by decide) 1108 rfl ?_
  refine q_iadd hC dL_law_1108 1109 rfl ?_
  refine q_sld hC hX hB.2.2.2.1 dL_law_1109 1110 rfl ?_
  refine q_aload_n hC dL_law_1110 0 rfl 1111 rfl ?_
  refine q_iload_n hC dL_law_1111 3 rfl 1112 rfl ?_
  refine q_iconst (v := 4) hC dL_law_1112 (by decide) 1113 rfl ?_
  refine q_iadd hC dL_law_1113 1114 rfl ?_
  refine q_sld hC hX hB.2.2.2.2.1 dL_law_1114 1115 rfl ?_
  refine r_callI hC (go_V (q := (RX4, TX4, 12)) (As := [.int (xs (v3 + 1).toNatClampNeg), .int (xs (v3 + 2).toNatClampNeg), .int (xs (v3 + 3).toNatClampNeg), .int (xs (v3 + 4).toNatClampNeg)]) (rest := []) hC (ctX4_buffer (zl z) g M (xs (v3 + 1).toNatClampNeg) (xs (v3 + 2).toNatClampNeg) (xs (v3 + 3).toNatClampNeg) (xs (v3 + 4).toNatClampNeg) _ hF (L_buffer hR (xs (v3 + 1).toNatClampNeg) (xs (v3 + 2).toNatClampNeg) (xs (v3 + 3).toNatClampNeg) (xs (v3 + 4).toNatClampNeg))) 4 gL_law_X4_buffer rfl ⟨rfl, rfl⟩ hdL_X4_buffer ⟨Nat.le_of_ble_eq_true rfl, Nat.le_of_ble_eq_true rfl⟩ (obF0 hF) rfl rfl rfl (Nat.le_of_ble_eq_true rfl) dL_law_1115) 1118 rfl (fun r1 M1 hw => ?_)
  refine q_pop hC dL_law_1118 rfl 1119 rfl ?_
  refine q_aload_n hC dL_law_1119 2 rfl 1120 rfl ?_
  refine q_aload_n hC dL_law_1120 0 rfl 1121 rfl ?_
  refine q_iload_n hC dL_law_1121 3 rfl 1122 rfl ?_
  refine q_iconst (v := 1) hC dL_law_1122 (by decide) 1123 rfl ?_
  refine q_iadd hC dL_law_1123 1124 rfl ?_
  refine q_sld hC hX hB.2.1 dL_law_1124 1125 rfl ?_
  refine q_aload_n hC dL_law_1125 0 rfl 1126 rfl ?_
  refine q_iload_n hC dL_law_1126 3 rfl 1127 rfl ?_
  refine q_iconst (v := 2) hC dL_law_1127 (by decide) 1128 rfl ?_
  refine q_iadd hC dL_law_1128 1129 rfl ?_
  refine q_sld hC hX hB.2.2.1 dL_law_1129 1130 rfl ?_
  refine q_aload_n hC dL_law_1130 0 rfl 1131 rfl ?_
  refine q_iload_n hC dL_law_1131 3 rfl 1132 rfl ?_
  refine q_iconst (v := 3) hC dL_law_1132 (by decide) 1133 rfl ?_
  refine q_iadd hC dL_law_1133 1134 rfl ?_
  refine q_sld hC hX hB.2.2.2.1 dL_law_1134 1135 rfl ?_
  refine q_aload_n hC dL_law_1135 0 rfl 1136 rfl ?_
  refine q_iload_n hC dL_law_1136 3 rfl 1137 rfl ?_
  refine q_iconst (v := 4) hC dL_law_1137 (by decide) 1138 rfl ?_
  refine q_iadd hC dL_law_1138 1139 rfl ?_
  refine q_sld hC hX hB.2.2.2.2.1 dL_law_1139 1140 rfl ?_
  refine r_callI hC (go_V (q := (RX5, TX5, 26)) (As := [.int (xs (v3 + 1).toNatClampNeg), .int (xs (v3 + 2).toNatClampNeg), .int (xs (v3 + 3).toNatClampNeg), .int (xs (v3 + 4).toNatClampNeg)]) (rest := []) hC (ctX5_buffer (zl z) g M1 (xs (v3 + 1).toNatClampNeg) (xs (v3 + 2).toNatClampNeg) (xs (v3 + 3).toNatClampNeg) (xs (v3 + 4).toNatClampNeg) _ hF.f5 hw) 4 gL_law_X5_buffer rfl ⟨rfl, rfl⟩ hdL_X5_buffer ⟨Nat.le_of_ble_eq_true rfl, Nat.le_of_ble_eq_true rfl⟩ (obF52 hF.f5) rfl rfl rfl (Nat.le_of_ble_eq_true rfl) dL_law_1140) 1143 rfl (fun r2 M2 hw => ?_)
  have hw3 := hw.2
  refine q_pop hC dL_law_1143 rfl 1144 rfl ?_
  refine q_goto hC 1437 dL_law_1144 (by decide) ?_
  exact kk _ hw3
set_option maxHeartbeats 4000000 in
theorem law_c31 {z : ZZ} {g : GG} {Qf : State → Prop} {M : MM} {b Ln : Nat} {xs : Nat → Int32} {v3 : Int32} (hC : CX z g cL_law 4 wsL_law RL room_1) (hF : full g) (hX : SX z g b Ln xs) (hB : inS v3 Ln) (hR : Rel M) (kk : ∀ M2, Rel M2 → XX z g Qf 4 1437 [(0, .ref b), (1, .ref (gA g 0)), (2, .ref (gA g 52)), (3, .int v3)] [] M2) : XX z g Qf 4 1147 [(0, .ref b), (1, .ref (gA g 0)), (2, .ref (gA g 52)), (3, .int v3)] [] M := by
  refine q_aload_n hC dL_law_1147 1 rfl 1148 rfl ?_
  refine q_aload_n hC dL_law_1148 0 rfl 1149 rfl ?_
  refine q_iload_n hC dL_law_1149 3 rfl 1150 rfl ?_
  refine q_iconst (v := 1) hC dL_law_1150 (by decide) 1151 rfl ?_
  refine q_iadd hC dL_law_1151 1152 rfl ?_
  refine q_sld hC hX hB.2.1 dL_law_1152 1153 rfl ?_
  refine q_aload_n hC dL_law_1153 0 rfl 1154 rfl ?_
  refine q_iload_n hC dL_law_1154 3 rfl 1155 rfl ?_
  refine q_iconst (v := 2) hC dL_law_1155 (by decide) 1156 rfl ?_
  refine q_iadd hC dL_law_1156 1157 rfl ?_
  refine q_sld hC hX hB.2.2.1 dL_law_1157 1158 rfl ?_
  refine r_callI hC (go_V (q := (RX4, TX4, 12)) (As := [.int (xs (v3 + 1).toNatClampNeg), .int (xs (v3 + 2).toNatClampNeg)]) (rest := []) hC (ctX4_saw (zl z) g M (xs (v3 + 1).toNatClampNeg) (xs (v3 + 2).toNatClampNeg) _ hF (L_saw hR (xs (v3 + 1).toNatClampNeg) (xs (v3 + 2).toNatClampNeg))) 2 gL_law_X4_saw rfl ⟨rfl, rfl⟩ hdL_X4_saw ⟨Nat.le_of_ble_eq_true rfl, Nat.le_of_ble_eq_true rfl⟩ (obF0 hF) rfl rfl rfl (Nat.le_of_ble_eq_true rfl) dL_law_1158) 1161 rfl (fun r1 M1 hw => ?_)
  refine q_pop hC dL_law_1161 rfl 1162 rfl ?_
  refine q_aload_n hC dL_law_1162 2 rfl 1163 rfl ?_
  refine q_aload_n hC dL_law_1163 0 rfl 1164 rfl ?_
  refine q_iload_n hC dL_law_1164 3 rfl 1165 rfl ?_
  refine q_iconst (v := 1) hC dL_law_1165 (by decide) 1166 rfl ?_
  refine q_iadd hC dL_law_1166 1167 rfl ?_
  refine q_sld hC hX hB.2.1 dL_law_1167 1168 rfl ?_
  refine q_aload_n hC dL_law_1168 0 rfl 1169 rfl ?_
  refine q_iload_n hC dL_law_1169 3 rfl 1170 rfl ?_
  refine q_iconst (v := 2) hC dL_law_1170 (by decide) 1171 rfl ?_
  refine q_iadd hC dL_law_1171 1172 rfl ?_
  refine q_sld hC hX hB.2.2.1 dL_law_1172 1173 rfl ?_
  refine r_callI hC (go_V (q := (RX5, TX5, 26)) (As := [.int (xs (v3 + 1).toNatClampNeg), .int (xs (v3 + 2).toNatClampNeg)]) (rest := []) hC (ctX5_saw (zl z) g M1 (xs (v3 + 1).toNatClampNeg) (xs (v3 + 2).toNatClampNeg) _ hF.f5 hw) 2 gL_law_X5_saw rfl ⟨rfl, rfl⟩ hdL_X5_saw ⟨Nat.le_of_ble_eq_true rfl, Nat.le_of_ble_eq_true rfl⟩ (obF52 hF.f5) rfl rfl rfl (Nat.le_of_ble_eq_true rfl) dL_law_1173) 1176 rfl (fun r2 M2 hw => ?_)
  have hw3 := hw.2
  refine q_pop hC dL_law_1176 rfl 1177 rfl ?_
  refine q_goto hC 1437 dL_law_1177 (by decide) ?_
  exact kk _ hw3
set_option maxHeartbeats 4000000 in
theorem law_c32 {z : ZZ} {g : GG} {Qf : State → Prop} {M : MM} {b Ln : Nat} {xs : Nat → Int32} {v3 : Int32} (hC : CX z g cL_law 4 wsL_law RL room_1) (hF : full g) (hX : SX z g b Ln xs) (hB : inS v3 Ln) (hR : Rel M) (kk : ∀ M2, Rel M2 → XX z g Qf 4 1437 [(0, .ref b), (1, .ref (gA g 0)), (2, .ref (gA g 52)), (3, .int v3)] [] M2) : XX z g Qf 4 1180 [(0, .ref b), (1, .ref (gA g 0)), (2, .ref (gA g 52)), (3, .int v3)] [] M := by
  refine q_aload_n hC dL_law_1180 1 rfl 1181 rfl ?_
  refine r_callI hC (go_V (q := (RX4, TX4, 12)) (As := []) (rest := []) hC (ctX4_forget (zl z) g M _ hF (L_forget hR)) 0 gL_law_X4_forget rfl ⟨rfl, rfl⟩ hdL_X4_forget ⟨Nat.le_of_ble_eq_true rfl, Nat.le_of_ble_eq_true rfl⟩ (obF0 hF) rfl rfl rfl (Nat.le_of_ble_eq_true rfl) dL_law_1181) 1184 rfl (fun r1 M1 hw => ?_)
  refine q_pop hC dL_law_1184 rfl 1185 rfl ?_
  refine q_aload_n hC dL_law_1185 2 rfl 1186 rfl ?_
  refine r_callI hC (go_V (q := (RX5, TX5, 26)) (As := []) (rest := []) hC (ctX5_forget (zl z) g M1 _ hF.f5 hw) 0 gL_law_X5_forget rfl ⟨rfl, rfl⟩ hdL_X5_forget ⟨Nat.le_of_ble_eq_true rfl, Nat.le_of_ble_eq_true rfl⟩ (obF52 hF.f5) rfl rfl rfl (Nat.le_of_ble_eq_true rfl) dL_law_1186) 1189 rfl (fun r2 M2 hw => ?_)
  have hw3 := hw.2
  refine q_pop hC dL_law_1189 rfl 1190 rfl ?_
  refine q_goto hC 1437 dL_law_1190 (by decide) ?_
  exact kk _ hw3
set_option maxHeartbeats 4000000 in
theorem law_c33 {z : ZZ} {g : GG} {Qf : State → Prop} {M : MM} {b Ln : Nat} {xs : Nat → Int32} {v3 : Int32} (hC : CX z g cL_law 4 wsL_law RL room_1) (hF : full g) (hX : SX z g b Ln xs) (hB : inS v3 Ln) (hR : Rel M) (kk : ∀ M2, Rel M2 → XX z g Qf 4 1437 [(0, .ref b), (1, .ref (gA g 0)), (2, .ref (gA g 52)), (3, .int v3)] [] M2) : XX z g Qf 4 1193 [(0, .ref b), (1, .ref (gA g 0)), (2, .ref (gA g 52)), (3, .int v3)] [] M := by
  refine q_aload_n hC dL_law_1193 1 rfl 1194 rfl ?_
  refine q_aload_n hC dL_law_1194 0 rfl 1195 rfl ?_
  refine q_iload_n hC dL_law_1195 3 rfl 1196 rfl ?_
  refine q_iconst (v := 1) hC dL_law_1196 (by decide) 1197 rfl ?_
  refine q_iadd hC dL_law_1197 1198 rfl ?_
  refine q_sld hC hX hB.2.1 dL_law_1198 1199 rfl ?_
  refine r_callI hC (go_V (q := (RX4, TX4, 12)) (As := [.int (xs (v3 + 1).toNatClampNeg)]) (rest := []) hC (ctX4_fits (zl z) g M (xs (v3 + 1).toNatClampNeg) _ hF (L_fits hR (xs (v3 + 1).toNatClampNeg))) 1 gL_law_X4_fits rfl ⟨rfl, rfl⟩ hdL_X4_fits ⟨Nat.le_of_ble_eq_true rfl, Nat.le_of_ble_eq_true rfl⟩ (obF0 hF) rfl rfl rfl (Nat.le_of_ble_eq_true rfl) dL_law_1199) 1202 rfl (fun r1 M1 hw => ?_)
  refine q_pop hC dL_law_1202 rfl 1203 rfl ?_
  refine q_aload_n hC dL_law_1203 2 rfl 1204 rfl ?_
  refine q_aload_n hC dL_law_1204 0 rfl 1205 rfl ?_
  refine q_iload_n hC dL_law_1205 3 rfl 1206 rfl ?_
  refine q_iconst (v := 1) hC dL_law_1206 (by decide) 1207 rfl ?_
  refine q_iadd hC dL_law_1207 1208 rfl ?_
  refine q_sld hC hX hB.2.1 dL_law_1208 1209 rfl ?_
  refine r_callI hC (go_V (q := (RX5, TX5, 26)) (As := [.int (xs (v3 + 1).toNatClampNeg)]) (rest := []) hC (ctX5_fits (zl z) g M1 (xs (v3 + 1).toNatClampNeg) _ hF.f5 hw) 1 gL_law_X5_fits rfl ⟨rfl, rfl⟩ hdL_X5_fits ⟨Nat.le_of_ble_eq_true rfl, Nat.le_of_ble_eq_true rfl⟩ (obF52 hF.f5) rfl rfl rfl (Nat.le_of_ble_eq_true rfl) dL_law_1209) 1212 rfl (fun r2 M2 hw => ?_)
  have hw3 := hw.2
  refine q_pop hC dL_law_1212 rfl 1213 rfl ?_
  refine q_goto hC 1437 dL_law_1213 (by decide) ?_
  exact kk _ hw3
set_option maxHeartbeats 4000000 in
theorem law_c34 {z : ZZ} {g : GG} {Qf : State → Prop} {M : MM} {b Ln : Nat} {xs : Nat → Int32} {v3 : Int32} (hC : CX z g cL_law 4 wsL_law RL room_1) (hF : full g) (hX : SX z g b Ln xs) (hB : inS v3 Ln) (hR : Rel M) (kk : ∀ M2, Rel M2 → XX z g Qf 4 1437 [(0, .ref b), (1, .ref (gA g 0)), (2, .ref (gA g 52)), (3, .int v3)] [] M2) : XX z g Qf 4 1216 [(0, .ref b), (1, .ref (gA g 0)), (2, .ref (gA g 52)), (3, .int v3)] [] M := by
  refine q_aload_n hC dL_law_1216 1 rfl 1217 rfl ?_
  refine q_aload_n hC dL_law_1217 0 rfl 1218 rfl ?_
  refine q_iload_n hC dL_law_1218 3 rfl 1219 rfl ?_
  refine q_iconst (v := 1) hC dL_law_1219 (by decide) 1220 rfl ?_
  refine q_iadd hC dL_law_1220 1221 rfl ?_
  refine q_sld hC hX hB.2.1 dL_law_1221 1222 rfl ?_
  refine r_callI hC (go_V (q := (RX4, TX4, 12)) (As := [.int (xs (v3 + 1).toNatClampNeg)]) (rest := []) hC (ctX4_keep (zl z) g M (xs (v3 + 1).toNatClampNeg) _ hF (L_keep hR (xs (v3 + 1).toNatClampNeg))) 1 gL_law_X4_keep rfl ⟨rfl, rfl⟩ hdL_X4_keep ⟨Nat.le_of_ble_eq_true rfl, Nat.le_of_ble_eq_true rfl⟩ (obF0 hF) rfl rfl rfl (Nat.le_of_ble_eq_true rfl) dL_law_1222) 1225 rfl (fun r1 M1 hw => ?_)
  refine q_pop hC dL_law_1225 rfl 1226 rfl ?_
  refine q_aload_n hC dL_law_1226 2 rfl 1227 rfl ?_
  refine q_aload_n hC dL_law_1227 0 rfl 1228 rfl ?_
  refine q_iload_n hC dL_law_1228 3 rfl 1229 rfl ?_
  refine q_iconst (v := 1) hC dL_law_1229 (by decide) 1230 rfl ?_
  refine q_iadd hC dL_law_1230 1231 rfl ?_
  refine q_sld hC hX hB.2.1 dL_law_1231 1232 rfl ?_
  refine r_callI hC (go_V (q := (RX5, TX5, 26)) (As := [.int (xs (v3 + 1).toNatClampNeg)]) (rest := []) hC (ctX5_keep (zl z) g M1 (xs (v3 + 1).toNatClampNeg) _ hF.f5 hw) 1 gL_law_X5_keep rfl ⟨rfl, rfl⟩ hdL_X5_keep ⟨Nat.le_of_ble_eq_true rfl, Nat.le_of_ble_eq_true rfl⟩ (obF52 hF.f5) rfl rfl rfl (Nat.le_of_ble_eq_true rfl) dL_law_1232) 1235 rfl (fun r2 M2 hw => ?_)
  have hw3 := hw.2
  refine q_pop hC dL_law_1235 rfl 1236 rfl ?_
  refine q_goto hC 1437 dL_law_1236 (by decide) ?_
  exact kk _ hw3
set_option maxHeartbeats 4000000 in
theorem law_c35 {z : ZZ} {g : GG} {Qf : State → Prop} {M : MM} {b Ln : Nat} {xs : Nat → Int32} {v3 : Int32} (hC : CX z g cL_law 4 wsL_law RL room_1) (hF : full g) (hX : SX z g b Ln xs) (hB : inS v3 Ln) (hR : Rel M) (kk : ∀ M2, Rel M2 → XX z g Qf 4 1437 [(0, .ref b), (1, .ref (gA g 0)), (2, .ref (gA g 52)), (3, .int v3)] [] M2) : XX z g Qf 4 1239 [(0, .ref b), (1, .ref (gA g 0)), (2, .ref (gA g 52)), (3, .int v3)] [] M := by
  refine q_aload_n hC dL_law_1239 1 rfl 1240 rfl ?_
  refine q_aload_n hC dL_law_1240 0 rfl 1241 rfl ?_
  refine q_iload_n hC dL_law_1241 3 rfl 1242 rfl ?_
  refine q_iconst (v := 1) hC dL_law_1242 (by decide) 1243 rfl ?_
  refine q_iadd hC dL_law_1243 1244 rfl ?_
  refine q_sld hC hX hB.2.1 dL_law_1244 1245 rfl ?_
  refine r_callI hC (go_V (q := (RX4, TX4, 12)) (As := [.int (xs (v3 + 1).toNatClampNeg)]) (rest := []) hC (ctX4_back (zl z) g M (xs (v3 + 1).toNatClampNeg) _ hF (L_back hR (xs (v3 + 1).toNatClampNeg))) 1 gL_law_X4_back rfl ⟨rfl, rfl⟩ hdL_X4_back ⟨Nat.le_of_ble_eq_true rfl, Nat.le_of_ble_eq_true rfl⟩ (obF0 hF) rfl rfl rfl (Nat.le_of_ble_eq_true rfl) dL_law_1245) 1248 rfl (fun r1 M1 hw => ?_)
  refine q_pop hC dL_law_1248 rfl 1249 rfl ?_
  refine q_aload_n hC dL_law_1249 2 rfl 1250 rfl ?_
  refine q_aload_n hC dL_law_1250 0 rfl 1251 rfl ?_
  refine q_iload_n hC dL_law_1251 3 rfl 1252 rfl ?_
  refine q_iconst (v := 1) hC dL_law_1252 (by decide) 1253 rfl ?_
  refine q_iadd hC dL_law_1253 1254 rfl ?_
  refine q_sld hC hX hB.2.1 dL_law_1254 1255 rfl ?_
  refine r_callI hC (go_V (q := (RX5, TX5, 26)) (As := [.int (xs (v3 + 1).toNatClampNeg)]) (rest := []) hC (ctX5_back (zl z) g M1 (xs (v3 + 1).toNatClampNeg) _ hF.f5 hw) 1 gL_law_X5_back rfl ⟨rfl, rfl⟩ hdL_X5_back ⟨Nat.le_of_ble_eq_true rfl, Nat.le_of_ble_eq_true rfl⟩ (obF52 hF.f5) rfl rfl rfl (Nat.le_of_ble_eq_true rfl) dL_law_1255) 1258 rfl (fun r2 M2 hw => ?_)
  have hw3 := hw.2
  refine q_pop hC dL_law_1258 rfl 1259 rfl ?_
  refine q_goto hC 1437 dL_law_1259 (by decide) ?_
  exact kk _ hw3
