set_option maxRecDepth 20000 in
theorem ggX5_init_X5_firstDraft : GoodIn wsX5_init wsX5_firstDraft := goodIn_r _ [24, 9, 25, 26, 50, 51, 52, 53, 54, 55, 56, 57, 58, 59, 60, 61, 62, 63, 64, 65, 66, 67, 68, 69, 70, 71, 72, 73, 74, 75] (by decide +kernel) (by decide +kernel)
set_option maxRecDepth 20000 in
theorem gX5_init_X5_firstDraft : GoodIn wsX5_init (wsV RX5 53 RX5 yX5_firstDraft wsX5_firstDraft) := goodIn_app (goodIn_of _ (by decide +kernel)) ggX5_init_X5_firstDraft
set_option maxRecDepth 20000 in
theorem ggX5_init_X5_keepDraft : GoodIn wsX5_init wsX5_keepDraft := goodIn_r _ [30, 8, 9, 5, 7, 25, 10, 13, 11, 31, 32, 33, 23, 34, 35, 36, 37, 38, 39, 40, 41, 42, 43, 44, 45, 46, 47, 48, 49, 50, 51, 52, 53, 54, 55, 56, 57, 58, 59, 60, 61, 62, 63, 64, 65, 66, 67, 68, 69, 70, 71, 72, 73, 74, 75] (by decide +kernel) (by decide +kernel)
set_option maxRecDepth 20000 in
theorem gX5_init_X5_keepDraft : GoodIn wsX5_init (wsV RX5 56 RX5 yX5_keepDraft wsX5_keepDraft) := goodIn_app (goodIn_of _ (by decide +kernel)) ggX5_init_X5_keepDraft
theorem dX5_init_0 : decode cX5_init 0 = .ok (.aload_n 0, 1) := by decide +kernel
theorem dX5_init_1 : decode cX5_init 1 = .ok (.invokespecial 1, 3) := by decide +kernel
theorem dX5_init_4 : decode cX5_init 4 = .ok (.aload_n 0, 1) := by decide +kernel
theorem dX5_init_5 : decode cX5_init 5 = .ok (.sipush 1200, 3) := by decide +kernel
theorem dX5_init_8 : decode cX5_init 8 = .ok (.newarray .int, 2) := by decide +kernel
theorem dX5_init_10 : decode cX5_init 10 = .ok (.putfield 7, 3) := by decide +kernel
theorem dX5_init_13 : decode cX5_init 13 = .ok (.aload_n 0, 1) := by decide +kernel
theorem dX5_init_14 : decode cX5_init 14 = .ok (.iconst 2, 1) := by decide +kernel
theorem dX5_init_15 : decode cX5_init 15 = .ok (.newarray .boolean, 2) := by decide +kernel
theorem dX5_init_17 : decode cX5_init 17 = .ok (.putfield 13, 3) := by decide +kernel
theorem dX5_init_20 : decode cX5_init 20 = .ok (.aload_n 0, 1) := by decide +kernel
theorem dX5_init_21 : decode cX5_init 21 = .ok (.bipush 9, 2) := by decide +kernel
theorem dX5_init_23 : decode cX5_init 23 = .ok (.newarray .int, 2) := by decide +kernel
theorem dX5_init_25 : decode cX5_init 25 = .ok (.putfield 17, 3) := by decide +kernel
theorem dX5_init_28 : decode cX5_init 28 = .ok (.aload_n 0, 1) := by decide +kernel
theorem dX5_init_29 : decode cX5_init 29 = .ok (.bipush 9, 2) := by decide +kernel
theorem dX5_init_31 : decode cX5_init 31 = .ok (.newarray .int, 2) := by decide +kernel
theorem dX5_init_33 : decode cX5_init 33 = .ok (.putfield 20, 3) := by decide +kernel
theorem dX5_init_36 : decode cX5_init 36 = .ok (.aload_n 0, 1) := by decide +kernel
theorem dX5_init_37 : decode cX5_init 37 = .ok (.bipush 12, 2) := by decide +kernel
theorem dX5_init_39 : decode cX5_init 39 = .ok (.newarray .int, 2) := by decide +kernel
theorem dX5_init_41 : decode cX5_init 41 = .ok (.putfield 23, 3) := by decide +kernel
theorem dX5_init_44 : decode cX5_init 44 = .ok (.aload_n 0, 1) := by decide +kernel
theorem dX5_init_45 : decode cX5_init 45 = .ok (.sipush 144, 3) := by decide +kernel
theorem dX5_init_48 : decode cX5_init 48 = .ok (.newarray .int, 2) := by decide +kernel
theorem dX5_init_50 : decode cX5_init 50 = .ok (.putfield 26, 3) := by decide +kernel
theorem dX5_init_53 : decode cX5_init 53 = .ok (.aload_n 0, 1) := by decide +kernel
theorem dX5_init_54 : decode cX5_init 54 = .ok (.sipush 400, 3) := by decide +kernel
theorem dX5_init_57 : decode cX5_init 57 = .ok (.newarray .int, 2) := by decide +kernel
theorem dX5_init_59 : decode cX5_init 59 = .ok (.putfield 29, 3) := by decide +kernel
theorem dX5_init_62 : decode cX5_init 62 = .ok (.aload_n 0, 1) := by decide +kernel
theorem dX5_init_63 : decode cX5_init 63 = .ok (.bipush 12, 2) := by decide +kernel
theorem dX5_init_65 : decode cX5_init 65 = .ok (.newarray .int, 2) := by decide +kernel
theorem dX5_init_67 : decode cX5_init 67 = .ok (.putfield 32, 3) := by decide +kernel
theorem dX5_init_70 : decode cX5_init 70 = .ok (.aload_n 0, 1) := by decide +kernel
theorem dX5_init_71 : decode cX5_init 71 = .ok (.bipush 12, 2) := by decide +kernel
theorem dX5_init_73 : decode cX5_init 73 = .ok (.newarray .int, 2) := by decide +kernel
theorem dX5_init_75 : decode cX5_init 75 = .ok (.putfield 35, 3) := by decide +kernel
theorem dX5_init_78 : decode cX5_init 78 = .ok (.aload_n 0, 1) := by decide +kernel
theorem dX5_init_79 : decode cX5_init 79 = .ok (.sipush 3328, 3) := by decide +kernel
theorem dX5_init_82 : decode cX5_init 82 = .ok (.newarray .int, 2) := by decide +kernel
theorem dX5_init_84 : decode cX5_init 84 = .ok (.putfield 38, 3) := by decide +kernel
theorem dX5_init_87 : decode cX5_init 87 = .ok (.aload_n 0, 1) := by decide +kernel
theorem dX5_init_88 : decode cX5_init 88 = .ok (.bipush 8, 2) := by decide +kernel
theorem dX5_init_90 : decode cX5_init 90 = .ok (.newarray .int, 2) := by decide +kernel
theorem dX5_init_92 : decode cX5_init 92 = .ok (.putfield 41, 3) := by decide +kernel
theorem dX5_init_95 : decode cX5_init 95 = .ok (.aload_n 0, 1) := by decide +kernel
theorem dX5_init_96 : decode cX5_init 96 = .ok (.iconst 4, 1) := by decide +kernel
theorem dX5_init_97 : decode cX5_init 97 = .ok (.newarray .int, 2) := by decide +kernel
theorem dX5_init_99 : decode cX5_init 99 = .ok (.putfield 44, 3) := by decide +kernel
theorem dX5_init_102 : decode cX5_init 102 = .ok (.aload_n 0, 1) := by decide +kernel
theorem dX5_init_103 : decode cX5_init 103 = .ok (.iconst 4, 1) := by decide +kernel
theorem dX5_init_104 : decode cX5_init 104 = .ok (.newarray .int, 2) := by decide +kernel
theorem dX5_init_106 : decode cX5_init 106 = .ok (.putfield 47, 3) := by decide +kernel
theorem dX5_init_109 : decode cX5_init 109 = .ok (.aload_n 0, 1) := by decide +kernel
theorem dX5_init_110 : decode cX5_init 110 = .ok (.sipush 160, 3) := by decide +kernel
theorem dX5_init_113 : decode cX5_init 113 = .ok (.newarray .int, 2) := by decide +kernel
theorem dX5_init_115 : decode cX5_init 115 = .ok (.putfield 50, 3) := by decide +kernel
theorem dX5_init_118 : decode cX5_init 118 = .ok (.iconst 0, 1) := by decide +kernel
theorem dX5_init_119 : decode cX5_init 119 = .ok (.istore_n 1, 1) := by decide +kernel
theorem dX5_init_120 : decode cX5_init 120 = .ok (.iload_n 1, 1) := by decide +kernel
theorem dX5_init_121 : decode cX5_init 121 = .ok (.iconst 4, 1) := by decide +kernel
theorem dX5_init_122 : decode cX5_init 122 = .ok (.if_icmp .ge 17, 3) := by decide +kernel
theorem dX5_init_125 : decode cX5_init 125 = .ok (.aload_n 0, 1) := by decide +kernel
theorem dX5_init_126 : decode cX5_init 126 = .ok (.getfield 44, 3) := by decide +kernel
theorem dX5_init_129 : decode cX5_init 129 = .ok (.iload_n 1, 1) := by decide +kernel
theorem dX5_init_130 : decode cX5_init 130 = .ok (.bipush (-4), 2) := by decide +kernel
theorem dX5_init_132 : decode cX5_init 132 = .ok (.iastore, 1) := by decide +kernel
theorem dX5_init_133 : decode cX5_init 133 = .ok (.iinc 1 1, 3) := by decide +kernel
theorem dX5_init_136 : decode cX5_init 136 = .ok (.goto (-16), 3) := by decide +kernel
theorem dX5_init_139 : decode cX5_init 139 = .ok (.aload_n 0, 1) := by decide +kernel
theorem dX5_init_140 : decode cX5_init 140 = .ok (.invokevirtual 53, 3) := by decide +kernel
theorem dX5_init_143 : decode cX5_init 143 = .ok (.aload_n 0, 1) := by decide +kernel
theorem dX5_init_144 : decode cX5_init 144 = .ok (.invokevirtual 56, 3) := by decide +kernel
theorem dX5_init_147 : decode cX5_init 147 = .ok (.return_, 1) := by decide +kernel
theorem dX5_in_0 : decode cX5_in 0 = .ok (.lload_n 0, 1) := by decide +kernel
theorem dX5_in_1 : decode cX5_in 1 = .ok (.lload_n 2, 1) := by decide +kernel
theorem dX5_in_2 : decode cX5_in 2 = .ok (.lcmp, 1) := by decide +kernel
theorem dX5_in_3 : decode cX5_in 3 = .ok (.ifCond .lt 14, 3) := by decide +kernel
theorem dX5_in_6 : decode cX5_in 6 = .ok (.lload_n 0, 1) := by decide +kernel
theorem dX5_in_7 : decode cX5_in 7 = .ok (.lload 4, 2) := by decide +kernel
theorem dX5_in_9 : decode cX5_in 9 = .ok (.lcmp, 1) := by decide +kernel
theorem dX5_in_10 : decode cX5_in 10 = .ok (.ifCond .gt 7, 3) := by decide +kernel
theorem dX5_in_13 : decode cX5_in 13 = .ok (.iconst 1, 1) := by decide +kernel
theorem dX5_in_14 : decode cX5_in 14 = .ok (.goto 4, 3) := by decide +kernel
theorem dX5_in_17 : decode cX5_in 17 = .ok (.iconst 0, 1) := by decide +kernel
theorem dX5_in_18 : decode cX5_in 18 = .ok (.ireturn, 1) := by decide +kernel
theorem dX5_flag_0 : decode cX5_flag 0 = .ok (.iload_n 0, 1) := by decide +kernel
theorem dX5_flag_1 : decode cX5_flag 1 = .ok (.ifCond .eq 7, 3) := by decide +kernel
theorem dX5_flag_4 : decode cX5_flag 4 = .ok (.iconst 1, 1) := by decide +kernel
theorem dX5_flag_5 : decode cX5_flag 5 = .ok (.goto 4, 3) := by decide +kernel
theorem dX5_flag_8 : decode cX5_flag 8 = .ok (.iconst 0, 1) := by decide +kernel
theorem dX5_flag_9 : decode cX5_flag 9 = .ok (.ireturn, 1) := by decide +kernel
theorem dX5_less_0 : decode cX5_less 0 = .ok (.iload_n 0, 1) := by decide +kernel
theorem dX5_less_1 : decode cX5_less 1 = .ok (.iload_n 1, 1) := by decide +kernel
theorem dX5_less_2 : decode cX5_less 2 = .ok (.if_icmp .ge 7, 3) := by decide +kernel
theorem dX5_less_5 : decode cX5_less 5 = .ok (.iload_n 0, 1) := by decide +kernel
theorem dX5_less_6 : decode cX5_less 6 = .ok (.goto 4, 3) := by decide +kernel
theorem dX5_less_9 : decode cX5_less 9 = .ok (.iload_n 1, 1) := by decide +kernel
theorem dX5_less_10 : decode cX5_less 10 = .ok (.ireturn, 1) := by decide +kernel
theorem dX5_odd_0 : decode cX5_odd 0 = .ok (.iconst 0, 1) := by decide +kernel
theorem dX5_odd_1 : decode cX5_odd 1 = .ok (.istore_n 1, 1) := by decide +kernel
theorem dX5_odd_2 : decode cX5_odd 2 = .ok (.iconst 0, 1) := by decide +kernel
theorem dX5_odd_3 : decode cX5_odd 3 = .ok (.istore_n 2, 1) := by decide +kernel
theorem dX5_odd_4 : decode cX5_odd 4 = .ok (.iload_n 2, 1) := by decide +kernel
theorem dX5_odd_5 : decode cX5_odd 5 = .ok (.bipush 9, 2) := by decide +kernel
theorem dX5_odd_7 : decode cX5_odd 7 = .ok (.if_icmp .ge 17, 3) := by decide +kernel
theorem dX5_odd_10 : decode cX5_odd 10 = .ok (.iload_n 1, 1) := by decide +kernel
theorem dX5_odd_11 : decode cX5_odd 11 = .ok (.iload_n 0, 1) := by decide +kernel
theorem dX5_odd_12 : decode cX5_odd 12 = .ok (.iload_n 2, 1) := by decide +kernel
theorem dX5_odd_13 : decode cX5_odd 13 = .ok (.ishr, 1) := by decide +kernel
theorem dX5_odd_14 : decode cX5_odd 14 = .ok (.iconst 1, 1) := by decide +kernel
theorem dX5_odd_15 : decode cX5_odd 15 = .ok (.iand, 1) := by decide +kernel
theorem dX5_odd_16 : decode cX5_odd 16 = .ok (.iadd, 1) := by decide +kernel
theorem dX5_odd_17 : decode cX5_odd 17 = .ok (.istore_n 1, 1) := by decide +kernel
theorem dX5_odd_18 : decode cX5_odd 18 = .ok (.iinc 2 1, 3) := by decide +kernel
theorem dX5_odd_21 : decode cX5_odd 21 = .ok (.goto (-17), 3) := by decide +kernel
theorem dX5_odd_24 : decode cX5_odd 24 = .ok (.iload_n 1, 1) := by decide +kernel
theorem dX5_odd_25 : decode cX5_odd 25 = .ok (.iconst 2, 1) := by decide +kernel
theorem dX5_odd_26 : decode cX5_odd 26 = .ok (.irem, 1) := by decide +kernel
theorem dX5_odd_27 : decode cX5_odd 27 = .ok (.ireturn, 1) := by decide +kernel
theorem dX5_firstDraft_0 : decode cX5_firstDraft 0 = .ok (.aload_n 0, 1) := by decide +kernel
theorem dX5_firstDraft_1 : decode cX5_firstDraft 1 = .ok (.getfield 20, 3) := by decide +kernel
theorem dX5_firstDraft_4 : decode cX5_firstDraft 4 = .ok (.iconst 0, 1) := by decide +kernel
theorem dX5_firstDraft_5 : decode cX5_firstDraft 5 = .ok (.sipush 1000, 3) := by decide +kernel
theorem dX5_firstDraft_8 : decode cX5_firstDraft 8 = .ok (.iastore, 1) := by decide +kernel
theorem dX5_firstDraft_9 : decode cX5_firstDraft 9 = .ok (.aload_n 0, 1) := by decide +kernel
theorem dX5_firstDraft_10 : decode cX5_firstDraft 10 = .ok (.getfield 20, 3) := by decide +kernel
theorem dX5_firstDraft_13 : decode cX5_firstDraft 13 = .ok (.iconst 1, 1) := by decide +kernel
theorem dX5_firstDraft_14 : decode cX5_firstDraft 14 = .ok (.bipush 20, 2) := by decide +kernel
theorem dX5_firstDraft_16 : decode cX5_firstDraft 16 = .ok (.iastore, 1) := by decide +kernel
theorem dX5_firstDraft_17 : decode cX5_firstDraft 17 = .ok (.aload_n 0, 1) := by decide +kernel
theorem dX5_firstDraft_18 : decode cX5_firstDraft 18 = .ok (.getfield 20, 3) := by decide +kernel
theorem dX5_firstDraft_21 : decode cX5_firstDraft 21 = .ok (.iconst 2, 1) := by decide +kernel
theorem dX5_firstDraft_22 : decode cX5_firstDraft 22 = .ok (.iconst 2, 1) := by decide +kernel
theorem dX5_firstDraft_23 : decode cX5_firstDraft 23 = .ok (.iastore, 1) := by decide +kernel
theorem dX5_firstDraft_24 : decode cX5_firstDraft 24 = .ok (.aload_n 0, 1) := by decide +kernel
theorem dX5_firstDraft_25 : decode cX5_firstDraft 25 = .ok (.getfield 20, 3) := by decide +kernel
theorem dX5_firstDraft_28 : decode cX5_firstDraft 28 = .ok (.iconst 3, 1) := by decide +kernel
theorem dX5_firstDraft_29 : decode cX5_firstDraft 29 = .ok (.bipush 10, 2) := by decide +kernel
theorem dX5_firstDraft_31 : decode cX5_firstDraft 31 = .ok (.iastore, 1) := by decide +kernel
theorem dX5_firstDraft_32 : decode cX5_firstDraft 32 = .ok (.aload_n 0, 1) := by decide +kernel
theorem dX5_firstDraft_33 : decode cX5_firstDraft 33 = .ok (.getfield 20, 3) := by decide +kernel
theorem dX5_firstDraft_36 : decode cX5_firstDraft 36 = .ok (.iconst 4, 1) := by decide +kernel
theorem dX5_firstDraft_37 : decode cX5_firstDraft 37 = .ok (.iconst 5, 1) := by decide +kernel
theorem dX5_firstDraft_38 : decode cX5_firstDraft 38 = .ok (.iastore, 1) := by decide +kernel
theorem dX5_firstDraft_39 : decode cX5_firstDraft 39 = .ok (.aload_n 0, 1) := by decide +kernel
theorem dX5_firstDraft_40 : decode cX5_firstDraft 40 = .ok (.getfield 20, 3) := by decide +kernel
theorem dX5_firstDraft_43 : decode cX5_firstDraft 43 = .ok (.iconst 5, 1) := by decide +kernel
theorem dX5_firstDraft_44 : decode cX5_firstDraft 44 = .ok (.iconst 3, 1) := by decide +kernel
theorem dX5_firstDraft_45 : decode cX5_firstDraft 45 = .ok (.iastore, 1) := by decide +kernel
theorem dX5_firstDraft_46 : decode cX5_firstDraft 46 = .ok (.aload_n 0, 1) := by decide +kernel
theorem dX5_firstDraft_47 : decode cX5_firstDraft 47 = .ok (.getfield 20, 3) := by decide +kernel
theorem dX5_firstDraft_50 : decode cX5_firstDraft 50 = .ok (.bipush 6, 2) := by decide +kernel
theorem dX5_firstDraft_52 : decode cX5_firstDraft 52 = .ok (.bipush 6, 2) := by decide +kernel
theorem dX5_firstDraft_54 : decode cX5_firstDraft 54 = .ok (.iastore, 1) := by decide +kernel
theorem dX5_firstDraft_55 : decode cX5_firstDraft 55 = .ok (.aload_n 0, 1) := by decide +kernel
theorem dX5_firstDraft_56 : decode cX5_firstDraft 56 = .ok (.getfield 20, 3) := by decide +kernel
theorem dX5_firstDraft_59 : decode cX5_firstDraft 59 = .ok (.bipush 7, 2) := by decide +kernel
theorem dX5_firstDraft_61 : decode cX5_firstDraft 61 = .ok (.iconst 2, 1) := by decide +kernel
theorem dX5_firstDraft_62 : decode cX5_firstDraft 62 = .ok (.iastore, 1) := by decide +kernel
theorem dX5_firstDraft_63 : decode cX5_firstDraft 63 = .ok (.aload_n 0, 1) := by decide +kernel
theorem dX5_firstDraft_64 : decode cX5_firstDraft 64 = .ok (.getfield 20, 3) := by decide +kernel
theorem dX5_firstDraft_67 : decode cX5_firstDraft 67 = .ok (.bipush 8, 2) := by decide +kernel
theorem dX5_firstDraft_69 : decode cX5_firstDraft 69 = .ok (.bipush 20, 2) := by decide +kernel
theorem dX5_firstDraft_71 : decode cX5_firstDraft 71 = .ok (.iastore, 1) := by decide +kernel
theorem dX5_firstDraft_72 : decode cX5_firstDraft 72 = .ok (.aload_n 0, 1) := by decide +kernel
theorem dX5_firstDraft_73 : decode cX5_firstDraft 73 = .ok (.iconst 0, 1) := by decide +kernel
theorem dX5_firstDraft_74 : decode cX5_firstDraft 74 = .ok (.putfield 59, 3) := by decide +kernel
theorem dX5_firstDraft_77 : decode cX5_firstDraft 77 = .ok (.aload_n 0, 1) := by decide +kernel
theorem dX5_firstDraft_78 : decode cX5_firstDraft 78 = .ok (.iconst 0, 1) := by decide +kernel
theorem dX5_firstDraft_79 : decode cX5_firstDraft 79 = .ok (.putfield 63, 3) := by decide +kernel
theorem dX5_firstDraft_82 : decode cX5_firstDraft 82 = .ok (.return_, 1) := by decide +kernel
theorem dX5_longOf_0 : decode cX5_longOf 0 = .ok (.iload_n 1, 1) := by decide +kernel
theorem dX5_longOf_1 : decode cX5_longOf 1 = .ok (.ifCond .ne 7, 3) := by decide +kernel
theorem dX5_longOf_4 : decode cX5_longOf 4 = .ok (.iconst 1, 1) := by decide +kernel
theorem dX5_longOf_5 : decode cX5_longOf 5 = .ok (.goto 20, 3) := by decide +kernel
theorem dX5_longOf_8 : decode cX5_longOf 8 = .ok (.iload_n 1, 1) := by decide +kernel
theorem dX5_longOf_9 : decode cX5_longOf 9 = .ok (.aload_n 0, 1) := by decide +kernel
theorem dX5_longOf_10 : decode cX5_longOf 10 = .ok (.getfield 17, 3) := by decide +kernel
theorem dX5_longOf_13 : decode cX5_longOf 13 = .ok (.bipush 7, 2) := by decide +kernel
theorem dX5_longOf_15 : decode cX5_longOf 15 = .ok (.iaload, 1) := by decide +kernel
theorem dX5_longOf_16 : decode cX5_longOf 16 = .ok (.iadd, 1) := by decide +kernel
theorem dX5_longOf_17 : decode cX5_longOf 17 = .ok (.aload_n 0, 1) := by decide +kernel
theorem dX5_longOf_18 : decode cX5_longOf 18 = .ok (.getfield 17, 3) := by decide +kernel
theorem dX5_longOf_21 : decode cX5_longOf 21 = .ok (.bipush 7, 2) := by decide +kernel
theorem dX5_longOf_23 : decode cX5_longOf 23 = .ok (.iaload, 1) := by decide +kernel
theorem dX5_longOf_24 : decode cX5_longOf 24 = .ok (.idiv, 1) := by decide +kernel
theorem dX5_longOf_25 : decode cX5_longOf 25 = .ok (.ireturn, 1) := by decide +kernel
theorem dX5_draftEnd_0 : decode cX5_draftEnd 0 = .ok (.iconst 0, 1) := by decide +kernel
theorem dX5_draftEnd_1 : decode cX5_draftEnd 1 = .ok (.istore_n 1, 1) := by decide +kernel
theorem dX5_draftEnd_2 : decode cX5_draftEnd 2 = .ok (.iconst 0, 1) := by decide +kernel
theorem dX5_draftEnd_3 : decode cX5_draftEnd 3 = .ok (.istore_n 2, 1) := by decide +kernel
theorem dX5_draftEnd_4 : decode cX5_draftEnd 4 = .ok (.iload_n 2, 1) := by decide +kernel
theorem dX5_draftEnd_5 : decode cX5_draftEnd 5 = .ok (.aload_n 0, 1) := by decide +kernel
theorem dX5_draftEnd_6 : decode cX5_draftEnd 6 = .ok (.getfield 59, 3) := by decide +kernel
theorem dX5_draftEnd_9 : decode cX5_draftEnd 9 = .ok (.if_icmp .ge 55, 3) := by decide +kernel
theorem dX5_draftEnd_12 : decode cX5_draftEnd 12 = .ok (.iload_n 1, 1) := by decide +kernel
theorem dX5_draftEnd_13 : decode cX5_draftEnd 13 = .ok (.aload_n 0, 1) := by decide +kernel
theorem dX5_draftEnd_14 : decode cX5_draftEnd 14 = .ok (.getfield 20, 3) := by decide +kernel
theorem dX5_draftEnd_17 : decode cX5_draftEnd 17 = .ok (.bipush 6, 2) := by decide +kernel
theorem dX5_draftEnd_19 : decode cX5_draftEnd 19 = .ok (.iaload, 1) := by decide +kernel
theorem dX5_draftEnd_20 : decode cX5_draftEnd 20 = .ok (.aload_n 0, 1) := by decide +kernel
theorem dX5_draftEnd_21 : decode cX5_draftEnd 21 = .ok (.getfield 23, 3) := by decide +kernel
theorem dX5_draftEnd_24 : decode cX5_draftEnd 24 = .ok (.iload_n 2, 1) := by decide +kernel
theorem dX5_draftEnd_25 : decode cX5_draftEnd 25 = .ok (.iaload, 1) := by decide +kernel
theorem dX5_draftEnd_26 : decode cX5_draftEnd 26 = .ok (.ifCond .ne 7, 3) := by decide +kernel
theorem dX5_draftEnd_29 : decode cX5_draftEnd 29 = .ok (.iconst 1, 1) := by decide +kernel
theorem dX5_draftEnd_30 : decode cX5_draftEnd 30 = .ok (.goto 25, 3) := by decide +kernel
theorem dX5_draftEnd_33 : decode cX5_draftEnd 33 = .ok (.aload_n 0, 1) := by decide +kernel
theorem dX5_draftEnd_34 : decode cX5_draftEnd 34 = .ok (.getfield 23, 3) := by decide +kernel
theorem dX5_draftEnd_37 : decode cX5_draftEnd 37 = .ok (.iload_n 2, 1) := by decide +kernel
theorem dX5_draftEnd_38 : decode cX5_draftEnd 38 = .ok (.iaload, 1) := by decide +kernel
theorem dX5_draftEnd_39 : decode cX5_draftEnd 39 = .ok (.aload_n 0, 1) := by decide +kernel
theorem dX5_draftEnd_40 : decode cX5_draftEnd 40 = .ok (.getfield 20, 3) := by decide +kernel
theorem dX5_draftEnd_43 : decode cX5_draftEnd 43 = .ok (.bipush 7, 2) := by decide +kernel
theorem dX5_draftEnd_45 : decode cX5_draftEnd 45 = .ok (.iaload, 1) := by decide +kernel
theorem dX5_draftEnd_46 : decode cX5_draftEnd 46 = .ok (.iadd, 1) := by decide +kernel
theorem dX5_draftEnd_47 : decode cX5_draftEnd 47 = .ok (.aload_n 0, 1) := by decide +kernel
theorem dX5_draftEnd_48 : decode cX5_draftEnd 48 = .ok (.getfield 20, 3) := by decide +kernel
theorem dX5_draftEnd_51 : decode cX5_draftEnd 51 = .ok (.bipush 7, 2) := by decide +kernel
theorem dX5_draftEnd_53 : decode cX5_draftEnd 53 = .ok (.iaload, 1) := by decide +kernel
theorem dX5_draftEnd_54 : decode cX5_draftEnd 54 = .ok (.idiv, 1) := by decide +kernel
theorem dX5_draftEnd_55 : decode cX5_draftEnd 55 = .ok (.iadd, 1) := by decide +kernel
theorem dX5_draftEnd_56 : decode cX5_draftEnd 56 = .ok (.iadd, 1) := by decide +kernel
theorem dX5_draftEnd_57 : decode cX5_draftEnd 57 = .ok (.istore_n 1, 1) := by decide +kernel
theorem dX5_draftEnd_58 : decode cX5_draftEnd 58 = .ok (.iinc 2 1, 3) := by decide +kernel
theorem dX5_draftEnd_61 : decode cX5_draftEnd 61 = .ok (.goto (-57), 3) := by decide +kernel
theorem dX5_draftEnd_64 : decode cX5_draftEnd 64 = .ok (.iload_n 1, 1) := by decide +kernel
theorem dX5_draftEnd_65 : decode cX5_draftEnd 65 = .ok (.ireturn, 1) := by decide +kernel
set_option maxRecDepth 20000 in
theorem ggX5_keepDraft_X5_lays : GoodIn wsX5_keepDraft wsX5_lays := goodIn_r _ [13, 3, 7, 14, 15, 16, 12, 17, 1, 18, 19, 20, 21, 22, 23, 24, 25, 26, 27, 28, 29, 30, 31, 32, 33, 34, 35, 36, 37, 38, 39, 40, 41, 42, 43, 44, 45, 46, 47, 48, 49, 50, 51, 52, 53, 54] (by decide +kernel) (by decide +kernel)
set_option maxRecDepth 20000 in
theorem gX5_keepDraft_X5_lays : GoodIn wsX5_keepDraft (wsV RX5 66 RX5 yX5_lays wsX5_lays) := goodIn_app (goodIn_of _ (by decide +kernel)) ggX5_keepDraft_X5_lays
theorem dX5_keepDraft_0 : decode cX5_keepDraft 0 = .ok (.iconst 0, 1) := by decide +kernel
theorem dX5_keepDraft_1 : decode cX5_keepDraft 1 = .ok (.istore_n 1, 1) := by decide +kernel
theorem dX5_keepDraft_2 : decode cX5_keepDraft 2 = .ok (.iload_n 1, 1) := by decide +kernel
theorem dX5_keepDraft_3 : decode cX5_keepDraft 3 = .ok (.bipush 9, 2) := by decide +kernel
theorem dX5_keepDraft_5 : decode cX5_keepDraft 5 = .ok (.if_icmp .ge 21, 3) := by decide +kernel
theorem dX5_keepDraft_8 : decode cX5_keepDraft 8 = .ok (.aload_n 0, 1) := by decide +kernel
theorem dX5_keepDraft_9 : decode cX5_keepDraft 9 = .ok (.getfield 17, 3) := by decide +kernel
theorem dX5_keepDraft_12 : decode cX5_keepDraft 12 = .ok (.iload_n 1, 1) := by decide +kernel
theorem dX5_keepDraft_13 : decode cX5_keepDraft 13 = .ok (.aload_n 0, 1) := by decide +kernel
theorem dX5_keepDraft_14 : decode cX5_keepDraft 14 = .ok (.getfield 20, 3) := by decide +kernel
theorem dX5_keepDraft_17 : decode cX5_keepDraft 17 = .ok (.iload_n 1, 1) := by decide +kernel
theorem dX5_keepDraft_18 : decode cX5_keepDraft 18 = .ok (.iaload, 1) := by decide +kernel
theorem dX5_keepDraft_19 : decode cX5_keepDraft 19 = .ok (.iastore, 1) := by decide +kernel
theorem dX5_keepDraft_20 : decode cX5_keepDraft 20 = .ok (.iinc 1 1, 3) := by decide +kernel
theorem dX5_keepDraft_23 : decode cX5_keepDraft 23 = .ok (.goto (-21), 3) := by decide +kernel
theorem dX5_keepDraft_26 : decode cX5_keepDraft 26 = .ok (.iconst 0, 1) := by decide +kernel
theorem dX5_keepDraft_27 : decode cX5_keepDraft 27 = .ok (.istore_n 1, 1) := by decide +kernel
theorem dX5_keepDraft_28 : decode cX5_keepDraft 28 = .ok (.iload_n 1, 1) := by decide +kernel
theorem dX5_keepDraft_29 : decode cX5_keepDraft 29 = .ok (.sipush 400, 3) := by decide +kernel
theorem dX5_keepDraft_32 : decode cX5_keepDraft 32 = .ok (.if_icmp .ge 16, 3) := by decide +kernel
theorem dX5_keepDraft_35 : decode cX5_keepDraft 35 = .ok (.aload_n 0, 1) := by decide +kernel
theorem dX5_keepDraft_36 : decode cX5_keepDraft 36 = .ok (.getfield 7, 3) := by decide +kernel
theorem dX5_keepDraft_39 : decode cX5_keepDraft 39 = .ok (.iload_n 1, 1) := by decide +kernel
theorem dX5_keepDraft_40 : decode cX5_keepDraft 40 = .ok (.iconst 0, 1) := by decide +kernel
theorem dX5_keepDraft_41 : decode cX5_keepDraft 41 = .ok (.iastore, 1) := by decide +kernel
theorem dX5_keepDraft_42 : decode cX5_keepDraft 42 = .ok (.iinc 1 1, 3) := by decide +kernel
theorem dX5_keepDraft_45 : decode cX5_keepDraft 45 = .ok (.goto (-17), 3) := by decide +kernel
theorem dX5_keepDraft_48 : decode cX5_keepDraft 48 = .ok (.aload_n 0, 1) := by decide +kernel
theorem dX5_keepDraft_49 : decode cX5_keepDraft 49 = .ok (.getfield 7, 3) := by decide +kernel
theorem dX5_keepDraft_52 : decode cX5_keepDraft 52 = .ok (.sipush 340, 3) := by decide +kernel
theorem dX5_keepDraft_55 : decode cX5_keepDraft 55 = .ok (.bipush (-4), 2) := by decide +kernel
theorem dX5_keepDraft_57 : decode cX5_keepDraft 57 = .ok (.iastore, 1) := by decide +kernel
theorem dX5_keepDraft_58 : decode cX5_keepDraft 58 = .ok (.aload_n 0, 1) := by decide +kernel
theorem dX5_keepDraft_59 : decode cX5_keepDraft 59 = .ok (.getfield 7, 3) := by decide +kernel
theorem dX5_keepDraft_62 : decode cX5_keepDraft 62 = .ok (.sipush 366, 3) := by decide +kernel
theorem dX5_keepDraft_65 : decode cX5_keepDraft 65 = .ok (.aload_n 0, 1) := by decide +kernel
theorem dX5_keepDraft_66 : decode cX5_keepDraft 66 = .ok (.getfield 17, 3) := by decide +kernel
theorem dX5_keepDraft_69 : decode cX5_keepDraft 69 = .ok (.iconst 0, 1) := by decide +kernel
theorem dX5_keepDraft_70 : decode cX5_keepDraft 70 = .ok (.iaload, 1) := by decide +kernel
theorem dX5_keepDraft_71 : decode cX5_keepDraft 71 = .ok (.iastore, 1) := by decide +kernel
theorem dX5_keepDraft_72 : decode cX5_keepDraft 72 = .ok (.aload_n 0, 1) := by decide +kernel
theorem dX5_keepDraft_73 : decode cX5_keepDraft 73 = .ok (.getfield 13, 3) := by decide +kernel
theorem dX5_keepDraft_76 : decode cX5_keepDraft 76 = .ok (.iconst 0, 1) := by decide +kernel
theorem dX5_keepDraft_77 : decode cX5_keepDraft 77 = .ok (.iconst 0, 1) := by decide +kernel
theorem dX5_keepDraft_78 : decode cX5_keepDraft 78 = .ok (.bastore, 1) := by decide +kernel
theorem dX5_keepDraft_79 : decode cX5_keepDraft 79 = .ok (.aload_n 0, 1) := by decide +kernel
theorem dX5_keepDraft_80 : decode cX5_keepDraft 80 = .ok (.getfield 13, 3) := by decide +kernel
theorem dX5_keepDraft_83 : decode cX5_keepDraft 83 = .ok (.iconst 1, 1) := by decide +kernel
theorem dX5_keepDraft_84 : decode cX5_keepDraft 84 = .ok (.iconst 0, 1) := by decide +kernel
theorem dX5_keepDraft_85 : decode cX5_keepDraft 85 = .ok (.bastore, 1) := by decide +kernel
theorem dX5_keepDraft_86 : decode cX5_keepDraft 86 = .ok (.iconst 0, 1) := by decide +kernel
theorem dX5_keepDraft_87 : decode cX5_keepDraft 87 = .ok (.istore_n 1, 1) := by decide +kernel
theorem dX5_keepDraft_88 : decode cX5_keepDraft 88 = .ok (.iload_n 1, 1) := by decide +kernel
theorem dX5_keepDraft_89 : decode cX5_keepDraft 89 = .ok (.aload_n 0, 1) := by decide +kernel
theorem dX5_keepDraft_90 : decode cX5_keepDraft 90 = .ok (.getfield 59, 3) := by decide +kernel
theorem dX5_keepDraft_93 : decode cX5_keepDraft 93 = .ok (.if_icmp .ge 54, 3) := by decide +kernel
theorem dX5_keepDraft_96 : decode cX5_keepDraft 96 = .ok (.iconst 0, 1) := by decide +kernel
theorem dX5_keepDraft_97 : decode cX5_keepDraft 97 = .ok (.istore_n 2, 1) := by decide +kernel
theorem dX5_keepDraft_98 : decode cX5_keepDraft 98 = .ok (.iload_n 2, 1) := by decide +kernel
theorem dX5_keepDraft_99 : decode cX5_keepDraft 99 = .ok (.aload_n 0, 1) := by decide +kernel
theorem dX5_keepDraft_100 : decode cX5_keepDraft 100 = .ok (.getfield 23, 3) := by decide +kernel
theorem dX5_keepDraft_103 : decode cX5_keepDraft 103 = .ok (.iload_n 1, 1) := by decide +kernel
theorem dX5_keepDraft_104 : decode cX5_keepDraft 104 = .ok (.iaload, 1) := by decide +kernel
theorem dX5_keepDraft_105 : decode cX5_keepDraft 105 = .ok (.if_icmp .ge 26, 3) := by decide +kernel
theorem dX5_keepDraft_108 : decode cX5_keepDraft 108 = .ok (.aload_n 0, 1) := by decide +kernel
theorem dX5_keepDraft_109 : decode cX5_keepDraft 109 = .ok (.getfield 32, 3) := by decide +kernel
theorem dX5_keepDraft_112 : decode cX5_keepDraft 112 = .ok (.iload_n 2, 1) := by decide +kernel
theorem dX5_keepDraft_113 : decode cX5_keepDraft 113 = .ok (.aload_n 0, 1) := by decide +kernel
theorem dX5_keepDraft_114 : decode cX5_keepDraft 114 = .ok (.getfield 26, 3) := by decide +kernel
theorem dX5_keepDraft_117 : decode cX5_keepDraft 117 = .ok (.bipush 12, 2) := by decide +kernel
theorem dX5_keepDraft_119 : decode cX5_keepDraft 119 = .ok (.iload_n 1, 1) := by decide +kernel
theorem dX5_keepDraft_120 : decode cX5_keepDraft 120 = .ok (.imul, 1) := by decide +kernel
theorem dX5_keepDraft_121 : decode cX5_keepDraft 121 = .ok (.iload_n 2, 1) := by decide +kernel
theorem dX5_keepDraft_122 : decode cX5_keepDraft 122 = .ok (.iadd, 1) := by decide +kernel
theorem dX5_keepDraft_123 : decode cX5_keepDraft 123 = .ok (.iaload, 1) := by decide +kernel
theorem dX5_keepDraft_124 : decode cX5_keepDraft 124 = .ok (.iastore, 1) := by decide +kernel
theorem dX5_keepDraft_125 : decode cX5_keepDraft 125 = .ok (.iinc 2 1, 3) := by decide +kernel
theorem dX5_keepDraft_128 : decode cX5_keepDraft 128 = .ok (.goto (-30), 3) := by decide +kernel
theorem dX5_keepDraft_131 : decode cX5_keepDraft 131 = .ok (.aload_n 0, 1) := by decide +kernel
theorem dX5_keepDraft_132 : decode cX5_keepDraft 132 = .ok (.aload_n 0, 1) := by decide +kernel
theorem dX5_keepDraft_133 : decode cX5_keepDraft 133 = .ok (.getfield 23, 3) := by decide +kernel
theorem dX5_keepDraft_136 : decode cX5_keepDraft 136 = .ok (.iload_n 1, 1) := by decide +kernel
theorem dX5_keepDraft_137 : decode cX5_keepDraft 137 = .ok (.iaload, 1) := by decide +kernel
theorem dX5_keepDraft_138 : decode cX5_keepDraft 138 = .ok (.invokevirtual 66, 3) := by decide +kernel
theorem dX5_keepDraft_141 : decode cX5_keepDraft 141 = .ok (.iinc 1 1, 3) := by decide +kernel
theorem dX5_keepDraft_144 : decode cX5_keepDraft 144 = .ok (.goto (-56), 3) := by decide +kernel
theorem dX5_keepDraft_147 : decode cX5_keepDraft 147 = .ok (.return_, 1) := by decide +kernel
theorem dX5_feed_0 : decode cX5_feed 0 = .ok (.aload_n 0, 1) := by decide +kernel
theorem dX5_feed_1 : decode cX5_feed 1 = .ok (.getfield 70, 3) := by decide +kernel
theorem dX5_feed_4 : decode cX5_feed 4 = .ok (.bipush 8, 2) := by decide +kernel
theorem dX5_feed_6 : decode cX5_feed 6 = .ok (.iadd, 1) := by decide +kernel
theorem dX5_feed_7 : decode cX5_feed 7 = .ok (.sipush 400, 3) := by decide +kernel
theorem dX5_feed_10 : decode cX5_feed 10 = .ok (.if_icmp .le 6, 3) := by decide +kernel
theorem dX5_feed_13 : decode cX5_feed 13 = .ok (.bipush (-3), 2) := by decide +kernel
theorem dX5_feed_15 : decode cX5_feed 15 = .ok (.ireturn, 1) := by decide +kernel
theorem dX5_feed_16 : decode cX5_feed 16 = .ok (.bipush 56, 2) := by decide +kernel
theorem dX5_feed_18 : decode cX5_feed 18 = .ok (.istore_n 3, 1) := by decide +kernel
theorem dX5_feed_19 : decode cX5_feed 19 = .ok (.iload_n 3, 1) := by decide +kernel
theorem dX5_feed_20 : decode cX5_feed 20 = .ok (.ifCond .lt 36, 3) := by decide +kernel
theorem dX5_feed_23 : decode cX5_feed 23 = .ok (.aload_n 0, 1) := by decide +kernel
theorem dX5_feed_24 : decode cX5_feed 24 = .ok (.getfield 29, 3) := by decide +kernel
theorem dX5_feed_27 : decode cX5_feed 27 = .ok (.aload_n 0, 1) := by decide +kernel
theorem dX5_feed_28 : decode cX5_feed 28 = .ok (.getfield 70, 3) := by decide +kernel
theorem dX5_feed_31 : decode cX5_feed 31 = .ok (.lload_n 1, 1) := by decide +kernel
theorem dX5_feed_32 : decode cX5_feed 32 = .ok (.iload_n 3, 1) := by decide +kernel
theorem dX5_feed_33 : decode cX5_feed 33 = .ok (.lshr, 1) := by decide +kernel
theorem dX5_feed_34 : decode cX5_feed 34 = .ok (.ldc2_w 73, 3) := by decide +kernel
theorem dX5_feed_37 : decode cX5_feed 37 = .ok (.land, 1) := by decide +kernel
theorem dX5_feed_38 : decode cX5_feed 38 = .ok (.l2i, 1) := by decide +kernel
theorem dX5_feed_39 : decode cX5_feed 39 = .ok (.iastore, 1) := by decide +kernel
theorem dX5_feed_40 : decode cX5_feed 40 = .ok (.aload_n 0, 1) := by decide +kernel
theorem dX5_feed_41 : decode cX5_feed 41 = .ok (.dup, 1) := by decide +kernel
theorem dX5_feed_42 : decode cX5_feed 42 = .ok (.getfield 70, 3) := by decide +kernel
theorem dX5_feed_45 : decode cX5_feed 45 = .ok (.iconst 1, 1) := by decide +kernel
theorem dX5_feed_46 : decode cX5_feed 46 = .ok (.iadd, 1) := by decide +kernel
theorem dX5_feed_47 : decode cX5_feed 47 = .ok (.putfield 70, 3) := by decide +kernel
theorem dX5_feed_50 : decode cX5_feed 50 = .ok (.iinc 3 (-8), 3) := by decide +kernel
theorem dX5_feed_53 : decode cX5_feed 53 = .ok (.goto (-34), 3) := by decide +kernel
theorem dX5_feed_56 : decode cX5_feed 56 = .ok (.aload_n 0, 1) := by decide +kernel
theorem dX5_feed_57 : decode cX5_feed 57 = .ok (.getfield 70, 3) := by decide +kernel
theorem dX5_feed_60 : decode cX5_feed 60 = .ok (.ireturn, 1) := by decide +kernel
set_option maxRecDepth 20000 in
theorem ggX5_end_X5_in : GoodIn wsX5_end wsX5_in := goodIn_r _ [5] (by decide +kernel) (by decide +kernel)
set_option maxRecDepth 20000 in
theorem gX5_end_X5_in : GoodIn wsX5_end (va_wsS RX5 75 yX5_in wsX5_in) := goodIn_app (goodIn_of _ (by decide +kernel)) ggX5_end_X5_in
theorem dX5_end_0 : decode cX5_end 0 = .ok (.iload_n 1, 1) := by decide +kernel
theorem dX5_end_1 : decode cX5_end 1 = .ok (.i2l, 1) := by decide +kernel
theorem dX5_end_2 : decode cX5_end 2 = .ok (.lconst 0, 1) := by decide +kernel
theorem dX5_end_3 : decode cX5_end 3 = .ok (.aload_n 0, 1) := by decide +kernel
theorem dX5_end_4 : decode cX5_end 4 = .ok (.getfield 70, 3) := by decide +kernel
theorem dX5_end_7 : decode cX5_end 7 = .ok (.i2l, 1) := by decide +kernel
theorem dX5_end_8 : decode cX5_end 8 = .ok (.invokestatic 75, 3) := by decide +kernel
theorem dX5_end_11 : decode cX5_end 11 = .ok (.ifCond .ne 5, 3) := by decide +kernel
theorem dX5_end_14 : decode cX5_end 14 = .ok (.iconst (-1), 1) := by decide +kernel
theorem dX5_end_15 : decode cX5_end 15 = .ok (.ireturn, 1) := by decide +kernel
theorem dX5_end_16 : decode cX5_end 16 = .ok (.aload_n 0, 1) := by decide +kernel
theorem dX5_end_17 : decode cX5_end 17 = .ok (.getfield 70, 3) := by decide +kernel
theorem dX5_end_20 : decode cX5_end 20 = .ok (.istore_n 2, 1) := by decide +kernel
theorem dX5_end_21 : decode cX5_end 21 = .ok (.aload_n 0, 1) := by decide +kernel
theorem dX5_end_22 : decode cX5_end 22 = .ok (.iload_n 1, 1) := by decide +kernel
theorem dX5_end_23 : decode cX5_end 23 = .ok (.putfield 70, 3) := by decide +kernel
theorem dX5_end_26 : decode cX5_end 26 = .ok (.iload_n 2, 1) := by decide +kernel
theorem dX5_end_27 : decode cX5_end 27 = .ok (.ireturn, 1) := by decide +kernel
theorem dX5_needs_0 : decode cX5_needs 0 = .ok (.iload_n 1, 1) := by decide +kernel
theorem dX5_needs_1 : decode cX5_needs 1 = .ok (.ifCond .ne 23, 3) := by decide +kernel
theorem dX5_needs_4 : decode cX5_needs 4 = .ok (.aload_n 0, 1) := by decide +kernel
theorem dX5_needs_5 : decode cX5_needs 5 = .ok (.getfield 79, 3) := by decide +kernel
theorem dX5_needs_8 : decode cX5_needs 8 = .ok (.ifCond .ne 16, 3) := by decide +kernel
theorem dX5_needs_11 : decode cX5_needs 11 = .ok (.aload_n 0, 1) := by decide +kernel
theorem dX5_needs_12 : decode cX5_needs 12 = .ok (.iload_n 2, 1) := by decide +kernel
theorem dX5_needs_13 : decode cX5_needs 13 = .ok (.putfield 79, 3) := by decide +kernel
theorem dX5_needs_16 : decode cX5_needs 16 = .ok (.aload_n 0, 1) := by decide +kernel
theorem dX5_needs_17 : decode cX5_needs 17 = .ok (.aload_n 0, 1) := by decide +kernel
theorem dX5_needs_18 : decode cX5_needs 18 = .ok (.getfield 82, 3) := by decide +kernel
theorem dX5_needs_21 : decode cX5_needs 21 = .ok (.putfield 85, 3) := by decide +kernel
theorem dX5_needs_24 : decode cX5_needs 24 = .ok (.return_, 1) := by decide +kernel
theorem dX5_look_0 : decode cX5_look 0 = .ok (.iload_n 1, 1) := by decide +kernel
theorem dX5_look_1 : decode cX5_look 1 = .ok (.aload_n 0, 1) := by decide +kernel
theorem dX5_look_2 : decode cX5_look 2 = .ok (.getfield 70, 3) := by decide +kernel
theorem dX5_look_5 : decode cX5_look 5 = .ok (.if_icmp .ge 12, 3) := by decide +kernel
theorem dX5_look_8 : decode cX5_look 8 = .ok (.aload_n 0, 1) := by decide +kernel
theorem dX5_look_9 : decode cX5_look 9 = .ok (.getfield 29, 3) := by decide +kernel
theorem dX5_look_12 : decode cX5_look 12 = .ok (.iload_n 1, 1) := by decide +kernel
theorem dX5_look_13 : decode cX5_look 13 = .ok (.iaload, 1) := by decide +kernel
theorem dX5_look_14 : decode cX5_look 14 = .ok (.goto 4, 3) := by decide +kernel
theorem dX5_look_17 : decode cX5_look 17 = .ok (.iconst (-1), 1) := by decide +kernel
theorem dX5_look_18 : decode cX5_look 18 = .ok (.ireturn, 1) := by decide +kernel
set_option maxRecDepth 20000 in
theorem ggX5_is_X5_look : GoodIn wsX5_is wsX5_look := goodIn_r _ [7, 8, 9, 10, 11, 12, 13, 14, 15, 16, 17, 18, 19, 20, 21, 22, 23, 24, 25, 26, 27, 28, 29, 30, 31, 32, 33, 34, 35] (by decide +kernel) (by decide +kernel)
set_option maxRecDepth 20000 in
theorem gX5_is_X5_look : GoodIn wsX5_is (wsV RX5 91 RX5 yX5_look wsX5_look) := goodIn_app (goodIn_of _ (by decide +kernel)) ggX5_is_X5_look
theorem dX5_is_0 : decode cX5_is 0 = .ok (.aload_n 0, 1) := by decide +kernel
theorem dX5_is_1 : decode cX5_is 1 = .ok (.getfield 88, 3) := by decide +kernel
theorem dX5_is_4 : decode cX5_is 4 = .ok (.aload_n 0, 1) := by decide +kernel
theorem dX5_is_5 : decode cX5_is 5 = .ok (.getfield 82, 3) := by decide +kernel
theorem dX5_is_8 : decode cX5_is 8 = .ok (.isub, 1) := by decide +kernel
theorem dX5_is_9 : decode cX5_is 9 = .ok (.iload_n 1, 1) := by decide +kernel
theorem dX5_is_10 : decode cX5_is 10 = .ok (.if_icmp .ne 68, 3) := by decide +kernel
theorem dX5_is_13 : decode cX5_is 13 = .ok (.aload_n 0, 1) := by decide +kernel
theorem dX5_is_14 : decode cX5_is 14 = .ok (.aload_n 0, 1) := by decide +kernel
theorem dX5_is_15 : decode cX5_is 15 = .ok (.getfield 82, 3) := by decide +kernel
theorem dX5_is_18 : decode cX5_is 18 = .ok (.invokevirtual 91, 3) := by decide +kernel
theorem dX5_is_21 : decode cX5_is 21 = .ok (.iload_n 2, 1) := by decide +kernel
theorem dX5_is_22 : decode cX5_is 22 = .ok (.if_icmp .ne 56, 3) := by decide +kernel
theorem dX5_is_25 : decode cX5_is 25 = .ok (.aload_n 0, 1) := by decide +kernel
theorem dX5_is_26 : decode cX5_is 26 = .ok (.aload_n 0, 1) := by decide +kernel
theorem dX5_is_27 : decode cX5_is 27 = .ok (.getfield 82, 3) := by decide +kernel
theorem dX5_is_30 : decode cX5_is 30 = .ok (.iconst 1, 1) := by decide +kernel
theorem dX5_is_31 : decode cX5_is 31 = .ok (.iadd, 1) := by decide +kernel
theorem dX5_is_32 : decode cX5_is 32 = .ok (.invokevirtual 91, 3) := by decide +kernel
theorem dX5_is_35 : decode cX5_is 35 = .ok (.iload_n 3, 1) := by decide +kernel
theorem dX5_is_36 : decode cX5_is 36 = .ok (.if_icmp .ne 42, 3) := by decide +kernel
theorem dX5_is_39 : decode cX5_is 39 = .ok (.aload_n 0, 1) := by decide +kernel
theorem dX5_is_40 : decode cX5_is 40 = .ok (.aload_n 0, 1) := by decide +kernel
theorem dX5_is_41 : decode cX5_is 41 = .ok (.getfield 82, 3) := by decide +kernel
theorem dX5_is_44 : decode cX5_is 44 = .ok (.iconst 2, 1) := by decide +kernel
theorem dX5_is_45 : decode cX5_is 45 = .ok (.iadd, 1) := by decide +kernel
theorem dX5_is_46 : decode cX5_is 46 = .ok (.invokevirtual 91, 3) := by decide +kernel
theorem dX5_is_49 : decode cX5_is 49 = .ok (.iload 4, 2) := by decide +kernel
theorem dX5_is_51 : decode cX5_is 51 = .ok (.if_icmp .ne 27, 3) := by decide +kernel
theorem dX5_is_54 : decode cX5_is 54 = .ok (.iload_n 1, 1) := by decide +kernel
theorem dX5_is_55 : decode cX5_is 55 = .ok (.iconst 4, 1) := by decide +kernel
theorem dX5_is_56 : decode cX5_is 56 = .ok (.if_icmp .lt 18, 3) := by decide +kernel
theorem dX5_is_59 : decode cX5_is 59 = .ok (.aload_n 0, 1) := by decide +kernel
theorem dX5_is_60 : decode cX5_is 60 = .ok (.aload_n 0, 1) := by decide +kernel
theorem dX5_is_61 : decode cX5_is 61 = .ok (.getfield 82, 3) := by decide +kernel
theorem dX5_is_64 : decode cX5_is 64 = .ok (.iconst 3, 1) := by decide +kernel
theorem dX5_is_65 : decode cX5_is 65 = .ok (.iadd, 1) := by decide +kernel
theorem dX5_is_66 : decode cX5_is 66 = .ok (.invokevirtual 91, 3) := by decide +kernel
theorem dX5_is_69 : decode cX5_is 69 = .ok (.iload 5, 2) := by decide +kernel
theorem dX5_is_71 : decode cX5_is 71 = .ok (.if_icmp .ne 7, 3) := by decide +kernel
theorem dX5_is_74 : decode cX5_is 74 = .ok (.iconst 1, 1) := by decide +kernel
theorem dX5_is_75 : decode cX5_is 75 = .ok (.goto 4, 3) := by decide +kernel
theorem dX5_is_78 : decode cX5_is 78 = .ok (.iconst 0, 1) := by decide +kernel
theorem dX5_is_79 : decode cX5_is 79 = .ok (.ireturn, 1) := by decide +kernel
set_option maxRecDepth 20000 in
theorem ggX5_nameNow_X5_is : GoodIn wsX5_nameNow wsX5_is := goodIn_r _ [6, 7, 1, 8, 9, 10, 5, 11, 12, 13, 14, 15, 16, 17, 18, 19, 20, 21, 22, 23, 24, 25, 26, 27, 28, 29, 30, 31, 32, 33, 34, 35, 36, 37, 38, 39] (by decide +kernel) (by decide +kernel)
set_option maxRecDepth 20000 in
theorem gX5_nameNow_X5_is : GoodIn wsX5_nameNow (wsV RX5 95 RX5 yX5_is wsX5_is) := goodIn_app (goodIn_of _ (by decide +kernel)) ggX5_nameNow_X5_is
set_option maxRecDepth 20000 in
theorem ggX5_nameNow_X5_look : GoodIn wsX5_nameNow wsX5_look := goodIn_r _ [11, 12, 13, 14, 15, 16, 17, 18, 19, 20, 21, 22, 23, 24, 25, 26, 27, 28, 29, 30, 31, 32, 33, 34, 35, 36, 37, 38, 39] (by decide +kernel) (by decide +kernel)
set_option maxRecDepth 20000 in
theorem gX5_nameNow_X5_look : GoodIn wsX5_nameNow (wsV RX5 91 RX5 yX5_look wsX5_look) := goodIn_app (goodIn_of _ (by decide +kernel)) ggX5_nameNow_X5_look
theorem dX5_nameNow_0 : decode cX5_nameNow 0 = .ok (.aload_n 0, 1) := by decide +kernel
theorem dX5_nameNow_1 : decode cX5_nameNow 1 = .ok (.bipush 6, 2) := by decide +kernel
theorem dX5_nameNow_3 : decode cX5_nameNow 3 = .ok (.bipush 108, 2) := by decide +kernel
theorem dX5_nameNow_5 : decode cX5_nameNow 5 = .ok (.bipush 101, 2) := by decide +kernel
theorem dX5_nameNow_7 : decode cX5_nameNow 7 = .ok (.bipush 110, 2) := by decide +kernel
theorem dX5_nameNow_9 : decode cX5_nameNow 9 = .ok (.bipush 103, 2) := by decide +kernel
theorem dX5_nameNow_11 : decode cX5_nameNow 11 = .ok (.invokevirtual 95, 3) := by decide +kernel
theorem dX5_nameNow_14 : decode cX5_nameNow 14 = .ok (.ifCond .eq 35, 3) := by decide +kernel
theorem dX5_nameNow_17 : decode cX5_nameNow 17 = .ok (.aload_n 0, 1) := by decide +kernel
theorem dX5_nameNow_18 : decode cX5_nameNow 18 = .ok (.aload_n 0, 1) := by decide +kernel
theorem dX5_nameNow_19 : decode cX5_nameNow 19 = .ok (.getfield 82, 3) := by decide +kernel
theorem dX5_nameNow_22 : decode cX5_nameNow 22 = .ok (.iconst 4, 1) := by decide +kernel
theorem dX5_nameNow_23 : decode cX5_nameNow 23 = .ok (.iadd, 1) := by decide +kernel
theorem dX5_nameNow_24 : decode cX5_nameNow 24 = .ok (.invokevirtual 91, 3) := by decide +kernel
theorem dX5_nameNow_27 : decode cX5_nameNow 27 = .ok (.bipush 116, 2) := by decide +kernel
theorem dX5_nameNow_29 : decode cX5_nameNow 29 = .ok (.if_icmp .ne 20, 3) := by decide +kernel
theorem dX5_nameNow_32 : decode cX5_nameNow 32 = .ok (.aload_n 0, 1) := by decide +kernel
theorem dX5_nameNow_33 : decode cX5_nameNow 33 = .ok (.aload_n 0, 1) := by decide +kernel
theorem dX5_nameNow_34 : decode cX5_nameNow 34 = .ok (.getfield 82, 3) := by decide +kernel
theorem dX5_nameNow_37 : decode cX5_nameNow 37 = .ok (.iconst 5, 1) := by decide +kernel
theorem dX5_nameNow_38 : decode cX5_nameNow 38 = .ok (.iadd, 1) := by decide +kernel
theorem dX5_nameNow_39 : decode cX5_nameNow 39 = .ok (.invokevirtual 91, 3) := by decide +kernel
theorem dX5_nameNow_42 : decode cX5_nameNow 42 = .ok (.bipush 104, 2) := by decide +kernel
theorem dX5_nameNow_44 : decode cX5_nameNow 44 = .ok (.if_icmp .ne 5, 3) := by decide +kernel
theorem dX5_nameNow_47 : decode cX5_nameNow 47 = .ok (.iconst 0, 1) := by decide +kernel
theorem dX5_nameNow_48 : decode cX5_nameNow 48 = .ok (.ireturn, 1) := by decide +kernel
theorem dX5_nameNow_49 : decode cX5_nameNow 49 = .ok (.aload_n 0, 1) := by decide +kernel
theorem dX5_nameNow_50 : decode cX5_nameNow 50 = .ok (.iconst 3, 1) := by decide +kernel
theorem dX5_nameNow_51 : decode cX5_nameNow 51 = .ok (.bipush 104, 2) := by decide +kernel
theorem dX5_nameNow_53 : decode cX5_nameNow 53 = .ok (.bipush 117, 2) := by decide +kernel
theorem dX5_nameNow_55 : decode cX5_nameNow 55 = .ok (.bipush 98, 2) := by decide +kernel
theorem dX5_nameNow_57 : decode cX5_nameNow 57 = .ok (.iconst 0, 1) := by decide +kernel
theorem dX5_nameNow_58 : decode cX5_nameNow 58 = .ok (.invokevirtual 95, 3) := by decide +kernel
theorem dX5_nameNow_61 : decode cX5_nameNow 61 = .ok (.ifCond .eq 5, 3) := by decide +kernel
theorem dX5_nameNow_64 : decode cX5_nameNow 64 = .ok (.iconst 1, 1) := by decide +kernel
theorem dX5_nameNow_65 : decode cX5_nameNow 65 = .ok (.ireturn, 1) := by decide +kernel
theorem dX5_nameNow_66 : decode cX5_nameNow 66 = .ok (.aload_n 0, 1) := by decide +kernel
theorem dX5_nameNow_67 : decode cX5_nameNow 67 = .ok (.iconst 5, 1) := by decide +kernel
theorem dX5_nameNow_68 : decode cX5_nameNow 68 = .ok (.bipush 116, 2) := by decide +kernel
theorem dX5_nameNow_70 : decode cX5_nameNow 70 = .ok (.bipush 104, 2) := by decide +kernel
theorem dX5_nameNow_72 : decode cX5_nameNow 72 = .ok (.bipush 105, 2) := by decide +kernel
theorem dX5_nameNow_74 : decode cX5_nameNow 74 = .ok (.bipush 99, 2) := by decide +kernel
theorem dX5_nameNow_76 : decode cX5_nameNow 76 = .ok (.invokevirtual 95, 3) := by decide +kernel
theorem dX5_nameNow_79 : decode cX5_nameNow 79 = .ok (.ifCond .eq 20, 3) := by decide +kernel
theorem dX5_nameNow_82 : decode cX5_nameNow 82 = .ok (.aload_n 0, 1) := by decide +kernel
theorem dX5_nameNow_83 : decode cX5_nameNow 83 = .ok (.aload_n 0, 1) := by decide +kernel
theorem dX5_nameNow_84 : decode cX5_nameNow 84 = .ok (.getfield 82, 3) := by decide +kernel
theorem dX5_nameNow_87 : decode cX5_nameNow 87 = .ok (.iconst 4, 1) := by decide +kernel
theorem dX5_nameNow_88 : decode cX5_nameNow 88 = .ok (.iadd, 1) := by decide +kernel
theorem dX5_nameNow_89 : decode cX5_nameNow 89 = .ok (.invokevirtual 91, 3) := by decide +kernel
theorem dX5_nameNow_92 : decode cX5_nameNow 92 = .ok (.bipush 107, 2) := by decide +kernel
theorem dX5_nameNow_94 : decode cX5_nameNow 94 = .ok (.if_icmp .ne 5, 3) := by decide +kernel
theorem dX5_nameNow_97 : decode cX5_nameNow 97 = .ok (.iconst 2, 1) := by decide +kernel
theorem dX5_nameNow_98 : decode cX5_nameNow 98 = .ok (.ireturn, 1) := by decide +kernel
theorem dX5_nameNow_99 : decode cX5_nameNow 99 = .ok (.aload_n 0, 1) := by decide +kernel
theorem dX5_nameNow_100 : decode cX5_nameNow 100 = .ok (.iconst 4, 1) := by decide +kernel
theorem dX5_nameNow_101 : decode cX5_nameNow 101 = .ok (.bipush 112, 2) := by decide +kernel
theorem dX5_nameNow_103 : decode cX5_nameNow 103 = .ok (.bipush 108, 2) := by decide +kernel
theorem dX5_nameNow_105 : decode cX5_nameNow 105 = .ok (.bipush 97, 2) := by decide +kernel
theorem dX5_nameNow_107 : decode cX5_nameNow 107 = .ok (.bipush 121, 2) := by decide +kernel
theorem dX5_nameNow_109 : decode cX5_nameNow 109 = .ok (.invokevirtual 95, 3) := by decide +kernel
theorem dX5_nameNow_112 : decode cX5_nameNow 112 = .ok (.ifCond .eq 5, 3) := by decide +kernel
theorem dX5_nameNow_115 : decode cX5_nameNow 115 = .ok (.iconst 3, 1) := by decide +kernel
theorem dX5_nameNow_116 : decode cX5_nameNow 116 = .ok (.ireturn, 1) := by decide +kernel
theorem dX5_nameNow_117 : decode cX5_nameNow 117 = .ok (.aload_n 0, 1) := by decide +kernel
theorem dX5_nameNow_118 : decode cX5_nameNow 118 = .ok (.iconst 4, 1) := by decide +kernel
theorem dX5_nameNow_119 : decode cX5_nameNow 119 = .ok (.bipush 119, 2) := by decide +kernel
theorem dX5_nameNow_121 : decode cX5_nameNow 121 = .ok (.bipush 105, 2) := by decide +kernel
theorem dX5_nameNow_123 : decode cX5_nameNow 123 = .ok (.bipush 110, 2) := by decide +kernel
theorem dX5_nameNow_125 : decode cX5_nameNow 125 = .ok (.bipush 100, 2) := by decide +kernel
theorem dX5_nameNow_127 : decode cX5_nameNow 127 = .ok (.invokevirtual 95, 3) := by decide +kernel
theorem dX5_nameNow_130 : decode cX5_nameNow 130 = .ok (.ifCond .eq 5, 3) := by decide +kernel
theorem dX5_nameNow_133 : decode cX5_nameNow 133 = .ok (.iconst 4, 1) := by decide +kernel
theorem dX5_nameNow_134 : decode cX5_nameNow 134 = .ok (.ireturn, 1) := by decide +kernel
theorem dX5_nameNow_135 : decode cX5_nameNow 135 = .ok (.aload_n 0, 1) := by decide +kernel
theorem dX5_nameNow_136 : decode cX5_nameNow 136 = .ok (.iconst 4, 1) := by decide +kernel
theorem dX5_nameNow_137 : decode cX5_nameNow 137 = .ok (.bipush 114, 2) := by decide +kernel
theorem dX5_nameNow_139 : decode cX5_nameNow 139 = .ok (.bipush 97, 2) := by decide +kernel
theorem dX5_nameNow_141 : decode cX5_nameNow 141 = .ok (.bipush 109, 2) := by decide +kernel
theorem dX5_nameNow_143 : decode cX5_nameNow 143 = .ok (.bipush 112, 2) := by decide +kernel
theorem dX5_nameNow_145 : decode cX5_nameNow 145 = .ok (.invokevirtual 95, 3) := by decide +kernel
theorem dX5_nameNow_148 : decode cX5_nameNow 148 = .ok (.ifCond .eq 5, 3) := by decide +kernel
theorem dX5_nameNow_151 : decode cX5_nameNow 151 = .ok (.iconst 5, 1) := by decide +kernel
theorem dX5_nameNow_152 : decode cX5_nameNow 152 = .ok (.ireturn, 1) := by decide +kernel
theorem dX5_nameNow_153 : decode cX5_nameNow 153 = .ok (.aload_n 0, 1) := by decide +kernel
theorem dX5_nameNow_154 : decode cX5_nameNow 154 = .ok (.iconst 3, 1) := by decide +kernel
theorem dX5_nameNow_155 : decode cX5_nameNow 155 = .ok (.bipush 103, 2) := by decide +kernel
theorem dX5_nameNow_157 : decode cX5_nameNow 157 = .ok (.bipush 97, 2) := by decide +kernel
theorem dX5_nameNow_159 : decode cX5_nameNow 159 = .ok (.bipush 112, 2) := by decide +kernel
theorem dX5_nameNow_161 : decode cX5_nameNow 161 = .ok (.iconst 0, 1) := by decide +kernel
theorem dX5_nameNow_162 : decode cX5_nameNow 162 = .ok (.invokevirtual 95, 3) := by decide +kernel
theorem dX5_nameNow_165 : decode cX5_nameNow 165 = .ok (.ifCond .eq 6, 3) := by decide +kernel
theorem dX5_nameNow_168 : decode cX5_nameNow 168 = .ok (.bipush 6, 2) := by decide +kernel
theorem dX5_nameNow_170 : decode cX5_nameNow 170 = .ok (.ireturn, 1) := by decide +kernel
theorem dX5_nameNow_171 : decode cX5_nameNow 171 = .ok (.aload_n 0, 1) := by decide +kernel
theorem dX5_nameNow_172 : decode cX5_nameNow 172 = .ok (.iconst 5, 1) := by decide +kernel
theorem dX5_nameNow_173 : decode cX5_nameNow 173 = .ok (.bipush 100, 2) := by decide +kernel
theorem dX5_nameNow_175 : decode cX5_nameNow 175 = .ok (.bipush 101, 2) := by decide +kernel
theorem dX5_nameNow_177 : decode cX5_nameNow 177 = .ok (.bipush 110, 2) := by decide +kernel
theorem dX5_nameNow_179 : decode cX5_nameNow 179 = .ok (.bipush 115, 2) := by decide +kernel
theorem dX5_nameNow_181 : decode cX5_nameNow 181 = .ok (.invokevirtual 95, 3) := by decide +kernel
theorem dX5_nameNow_184 : decode cX5_nameNow 184 = .ok (.ifCond .eq 21, 3) := by decide +kernel
theorem dX5_nameNow_187 : decode cX5_nameNow 187 = .ok (.aload_n 0, 1) := by decide +kernel
theorem dX5_nameNow_188 : decode cX5_nameNow 188 = .ok (.aload_n 0, 1) := by decide +kernel
theorem dX5_nameNow_189 : decode cX5_nameNow 189 = .ok (.getfield 82, 3) := by decide +kernel
theorem dX5_nameNow_192 : decode cX5_nameNow 192 = .ok (.iconst 4, 1) := by decide +kernel
theorem dX5_nameNow_193 : decode cX5_nameNow 193 = .ok (.iadd, 1) := by decide +kernel
theorem dX5_nameNow_194 : decode cX5_nameNow 194 = .ok (.invokevirtual 91, 3) := by decide +kernel
theorem dX5_nameNow_197 : decode cX5_nameNow 197 = .ok (.bipush 101, 2) := by decide +kernel
theorem dX5_nameNow_199 : decode cX5_nameNow 199 = .ok (.if_icmp .ne 6, 3) := by decide +kernel
theorem dX5_nameNow_202 : decode cX5_nameNow 202 = .ok (.bipush 7, 2) := by decide +kernel
theorem dX5_nameNow_204 : decode cX5_nameNow 204 = .ok (.ireturn, 1) := by decide +kernel
theorem dX5_nameNow_205 : decode cX5_nameNow 205 = .ok (.aload_n 0, 1) := by decide +kernel
theorem dX5_nameNow_206 : decode cX5_nameNow 206 = .ok (.iconst 5, 1) := by decide +kernel
theorem dX5_nameNow_207 : decode cX5_nameNow 207 = .ok (.bipush 104, 2) := by decide +kernel
theorem dX5_nameNow_209 : decode cX5_nameNow 209 = .ok (.bipush 105, 2) := by decide +kernel
theorem dX5_nameNow_211 : decode cX5_nameNow 211 = .ok (.bipush 116, 2) := by decide +kernel
theorem dX5_nameNow_213 : decode cX5_nameNow 213 = .ok (.bipush 99, 2) := by decide +kernel
theorem dX5_nameNow_215 : decode cX5_nameNow 215 = .ok (.invokevirtual 95, 3) := by decide +kernel
theorem dX5_nameNow_218 : decode cX5_nameNow 218 = .ok (.ifCond .eq 21, 3) := by decide +kernel
theorem dX5_nameNow_221 : decode cX5_nameNow 221 = .ok (.aload_n 0, 1) := by decide +kernel
theorem dX5_nameNow_222 : decode cX5_nameNow 222 = .ok (.aload_n 0, 1) := by decide +kernel
theorem dX5_nameNow_223 : decode cX5_nameNow 223 = .ok (.getfield 82, 3) := by decide +kernel
theorem dX5_nameNow_226 : decode cX5_nameNow 226 = .ok (.iconst 4, 1) := by decide +kernel
theorem dX5_nameNow_227 : decode cX5_nameNow 227 = .ok (.iadd, 1) := by decide +kernel
theorem dX5_nameNow_228 : decode cX5_nameNow 228 = .ok (.invokevirtual 91, 3) := by decide +kernel
theorem dX5_nameNow_231 : decode cX5_nameNow 231 = .ok (.bipush 104, 2) := by decide +kernel
theorem dX5_nameNow_233 : decode cX5_nameNow 233 = .ok (.if_icmp .ne 6, 3) := by decide +kernel
theorem dX5_nameNow_236 : decode cX5_nameNow 236 = .ok (.bipush 8, 2) := by decide +kernel
theorem dX5_nameNow_238 : decode cX5_nameNow 238 = .ok (.ireturn, 1) := by decide +kernel
theorem dX5_nameNow_239 : decode cX5_nameNow 239 = .ok (.aload_n 0, 1) := by decide +kernel
theorem dX5_nameNow_240 : decode cX5_nameNow 240 = .ok (.iconst 5, 1) := by decide +kernel
theorem dX5_nameNow_241 : decode cX5_nameNow 241 = .ok (.bipush 98, 2) := by decide +kernel
theorem dX5_nameNow_243 : decode cX5_nameNow 243 = .ok (.bipush 108, 2) := by decide +kernel
theorem dX5_nameNow_245 : decode cX5_nameNow 245 = .ok (.bipush 111, 2) := by decide +kernel
theorem dX5_nameNow_247 : decode cX5_nameNow 247 = .ok (.bipush 99, 2) := by decide +kernel
theorem dX5_nameNow_249 : decode cX5_nameNow 249 = .ok (.invokevirtual 95, 3) := by decide +kernel
theorem dX5_nameNow_252 : decode cX5_nameNow 252 = .ok (.ifCond .eq 23, 3) := by decide +kernel
theorem dX5_nameNow_255 : decode cX5_nameNow 255 = .ok (.aload_n 0, 1) := by decide +kernel
theorem dX5_nameNow_256 : decode cX5_nameNow 256 = .ok (.aload_n 0, 1) := by decide +kernel
theorem dX5_nameNow_257 : decode cX5_nameNow 257 = .ok (.getfield 82, 3) := by decide +kernel
theorem dX5_nameNow_260 : decode cX5_nameNow 260 = .ok (.iconst 4, 1) := by decide +kernel
theorem dX5_nameNow_261 : decode cX5_nameNow 261 = .ok (.iadd, 1) := by decide +kernel
theorem dX5_nameNow_262 : decode cX5_nameNow 262 = .ok (.invokevirtual 91, 3) := by decide +kernel
theorem dX5_nameNow_265 : decode cX5_nameNow 265 = .ok (.bipush 107, 2) := by decide +kernel
theorem dX5_nameNow_267 : decode cX5_nameNow 267 = .ok (.if_icmp .ne 8, 3) := by decide +kernel
theorem dX5_nameNow_270 : decode cX5_nameNow 270 = .ok (.bipush 10, 2) := by decide +kernel
theorem dX5_nameNow_272 : decode cX5_nameNow 272 = .ok (.goto 26, 3) := by decide +kernel
theorem dX5_nameNow_275 : decode cX5_nameNow 275 = .ok (.aload_n 0, 1) := by decide +kernel
theorem dX5_nameNow_276 : decode cX5_nameNow 276 = .ok (.iconst 4, 1) := by decide +kernel
theorem dX5_nameNow_277 : decode cX5_nameNow 277 = .ok (.bipush 109, 2) := by decide +kernel
theorem dX5_nameNow_279 : decode cX5_nameNow 279 = .ok (.bipush 97, 2) := by decide +kernel
theorem dX5_nameNow_281 : decode cX5_nameNow 281 = .ok (.bipush 114, 2) := by decide +kernel
theorem dX5_nameNow_283 : decode cX5_nameNow 283 = .ok (.bipush 107, 2) := by decide +kernel
theorem dX5_nameNow_285 : decode cX5_nameNow 285 = .ok (.invokevirtual 95, 3) := by decide +kernel
theorem dX5_nameNow_288 : decode cX5_nameNow 288 = .ok (.ifCond .eq 8, 3) := by decide +kernel
theorem dX5_nameNow_291 : decode cX5_nameNow 291 = .ok (.bipush 11, 2) := by decide +kernel
theorem dX5_nameNow_293 : decode cX5_nameNow 293 = .ok (.goto 5, 3) := by decide +kernel
theorem dX5_nameNow_296 : decode cX5_nameNow 296 = .ok (.bipush (-4), 2) := by decide +kernel
theorem dX5_nameNow_298 : decode cX5_nameNow 298 = .ok (.ireturn, 1) := by decide +kernel
set_option maxRecDepth 20000 in
theorem ggX5_next_X5_look : GoodIn wsX5_next wsX5_look := goodIn_r _ [14, 15, 16, 25, 26, 27, 28, 29, 30, 31, 32, 33, 34, 35, 36, 37, 38, 39, 40, 41, 42, 43, 44, 45, 46, 47, 48, 49, 50] (by decide +kernel) (by decide +kernel)
set_option maxRecDepth 20000 in
theorem gX5_next_X5_look : GoodIn wsX5_next (wsV RX5 91 RX5 yX5_look wsX5_look) := goodIn_app (goodIn_of _ (by decide +kernel)) ggX5_next_X5_look
set_option maxRecDepth 20000 in
theorem ggX5_next_X5_in : GoodIn wsX5_next wsX5_in := goodIn_r _ [19] (by decide +kernel) (by decide +kernel)
set_option maxRecDepth 20000 in
theorem gX5_next_X5_in : GoodIn wsX5_next (va_wsS RX5 75 yX5_in wsX5_in) := goodIn_app (goodIn_of _ (by decide +kernel)) ggX5_next_X5_in
set_option maxRecDepth 20000 in
theorem ggX5_next_X5_needs : GoodIn wsX5_next wsX5_needs := goodIn_r _ [23, 1, 3, 24, 25, 26, 27, 28, 29, 30, 31, 32, 33, 34, 35, 36, 37, 38, 39, 40, 41, 42, 43, 44, 45, 46, 47, 48, 49, 50] (by decide +kernel) (by decide +kernel)
set_option maxRecDepth 20000 in
theorem gX5_next_X5_needs : GoodIn wsX5_next (wsV RX5 113 RX5 yX5_needs wsX5_needs) := goodIn_app (goodIn_of _ (by decide +kernel)) ggX5_next_X5_needs
theorem dX5_next_0 : decode cX5_next 0 = .ok (.aload_n 0, 1) := by decide +kernel
theorem dX5_next_1 : decode cX5_next 1 = .ok (.getfield 79, 3) := by decide +kernel
theorem dX5_next_4 : decode cX5_next 4 = .ok (.ifCond .le 4, 3) := by decide +kernel
theorem dX5_next_7 : decode cX5_next 7 = .ok (.return_, 1) := by decide +kernel
theorem dX5_next_8 : decode cX5_next 8 = .ok (.aload_n 0, 1) := by decide +kernel
theorem dX5_next_9 : decode cX5_next 9 = .ok (.aload_n 0, 1) := by decide +kernel
theorem dX5_next_10 : decode cX5_next 10 = .ok (.getfield 88, 3) := by decide +kernel
theorem dX5_next_13 : decode cX5_next 13 = .ok (.invokevirtual 91, 3) := by decide +kernel
theorem dX5_next_16 : decode cX5_next 16 = .ok (.bipush 32, 2) := by decide +kernel
theorem dX5_next_18 : decode cX5_next 18 = .ok (.if_icmp .ne 16, 3) := by decide +kernel
theorem dX5_next_21 : decode cX5_next 21 = .ok (.aload_n 0, 1) := by decide +kernel
theorem dX5_next_22 : decode cX5_next 22 = .ok (.dup, 1) := by decide +kernel
theorem dX5_next_23 : decode cX5_next 23 = .ok (.getfield 88, 3) := by decide +kernel
theorem dX5_next_26 : decode cX5_next 26 = .ok (.iconst 1, 1) := by decide +kernel
theorem dX5_next_27 : decode cX5_next 27 = .ok (.iadd, 1) := by decide +kernel
theorem dX5_next_28 : decode cX5_next 28 = .ok (.putfield 88, 3) := by decide +kernel
theorem dX5_next_31 : decode cX5_next 31 = .ok (.goto (-23), 3) := by decide +kernel
theorem dX5_next_34 : decode cX5_next 34 = .ok (.aload_n 0, 1) := by decide +kernel
theorem dX5_next_35 : decode cX5_next 35 = .ok (.aload_n 0, 1) := by decide +kernel
theorem dX5_next_36 : decode cX5_next 36 = .ok (.getfield 88, 3) := by decide +kernel
theorem dX5_next_39 : decode cX5_next 39 = .ok (.putfield 82, 3) := by decide +kernel
theorem dX5_next_42 : decode cX5_next 42 = .ok (.aload_n 0, 1) := by decide +kernel
theorem dX5_next_43 : decode cX5_next 43 = .ok (.aload_n 0, 1) := by decide +kernel
theorem dX5_next_44 : decode cX5_next 44 = .ok (.getfield 88, 3) := by decide +kernel
theorem dX5_next_47 : decode cX5_next 47 = .ok (.invokevirtual 91, 3) := by decide +kernel
theorem dX5_next_50 : decode cX5_next 50 = .ok (.istore_n 1, 1) := by decide +kernel
theorem dX5_next_51 : decode cX5_next 51 = .ok (.iload_n 1, 1) := by decide +kernel
theorem dX5_next_52 : decode cX5_next 52 = .ok (.ifCond .ge 11, 3) := by decide +kernel
theorem dX5_next_55 : decode cX5_next 55 = .ok (.aload_n 0, 1) := by decide +kernel
theorem dX5_next_56 : decode cX5_next 56 = .ok (.iconst 0, 1) := by decide +kernel
theorem dX5_next_57 : decode cX5_next 57 = .ok (.putfield 99, 3) := by decide +kernel
theorem dX5_next_60 : decode cX5_next 60 = .ok (.goto 214, 3) := by decide +kernel
theorem dX5_next_63 : decode cX5_next 63 = .ok (.iload_n 1, 1) := by decide +kernel
theorem dX5_next_64 : decode cX5_next 64 = .ok (.i2l, 1) := by decide +kernel
theorem dX5_next_65 : decode cX5_next 65 = .ok (.ldc2_w 102, 3) := by decide +kernel
theorem dX5_next_68 : decode cX5_next 68 = .ok (.ldc2_w 104, 3) := by decide +kernel
theorem dX5_next_71 : decode cX5_next 71 = .ok (.invokestatic 75, 3) := by decide +kernel
theorem dX5_next_74 : decode cX5_next 74 = .ok (.ifCond .eq 42, 3) := by decide +kernel
theorem dX5_next_77 : decode cX5_next 77 = .ok (.aload_n 0, 1) := by decide +kernel
theorem dX5_next_78 : decode cX5_next 78 = .ok (.iconst 1, 1) := by decide +kernel
theorem dX5_next_79 : decode cX5_next 79 = .ok (.putfield 99, 3) := by decide +kernel
theorem dX5_next_82 : decode cX5_next 82 = .ok (.aload_n 0, 1) := by decide +kernel
theorem dX5_next_83 : decode cX5_next 83 = .ok (.aload_n 0, 1) := by decide +kernel
theorem dX5_next_84 : decode cX5_next 84 = .ok (.getfield 88, 3) := by decide +kernel
theorem dX5_next_87 : decode cX5_next 87 = .ok (.invokevirtual 91, 3) := by decide +kernel
theorem dX5_next_90 : decode cX5_next 90 = .ok (.i2l, 1) := by decide +kernel
theorem dX5_next_91 : decode cX5_next 91 = .ok (.ldc2_w 102, 3) := by decide +kernel
theorem dX5_next_94 : decode cX5_next 94 = .ok (.ldc2_w 104, 3) := by decide +kernel
theorem dX5_next_97 : decode cX5_next 97 = .ok (.invokestatic 75, 3) := by decide +kernel
theorem dX5_next_100 : decode cX5_next 100 = .ok (.ifCond .eq 174, 3) := by decide +kernel
theorem dX5_next_103 : decode cX5_next 103 = .ok (.aload_n 0, 1) := by decide +kernel
theorem dX5_next_104 : decode cX5_next 104 = .ok (.dup, 1) := by decide +kernel
theorem dX5_next_105 : decode cX5_next 105 = .ok (.getfield 88, 3) := by decide +kernel
theorem dX5_next_108 : decode cX5_next 108 = .ok (.iconst 1, 1) := by decide +kernel
theorem dX5_next_109 : decode cX5_next 109 = .ok (.iadd, 1) := by decide +kernel
theorem dX5_next_110 : decode cX5_next 110 = .ok (.putfield 88, 3) := by decide +kernel
theorem dX5_next_113 : decode cX5_next 113 = .ok (.goto (-31), 3) := by decide +kernel
theorem dX5_next_116 : decode cX5_next 116 = .ok (.iload_n 1, 1) := by decide +kernel
theorem dX5_next_117 : decode cX5_next 117 = .ok (.i2l, 1) := by decide +kernel
theorem dX5_next_118 : decode cX5_next 118 = .ok (.ldc2_w 106, 3) := by decide +kernel
theorem dX5_next_121 : decode cX5_next 121 = .ok (.ldc2_w 108, 3) := by decide +kernel
theorem dX5_next_124 : decode cX5_next 124 = .ok (.invokestatic 75, 3) := by decide +kernel
theorem dX5_next_127 : decode cX5_next 127 = .ok (.ifCond .eq 116, 3) := by decide +kernel
theorem dX5_next_130 : decode cX5_next 130 = .ok (.aload_n 0, 1) := by decide +kernel
theorem dX5_next_131 : decode cX5_next 131 = .ok (.iconst 2, 1) := by decide +kernel
theorem dX5_next_132 : decode cX5_next 132 = .ok (.putfield 99, 3) := by decide +kernel
theorem dX5_next_135 : decode cX5_next 135 = .ok (.aload_n 0, 1) := by decide +kernel
theorem dX5_next_136 : decode cX5_next 136 = .ok (.iconst 0, 1) := by decide +kernel
theorem dX5_next_137 : decode cX5_next 137 = .ok (.putfield 110, 3) := by decide +kernel
theorem dX5_next_140 : decode cX5_next 140 = .ok (.aload_n 0, 1) := by decide +kernel
theorem dX5_next_141 : decode cX5_next 141 = .ok (.aload_n 0, 1) := by decide +kernel
theorem dX5_next_142 : decode cX5_next 142 = .ok (.getfield 88, 3) := by decide +kernel
theorem dX5_next_145 : decode cX5_next 145 = .ok (.invokevirtual 91, 3) := by decide +kernel
theorem dX5_next_148 : decode cX5_next 148 = .ok (.i2l, 1) := by decide +kernel
theorem dX5_next_149 : decode cX5_next 149 = .ok (.ldc2_w 106, 3) := by decide +kernel
theorem dX5_next_152 : decode cX5_next 152 = .ok (.ldc2_w 108, 3) := by decide +kernel
theorem dX5_next_155 : decode cX5_next 155 = .ok (.invokestatic 75, 3) := by decide +kernel
theorem dX5_next_158 : decode cX5_next 158 = .ok (.ifCond .eq 59, 3) := by decide +kernel
theorem dX5_next_161 : decode cX5_next 161 = .ok (.aload_n 0, 1) := by decide +kernel
theorem dX5_next_162 : decode cX5_next 162 = .ok (.aload_n 0, 1) := by decide +kernel
theorem dX5_next_163 : decode cX5_next 163 = .ok (.getfield 88, 3) := by decide +kernel
theorem dX5_next_166 : decode cX5_next 166 = .ok (.aload_n 0, 1) := by decide +kernel
theorem dX5_next_167 : decode cX5_next 167 = .ok (.getfield 82, 3) := by decide +kernel
theorem dX5_next_170 : decode cX5_next 170 = .ok (.isub, 1) := by decide +kernel
theorem dX5_next_171 : decode cX5_next 171 = .ok (.iconst 4, 1) := by decide +kernel
theorem dX5_next_172 : decode cX5_next 172 = .ok (.if_icmp .ge 25, 3) := by decide +kernel
theorem dX5_next_175 : decode cX5_next 175 = .ok (.bipush 10, 2) := by decide +kernel
theorem dX5_next_177 : decode cX5_next 177 = .ok (.aload_n 0, 1) := by decide +kernel
theorem dX5_next_178 : decode cX5_next 178 = .ok (.getfield 110, 3) := by decide +kernel
theorem dX5_next_181 : decode cX5_next 181 = .ok (.imul, 1) := by decide +kernel
theorem dX5_next_182 : decode cX5_next 182 = .ok (.aload_n 0, 1) := by decide +kernel
theorem dX5_next_183 : decode cX5_next 183 = .ok (.aload_n 0, 1) := by decide +kernel
theorem dX5_next_184 : decode cX5_next 184 = .ok (.getfield 88, 3) := by decide +kernel
theorem dX5_next_187 : decode cX5_next 187 = .ok (.invokevirtual 91, 3) := by decide +kernel
theorem dX5_next_190 : decode cX5_next 190 = .ok (.iadd, 1) := by decide +kernel
theorem dX5_next_191 : decode cX5_next 191 = .ok (.bipush 48, 2) := by decide +kernel
theorem dX5_next_193 : decode cX5_next 193 = .ok (.isub, 1) := by decide +kernel
theorem dX5_next_194 : decode cX5_next 194 = .ok (.goto 7, 3) := by decide +kernel
theorem dX5_next_197 : decode cX5_next 197 = .ok (.aload_n 0, 1) := by decide +kernel
theorem dX5_next_198 : decode cX5_next 198 = .ok (.getfield 110, 3) := by decide +kernel
theorem dX5_next_201 : decode cX5_next 201 = .ok (.putfield 110, 3) := by decide +kernel
theorem dX5_next_204 : decode cX5_next 204 = .ok (.aload_n 0, 1) := by decide +kernel
theorem dX5_next_205 : decode cX5_next 205 = .ok (.dup, 1) := by decide +kernel
theorem dX5_next_206 : decode cX5_next 206 = .ok (.getfield 88, 3) := by decide +kernel
theorem dX5_next_209 : decode cX5_next 209 = .ok (.iconst 1, 1) := by decide +kernel
theorem dX5_next_210 : decode cX5_next 210 = .ok (.iadd, 1) := by decide +kernel
theorem dX5_next_211 : decode cX5_next 211 = .ok (.putfield 88, 3) := by decide +kernel
theorem dX5_next_214 : decode cX5_next 214 = .ok (.goto (-74), 3) := by decide +kernel
theorem dX5_next_217 : decode cX5_next 217 = .ok (.aload_n 0, 1) := by decide +kernel
theorem dX5_next_218 : decode cX5_next 218 = .ok (.aload_n 0, 1) := by decide +kernel
theorem dX5_next_219 : decode cX5_next 219 = .ok (.getfield 88, 3) := by decide +kernel
theorem dX5_next_222 : decode cX5_next 222 = .ok (.aload_n 0, 1) := by decide +kernel
theorem dX5_next_223 : decode cX5_next 223 = .ok (.getfield 82, 3) := by decide +kernel
theorem dX5_next_226 : decode cX5_next 226 = .ok (.isub, 1) := by decide +kernel
theorem dX5_next_227 : decode cX5_next 227 = .ok (.iconst 4, 1) := by decide +kernel
theorem dX5_next_228 : decode cX5_next 228 = .ok (.if_icmp .gt 7, 3) := by decide +kernel
theorem dX5_next_231 : decode cX5_next 231 = .ok (.iconst 1, 1) := by decide +kernel
theorem dX5_next_232 : decode cX5_next 232 = .ok (.goto 4, 3) := by decide +kernel
theorem dX5_next_235 : decode cX5_next 235 = .ok (.iconst 0, 1) := by decide +kernel
theorem dX5_next_236 : decode cX5_next 236 = .ok (.iconst 1, 1) := by decide +kernel
theorem dX5_next_237 : decode cX5_next 237 = .ok (.invokevirtual 113, 3) := by decide +kernel
theorem dX5_next_240 : decode cX5_next 240 = .ok (.goto 34, 3) := by decide +kernel
theorem dX5_next_243 : decode cX5_next 243 = .ok (.aload_n 0, 1) := by decide +kernel
theorem dX5_next_244 : decode cX5_next 244 = .ok (.iconst 3, 1) := by decide +kernel
theorem dX5_next_245 : decode cX5_next 245 = .ok (.putfield 99, 3) := by decide +kernel
theorem dX5_next_248 : decode cX5_next 248 = .ok (.aload_n 0, 1) := by decide +kernel
theorem dX5_next_249 : decode cX5_next 249 = .ok (.iload_n 1, 1) := by decide +kernel
theorem dX5_next_250 : decode cX5_next 250 = .ok (.bipush 59, 2) := by decide +kernel
theorem dX5_next_252 : decode cX5_next 252 = .ok (.if_icmp .ne 7, 3) := by decide +kernel
theorem dX5_next_255 : decode cX5_next 255 = .ok (.iconst 1, 1) := by decide +kernel
theorem dX5_next_256 : decode cX5_next 256 = .ok (.goto 4, 3) := by decide +kernel
theorem dX5_next_259 : decode cX5_next 259 = .ok (.iconst 0, 1) := by decide +kernel
theorem dX5_next_260 : decode cX5_next 260 = .ok (.iconst 1, 1) := by decide +kernel
theorem dX5_next_261 : decode cX5_next 261 = .ok (.invokevirtual 113, 3) := by decide +kernel
theorem dX5_next_264 : decode cX5_next 264 = .ok (.aload_n 0, 1) := by decide +kernel
theorem dX5_next_265 : decode cX5_next 265 = .ok (.dup, 1) := by decide +kernel
theorem dX5_next_266 : decode cX5_next 266 = .ok (.getfield 88, 3) := by decide +kernel
theorem dX5_next_269 : decode cX5_next 269 = .ok (.iconst 1, 1) := by decide +kernel
theorem dX5_next_270 : decode cX5_next 270 = .ok (.iadd, 1) := by decide +kernel
theorem dX5_next_271 : decode cX5_next 271 = .ok (.putfield 88, 3) := by decide +kernel
theorem dX5_next_274 : decode cX5_next 274 = .ok (.return_, 1) := by decide +kernel
set_option maxRecDepth 20000 in
theorem ggX5_readNumber_X5_needs : GoodIn wsX5_readNumber wsX5_needs := goodIn_r _ [8, 1, 9, 10, 29, 30, 31, 32, 33, 34, 35, 36, 37, 38, 39, 40, 41, 42, 43, 44, 45, 46, 47, 48, 49, 50, 51, 52, 53, 54] (by decide +kernel) (by decide +kernel)
set_option maxRecDepth 20000 in
theorem gX5_readNumber_X5_needs : GoodIn wsX5_readNumber (wsV RX5 113 RX5 yX5_needs wsX5_needs) := goodIn_app (goodIn_of _ (by decide +kernel)) ggX5_readNumber_X5_needs
set_option maxRecDepth 20000 in
theorem ggX5_readNumber_X5_in : GoodIn wsX5_readNumber wsX5_in := goodIn_r _ [13] (by decide +kernel) (by decide +kernel)
set_option maxRecDepth 20000 in
theorem gX5_readNumber_X5_in : GoodIn wsX5_readNumber (va_wsS RX5 75 yX5_in wsX5_in) := goodIn_app (goodIn_of _ (by decide +kernel)) ggX5_readNumber_X5_in
set_option maxRecDepth 20000 in
theorem ggX5_readNumber_X5_next : GoodIn wsX5_readNumber wsX5_next := goodIn_r _ [17, 1, 18, 9, 2, 19, 20, 21, 22, 3, 23, 24, 25, 7, 26, 27, 28, 11, 12, 13, 4, 5, 6, 8, 10, 29, 30, 31, 32, 33, 34, 35, 36, 37, 38, 39, 40, 41, 42, 43, 44, 45, 46, 47, 48, 49, 50, 51, 52, 53, 54] (by decide +kernel) (by decide +kernel)
set_option maxRecDepth 20000 in
theorem gX5_readNumber_X5_next : GoodIn wsX5_readNumber (wsV RX5 117 RX5 yX5_next wsX5_next) := goodIn_app (goodIn_of _ (by decide +kernel)) ggX5_readNumber_X5_next
theorem dX5_readNumber_0 : decode cX5_readNumber 0 = .ok (.aload_n 0, 1) := by decide +kernel
theorem dX5_readNumber_1 : decode cX5_readNumber 1 = .ok (.getfield 79, 3) := by decide +kernel
theorem dX5_readNumber_4 : decode cX5_readNumber 4 = .ok (.ifCond .ne 21, 3) := by decide +kernel
theorem dX5_readNumber_7 : decode cX5_readNumber 7 = .ok (.aload_n 0, 1) := by decide +kernel
theorem dX5_readNumber_8 : decode cX5_readNumber 8 = .ok (.aload_n 0, 1) := by decide +kernel
theorem dX5_readNumber_9 : decode cX5_readNumber 9 = .ok (.getfield 99, 3) := by decide +kernel
theorem dX5_readNumber_12 : decode cX5_readNumber 12 = .ok (.iconst 2, 1) := by decide +kernel
theorem dX5_readNumber_13 : decode cX5_readNumber 13 = .ok (.if_icmp .ne 7, 3) := by decide +kernel
theorem dX5_readNumber_16 : decode cX5_readNumber 16 = .ok (.iconst 1, 1) := by decide +kernel
theorem dX5_readNumber_17 : decode cX5_readNumber 17 = .ok (.goto 4, 3) := by decide +kernel
theorem dX5_readNumber_20 : decode cX5_readNumber 20 = .ok (.iconst 0, 1) := by decide +kernel
theorem dX5_readNumber_21 : decode cX5_readNumber 21 = .ok (.iconst 2, 1) := by decide +kernel
theorem dX5_readNumber_22 : decode cX5_readNumber 22 = .ok (.invokevirtual 113, 3) := by decide +kernel
theorem dX5_readNumber_25 : decode cX5_readNumber 25 = .ok (.aload_n 0, 1) := by decide +kernel
theorem dX5_readNumber_26 : decode cX5_readNumber 26 = .ok (.getfield 79, 3) := by decide +kernel
theorem dX5_readNumber_29 : decode cX5_readNumber 29 = .ok (.ifCond .ne 20, 3) := by decide +kernel
theorem dX5_readNumber_32 : decode cX5_readNumber 32 = .ok (.aload_n 0, 1) := by decide +kernel
theorem dX5_readNumber_33 : decode cX5_readNumber 33 = .ok (.aload_n 0, 1) := by decide +kernel
theorem dX5_readNumber_34 : decode cX5_readNumber 34 = .ok (.getfield 110, 3) := by decide +kernel
theorem dX5_readNumber_37 : decode cX5_readNumber 37 = .ok (.i2l, 1) := by decide +kernel
theorem dX5_readNumber_38 : decode cX5_readNumber 38 = .ok (.iload_n 1, 1) := by decide +kernel
theorem dX5_readNumber_39 : decode cX5_readNumber 39 = .ok (.i2l, 1) := by decide +kernel
theorem dX5_readNumber_40 : decode cX5_readNumber 40 = .ok (.iload_n 2, 1) := by decide +kernel
theorem dX5_readNumber_41 : decode cX5_readNumber 41 = .ok (.i2l, 1) := by decide +kernel
theorem dX5_readNumber_42 : decode cX5_readNumber 42 = .ok (.invokestatic 75, 3) := by decide +kernel
theorem dX5_readNumber_45 : decode cX5_readNumber 45 = .ok (.iconst 3, 1) := by decide +kernel
theorem dX5_readNumber_46 : decode cX5_readNumber 46 = .ok (.invokevirtual 113, 3) := by decide +kernel
theorem dX5_readNumber_49 : decode cX5_readNumber 49 = .ok (.aload_n 0, 1) := by decide +kernel
theorem dX5_readNumber_50 : decode cX5_readNumber 50 = .ok (.getfield 110, 3) := by decide +kernel
theorem dX5_readNumber_53 : decode cX5_readNumber 53 = .ok (.istore_n 3, 1) := by decide +kernel
theorem dX5_readNumber_54 : decode cX5_readNumber 54 = .ok (.aload_n 0, 1) := by decide +kernel
theorem dX5_readNumber_55 : decode cX5_readNumber 55 = .ok (.invokevirtual 117, 3) := by decide +kernel
theorem dX5_readNumber_58 : decode cX5_readNumber 58 = .ok (.iload_n 3, 1) := by decide +kernel
theorem dX5_readNumber_59 : decode cX5_readNumber 59 = .ok (.ireturn, 1) := by decide +kernel
set_option maxRecDepth 20000 in
theorem ggX5_readBlock_X5_needs : GoodIn wsX5_readBlock wsX5_needs := goodIn_r _ [10, 1, 11, 12, 36, 37, 38, 39, 40, 41, 42, 43, 44, 45, 46, 47, 48, 49, 50, 51, 52, 53, 54, 55, 56, 57, 58, 59, 60, 61] (by decide +kernel) (by decide +kernel)
set_option maxRecDepth 20000 in
theorem gX5_readBlock_X5_needs : GoodIn wsX5_readBlock (wsV RX5 113 RX5 yX5_needs wsX5_needs) := goodIn_app (goodIn_of _ (by decide +kernel)) ggX5_readBlock_X5_needs
set_option maxRecDepth 20000 in
theorem ggX5_readBlock_X5_readNumber : GoodIn wsX5_readBlock wsX5_readNumber := goodIn_r _ [16, 1, 4, 17, 6, 7, 8, 9, 10, 11, 12, 18, 19, 20, 21, 22, 23, 24, 25, 26, 27, 28, 29, 30, 31, 32, 33, 34, 35, 36, 37, 38, 39, 40, 41, 42, 43, 44, 45, 46, 47, 48, 49, 50, 51, 52, 53, 54, 55, 56, 57, 58, 59, 60, 61] (by decide +kernel) (by decide +kernel)
set_option maxRecDepth 20000 in
theorem gX5_readBlock_X5_readNumber : GoodIn wsX5_readBlock (wsV RX5 120 RX5 yX5_readNumber wsX5_readNumber) := goodIn_app (goodIn_of _ (by decide +kernel)) ggX5_readBlock_X5_readNumber
theorem dX5_readBlock_0 : decode cX5_readBlock 0 = .ok (.iconst 0, 1) := by decide +kernel
theorem dX5_readBlock_1 : decode cX5_readBlock 1 = .ok (.istore_n 1, 1) := by decide +kernel
theorem dX5_readBlock_2 : decode cX5_readBlock 2 = .ok (.iconst 1, 1) := by decide +kernel
theorem dX5_readBlock_3 : decode cX5_readBlock 3 = .ok (.istore_n 2, 1) := by decide +kernel
theorem dX5_readBlock_4 : decode cX5_readBlock 4 = .ok (.aload_n 0, 1) := by decide +kernel
theorem dX5_readBlock_5 : decode cX5_readBlock 5 = .ok (.getfield 79, 3) := by decide +kernel
theorem dX5_readBlock_8 : decode cX5_readBlock 8 = .ok (.ifCond .ne 74, 3) := by decide +kernel
theorem dX5_readBlock_11 : decode cX5_readBlock 11 = .ok (.iload_n 2, 1) := by decide +kernel
theorem dX5_readBlock_12 : decode cX5_readBlock 12 = .ok (.ifCond .eq 70, 3) := by decide +kernel
theorem dX5_readBlock_15 : decode cX5_readBlock 15 = .ok (.aload_n 0, 1) := by decide +kernel
theorem dX5_readBlock_16 : decode cX5_readBlock 16 = .ok (.iload_n 1, 1) := by decide +kernel
theorem dX5_readBlock_17 : decode cX5_readBlock 17 = .ok (.bipush 12, 2) := by decide +kernel
theorem dX5_readBlock_19 : decode cX5_readBlock 19 = .ok (.if_icmp .ge 7, 3) := by decide +kernel
theorem dX5_readBlock_22 : decode cX5_readBlock 22 = .ok (.iconst 1, 1) := by decide +kernel
theorem dX5_readBlock_23 : decode cX5_readBlock 23 = .ok (.goto 4, 3) := by decide +kernel
theorem dX5_readBlock_26 : decode cX5_readBlock 26 = .ok (.iconst 0, 1) := by decide +kernel
theorem dX5_readBlock_27 : decode cX5_readBlock 27 = .ok (.iconst 5, 1) := by decide +kernel
theorem dX5_readBlock_28 : decode cX5_readBlock 28 = .ok (.invokevirtual 113, 3) := by decide +kernel
theorem dX5_readBlock_31 : decode cX5_readBlock 31 = .ok (.aload_n 0, 1) := by decide +kernel
theorem dX5_readBlock_32 : decode cX5_readBlock 32 = .ok (.iconst 0, 1) := by decide +kernel
theorem dX5_readBlock_33 : decode cX5_readBlock 33 = .ok (.sipush 255, 3) := by decide +kernel
theorem dX5_readBlock_36 : decode cX5_readBlock 36 = .ok (.invokevirtual 120, 3) := by decide +kernel
theorem dX5_readBlock_39 : decode cX5_readBlock 39 = .ok (.istore_n 3, 1) := by decide +kernel
theorem dX5_readBlock_40 : decode cX5_readBlock 40 = .ok (.aload_n 0, 1) := by decide +kernel
theorem dX5_readBlock_41 : decode cX5_readBlock 41 = .ok (.getfield 79, 3) := by decide +kernel
theorem dX5_readBlock_44 : decode cX5_readBlock 44 = .ok (.ifCond .ne 21, 3) := by decide +kernel
theorem dX5_readBlock_47 : decode cX5_readBlock 47 = .ok (.aload_n 0, 1) := by decide +kernel
theorem dX5_readBlock_48 : decode cX5_readBlock 48 = .ok (.getfield 26, 3) := by decide +kernel
theorem dX5_readBlock_51 : decode cX5_readBlock 51 = .ok (.bipush 12, 2) := by decide +kernel
theorem dX5_readBlock_53 : decode cX5_readBlock 53 = .ok (.aload_n 0, 1) := by decide +kernel
theorem dX5_readBlock_54 : decode cX5_readBlock 54 = .ok (.getfield 59, 3) := by decide +kernel
theorem dX5_readBlock_57 : decode cX5_readBlock 57 = .ok (.imul, 1) := by decide +kernel
theorem dX5_readBlock_58 : decode cX5_readBlock 58 = .ok (.iload_n 1, 1) := by decide +kernel
theorem dX5_readBlock_59 : decode cX5_readBlock 59 = .ok (.iadd, 1) := by decide +kernel
theorem dX5_readBlock_60 : decode cX5_readBlock 60 = .ok (.iload_n 3, 1) := by decide +kernel
theorem dX5_readBlock_61 : decode cX5_readBlock 61 = .ok (.iastore, 1) := by decide +kernel
theorem dX5_readBlock_62 : decode cX5_readBlock 62 = .ok (.iinc 1 1, 3) := by decide +kernel
theorem dX5_readBlock_65 : decode cX5_readBlock 65 = .ok (.aload_n 0, 1) := by decide +kernel
theorem dX5_readBlock_66 : decode cX5_readBlock 66 = .ok (.getfield 99, 3) := by decide +kernel
theorem dX5_readBlock_69 : decode cX5_readBlock 69 = .ok (.iconst 2, 1) := by decide +kernel
theorem dX5_readBlock_70 : decode cX5_readBlock 70 = .ok (.if_icmp .ne 7, 3) := by decide +kernel
theorem dX5_readBlock_73 : decode cX5_readBlock 73 = .ok (.iconst 1, 1) := by decide +kernel
theorem dX5_readBlock_74 : decode cX5_readBlock 74 = .ok (.goto 4, 3) := by decide +kernel
theorem dX5_readBlock_77 : decode cX5_readBlock 77 = .ok (.iconst 0, 1) := by decide +kernel
theorem dX5_readBlock_78 : decode cX5_readBlock 78 = .ok (.istore_n 2, 1) := by decide +kernel
theorem dX5_readBlock_79 : decode cX5_readBlock 79 = .ok (.goto (-75), 3) := by decide +kernel
theorem dX5_readBlock_82 : decode cX5_readBlock 82 = .ok (.aload_n 0, 1) := by decide +kernel
theorem dX5_readBlock_83 : decode cX5_readBlock 83 = .ok (.getfield 79, 3) := by decide +kernel
theorem dX5_readBlock_86 : decode cX5_readBlock 86 = .ok (.ifCond .ne 23, 3) := by decide +kernel
theorem dX5_readBlock_89 : decode cX5_readBlock 89 = .ok (.aload_n 0, 1) := by decide +kernel
theorem dX5_readBlock_90 : decode cX5_readBlock 90 = .ok (.getfield 23, 3) := by decide +kernel
theorem dX5_readBlock_93 : decode cX5_readBlock 93 = .ok (.aload_n 0, 1) := by decide +kernel
theorem dX5_readBlock_94 : decode cX5_readBlock 94 = .ok (.getfield 59, 3) := by decide +kernel
theorem dX5_readBlock_97 : decode cX5_readBlock 97 = .ok (.iload_n 1, 1) := by decide +kernel
theorem dX5_readBlock_98 : decode cX5_readBlock 98 = .ok (.iastore, 1) := by decide +kernel
theorem dX5_readBlock_99 : decode cX5_readBlock 99 = .ok (.aload_n 0, 1) := by decide +kernel
theorem dX5_readBlock_100 : decode cX5_readBlock 100 = .ok (.dup, 1) := by decide +kernel
theorem dX5_readBlock_101 : decode cX5_readBlock 101 = .ok (.getfield 59, 3) := by decide +kernel
theorem dX5_readBlock_104 : decode cX5_readBlock 104 = .ok (.iconst 1, 1) := by decide +kernel
theorem dX5_readBlock_105 : decode cX5_readBlock 105 = .ok (.iadd, 1) := by decide +kernel
theorem dX5_readBlock_106 : decode cX5_readBlock 106 = .ok (.putfield 59, 3) := by decide +kernel
theorem dX5_readBlock_109 : decode cX5_readBlock 109 = .ok (.return_, 1) := by decide +kernel
theorem dX5_lowest_0 : decode cX5_lowest 0 = .ok (.iload_n 0, 1) := by decide +kernel
theorem dX5_lowest_1 : decode cX5_lowest 1 = .ok (.ifCond .ne 8, 3) := by decide +kernel
theorem dX5_lowest_4 : decode cX5_lowest 4 = .ok (.bipush 20, 2) := by decide +kernel
theorem dX5_lowest_6 : decode cX5_lowest 6 = .ok (.goto 34, 3) := by decide +kernel
theorem dX5_lowest_9 : decode cX5_lowest 9 = .ok (.iload_n 0, 1) := by decide +kernel
theorem dX5_lowest_10 : decode cX5_lowest 10 = .ok (.iconst 1, 1) := by decide +kernel
theorem dX5_lowest_11 : decode cX5_lowest 11 = .ok (.if_icmp .ne 7, 3) := by decide +kernel
theorem dX5_lowest_14 : decode cX5_lowest 14 = .ok (.iconst 5, 1) := by decide +kernel
theorem dX5_lowest_15 : decode cX5_lowest 15 = .ok (.goto 25, 3) := by decide +kernel
theorem dX5_lowest_18 : decode cX5_lowest 18 = .ok (.iload_n 0, 1) := by decide +kernel
theorem dX5_lowest_19 : decode cX5_lowest 19 = .ok (.iconst 5, 1) := by decide +kernel
theorem dX5_lowest_20 : decode cX5_lowest 20 = .ok (.if_icmp .eq 15, 3) := by decide +kernel
theorem dX5_lowest_23 : decode cX5_lowest 23 = .ok (.iload_n 0, 1) := by decide +kernel
theorem dX5_lowest_24 : decode cX5_lowest 24 = .ok (.bipush 6, 2) := by decide +kernel
theorem dX5_lowest_26 : decode cX5_lowest 26 = .ok (.if_icmp .eq 9, 3) := by decide +kernel
theorem dX5_lowest_29 : decode cX5_lowest 29 = .ok (.iload_n 0, 1) := by decide +kernel
theorem dX5_lowest_30 : decode cX5_lowest 30 = .ok (.bipush 8, 2) := by decide +kernel
theorem dX5_lowest_32 : decode cX5_lowest 32 = .ok (.if_icmp .ne 7, 3) := by decide +kernel
theorem dX5_lowest_35 : decode cX5_lowest 35 = .ok (.iconst 0, 1) := by decide +kernel
theorem dX5_lowest_36 : decode cX5_lowest 36 = .ok (.goto 4, 3) := by decide +kernel
theorem dX5_lowest_39 : decode cX5_lowest 39 = .ok (.iconst 1, 1) := by decide +kernel
theorem dX5_lowest_40 : decode cX5_lowest 40 = .ok (.ireturn, 1) := by decide +kernel
theorem dX5_highest_0 : decode cX5_highest 0 = .ok (.iload_n 0, 1) := by decide +kernel
theorem dX5_highest_1 : decode cX5_highest 1 = .ok (.ifCond .ne 9, 3) := by decide +kernel
theorem dX5_highest_4 : decode cX5_highest 4 = .ok (.sipush 9999, 3) := by decide +kernel
theorem dX5_highest_7 : decode cX5_highest 7 = .ok (.goto 33, 3) := by decide +kernel
theorem dX5_highest_10 : decode cX5_highest 10 = .ok (.iload_n 0, 1) := by decide +kernel
theorem dX5_highest_11 : decode cX5_highest 11 = .ok (.iconst 2, 1) := by decide +kernel
theorem dX5_highest_12 : decode cX5_highest 12 = .ok (.if_icmp .eq 9, 3) := by decide +kernel
theorem dX5_highest_15 : decode cX5_highest 15 = .ok (.iload_n 0, 1) := by decide +kernel
theorem dX5_highest_16 : decode cX5_highest 16 = .ok (.bipush 7, 2) := by decide +kernel
theorem dX5_highest_18 : decode cX5_highest 18 = .ok (.if_icmp .ne 8, 3) := by decide +kernel
theorem dX5_highest_21 : decode cX5_highest 21 = .ok (.bipush 9, 2) := by decide +kernel
theorem dX5_highest_23 : decode cX5_highest 23 = .ok (.goto 17, 3) := by decide +kernel
theorem dX5_highest_26 : decode cX5_highest 26 = .ok (.iload_n 0, 1) := by decide +kernel
theorem dX5_highest_27 : decode cX5_highest 27 = .ok (.bipush 8, 2) := by decide +kernel
theorem dX5_highest_29 : decode cX5_highest 29 = .ok (.if_icmp .ne 9, 3) := by decide +kernel
theorem dX5_highest_32 : decode cX5_highest 32 = .ok (.sipush 999, 3) := by decide +kernel
theorem dX5_highest_35 : decode cX5_highest 35 = .ok (.goto 5, 3) := by decide +kernel
theorem dX5_highest_38 : decode cX5_highest 38 = .ok (.bipush 99, 2) := by decide +kernel
theorem dX5_highest_40 : decode cX5_highest 40 = .ok (.ireturn, 1) := by decide +kernel
set_option maxRecDepth 20000 in
theorem ggX5_readLine_X5_nameNow : GoodIn wsX5_readLine wsX5_nameNow := goodIn_r _ [11, 12, 13, 14, 15, 10, 16, 17, 18, 19, 20, 21, 22, 23, 56, 57, 58, 59, 60, 61, 62, 63, 64, 65, 66, 67, 68, 69, 70, 71, 72, 73, 74, 75, 76, 77, 78, 79, 80, 81] (by decide +kernel) (by decide +kernel)
set_option maxRecDepth 20000 in
theorem gX5_readLine_X5_nameNow : GoodIn wsX5_readLine (wsV RX5 124 RX5 yX5_nameNow wsX5_nameNow) := goodIn_app (goodIn_of _ (by decide +kernel)) ggX5_readLine_X5_nameNow
set_option maxRecDepth 20000 in
theorem ggX5_readLine_X5_needs : GoodIn wsX5_readLine wsX5_needs := goodIn_r _ [27, 3, 12, 28, 56, 57, 58, 59, 60, 61, 62, 63, 64, 65, 66, 67, 68, 69, 70, 71, 72, 73, 74, 75, 76, 77, 78, 79, 80, 81] (by decide +kernel) (by decide +kernel)
set_option maxRecDepth 20000 in
theorem gX5_readLine_X5_needs : GoodIn wsX5_readLine (wsV RX5 113 RX5 yX5_needs wsX5_needs) := goodIn_app (goodIn_of _ (by decide +kernel)) ggX5_readLine_X5_needs
set_option maxRecDepth 20000 in
theorem ggX5_readLine_X5_next : GoodIn wsX5_readLine wsX5_next := goodIn_r _ [32, 3, 17, 12, 1, 33, 34, 35, 36, 37, 18, 19, 20, 10, 21, 22, 23, 38, 39, 40, 24, 25, 26, 27, 28, 56, 57, 58, 59, 60, 61, 62, 63, 64, 65, 66, 67, 68, 69, 70, 71, 72, 73, 74, 75, 76, 77, 78, 79, 80, 81] (by decide +kernel) (by decide +kernel)
set_option maxRecDepth 20000 in
theorem gX5_readLine_X5_next : GoodIn wsX5_readLine (wsV RX5 117 RX5 yX5_next wsX5_next) := goodIn_app (goodIn_of _ (by decide +kernel)) ggX5_readLine_X5_next
set_option maxRecDepth 20000 in
theorem ggX5_readLine_X5_readBlock : GoodIn wsX5_readLine wsX5_readBlock := goodIn_r _ [44, 3, 45, 2, 1, 5, 24, 25, 26, 10, 27, 12, 28, 46, 47, 48, 49, 37, 38, 39, 40, 29, 30, 31, 32, 17, 33, 34, 35, 36, 18, 19, 20, 21, 22, 23, 56, 57, 58, 59, 60, 61, 62, 63, 64, 65, 66, 67, 68, 69, 70, 71, 72, 73, 74, 75, 76, 77, 78, 79, 80, 81] (by decide +kernel) (by decide +kernel)
set_option maxRecDepth 20000 in
theorem gX5_readLine_X5_readBlock : GoodIn wsX5_readLine (wsV RX5 128 RX5 yX5_readBlock wsX5_readBlock) := goodIn_app (goodIn_of _ (by decide +kernel)) ggX5_readLine_X5_readBlock
set_option maxRecDepth 20000 in
theorem ggX5_readLine_X5_lowest : GoodIn wsX5_readLine wsX5_lowest := goodIn_r _ [52] (by decide +kernel) (by decide +kernel)
set_option maxRecDepth 20000 in
theorem gX5_readLine_X5_lowest : GoodIn wsX5_readLine (va_wsS RX5 131 yX5_lowest wsX5_lowest) := goodIn_app (goodIn_of _ (by decide +kernel)) ggX5_readLine_X5_lowest
set_option maxRecDepth 20000 in
theorem ggX5_readLine_X5_highest : GoodIn wsX5_readLine wsX5_highest := goodIn_r _ [55] (by decide +kernel) (by decide +kernel)
set_option maxRecDepth 20000 in
theorem gX5_readLine_X5_highest : GoodIn wsX5_readLine (va_wsS RX5 134 yX5_highest wsX5_highest) := goodIn_app (goodIn_of _ (by decide +kernel)) ggX5_readLine_X5_highest
set_option maxRecDepth 20000 in
theorem ggX5_readLine_X5_readNumber : GoodIn wsX5_readLine wsX5_readNumber := goodIn_r _ [49, 3, 1, 37, 24, 25, 26, 10, 27, 12, 28, 38, 39, 40, 29, 30, 31, 32, 17, 33, 34, 35, 36, 18, 19, 20, 21, 22, 23, 56, 57, 58, 59, 60, 61, 62, 63, 64, 65, 66, 67, 68, 69, 70, 71, 72, 73, 74, 75, 76, 77, 78, 79, 80, 81] (by decide +kernel) (by decide +kernel)
set_option maxRecDepth 20000 in
theorem gX5_readLine_X5_readNumber : GoodIn wsX5_readLine (wsV RX5 120 RX5 yX5_readNumber wsX5_readNumber) := goodIn_app (goodIn_of _ (by decide +kernel)) ggX5_readLine_X5_readNumber
theorem dX5_readLine_0 : decode cX5_readLine 0 = .ok (.aload_n 0, 1) := by decide +kernel
theorem dX5_readLine_1 : decode cX5_readLine 1 = .ok (.getfield 99, 3) := by decide +kernel
theorem dX5_readLine_4 : decode cX5_readLine 4 = .ok (.iconst 1, 1) := by decide +kernel
theorem dX5_readLine_5 : decode cX5_readLine 5 = .ok (.if_icmp .ne 10, 3) := by decide +kernel
theorem dX5_readLine_8 : decode cX5_readLine 8 = .ok (.aload_n 0, 1) := by decide +kernel
theorem dX5_readLine_9 : decode cX5_readLine 9 = .ok (.invokevirtual 124, 3) := by decide +kernel
theorem dX5_readLine_12 : decode cX5_readLine 12 = .ok (.goto 5, 3) := by decide +kernel
theorem dX5_readLine_15 : decode cX5_readLine 15 = .ok (.bipush (-4), 2) := by decide +kernel
theorem dX5_readLine_17 : decode cX5_readLine 17 = .ok (.istore_n 1, 1) := by decide +kernel
theorem dX5_readLine_18 : decode cX5_readLine 18 = .ok (.aload_n 0, 1) := by decide +kernel
theorem dX5_readLine_19 : decode cX5_readLine 19 = .ok (.iload_n 1, 1) := by decide +kernel
theorem dX5_readLine_20 : decode cX5_readLine 20 = .ok (.bipush (-4), 2) := by decide +kernel
theorem dX5_readLine_22 : decode cX5_readLine 22 = .ok (.if_icmp .eq 7, 3) := by decide +kernel
theorem dX5_readLine_25 : decode cX5_readLine 25 = .ok (.iconst 1, 1) := by decide +kernel
theorem dX5_readLine_26 : decode cX5_readLine 26 = .ok (.goto 4, 3) := by decide +kernel
theorem dX5_readLine_29 : decode cX5_readLine 29 = .ok (.iconst 0, 1) := by decide +kernel
theorem dX5_readLine_30 : decode cX5_readLine 30 = .ok (.iconst 2, 1) := by decide +kernel
theorem dX5_readLine_31 : decode cX5_readLine 31 = .ok (.invokevirtual 113, 3) := by decide +kernel
theorem dX5_readLine_34 : decode cX5_readLine 34 = .ok (.aload_n 0, 1) := by decide +kernel
theorem dX5_readLine_35 : decode cX5_readLine 35 = .ok (.iload_n 1, 1) := by decide +kernel
theorem dX5_readLine_36 : decode cX5_readLine 36 = .ok (.bipush 10, 2) := by decide +kernel
theorem dX5_readLine_38 : decode cX5_readLine 38 = .ok (.if_icmp .lt 12, 3) := by decide +kernel
theorem dX5_readLine_41 : decode cX5_readLine 41 = .ok (.aload_n 0, 1) := by decide +kernel
theorem dX5_readLine_42 : decode cX5_readLine 42 = .ok (.getfield 59, 3) := by decide +kernel
theorem dX5_readLine_45 : decode cX5_readLine 45 = .ok (.bipush 12, 2) := by decide +kernel
theorem dX5_readLine_47 : decode cX5_readLine 47 = .ok (.if_icmp .ge 7, 3) := by decide +kernel
theorem dX5_readLine_50 : decode cX5_readLine 50 = .ok (.iconst 1, 1) := by decide +kernel
theorem dX5_readLine_51 : decode cX5_readLine 51 = .ok (.goto 4, 3) := by decide +kernel
theorem dX5_readLine_54 : decode cX5_readLine 54 = .ok (.iconst 0, 1) := by decide +kernel
theorem dX5_readLine_55 : decode cX5_readLine 55 = .ok (.iconst 5, 1) := by decide +kernel
theorem dX5_readLine_56 : decode cX5_readLine 56 = .ok (.invokevirtual 113, 3) := by decide +kernel
theorem dX5_readLine_59 : decode cX5_readLine 59 = .ok (.aload_n 0, 1) := by decide +kernel
theorem dX5_readLine_60 : decode cX5_readLine 60 = .ok (.getfield 79, 3) := by decide +kernel
theorem dX5_readLine_63 : decode cX5_readLine 63 = .ok (.ifCond .ne 42, 3) := by decide +kernel
theorem dX5_readLine_66 : decode cX5_readLine 66 = .ok (.iload_n 1, 1) := by decide +kernel
theorem dX5_readLine_67 : decode cX5_readLine 67 = .ok (.bipush 10, 2) := by decide +kernel
theorem dX5_readLine_69 : decode cX5_readLine 69 = .ok (.if_icmp .ge 36, 3) := by decide +kernel
theorem dX5_readLine_72 : decode cX5_readLine 72 = .ok (.aload_n 0, 1) := by decide +kernel
theorem dX5_readLine_73 : decode cX5_readLine 73 = .ok (.aload_n 0, 1) := by decide +kernel
theorem dX5_readLine_74 : decode cX5_readLine 74 = .ok (.getfield 63, 3) := by decide +kernel
theorem dX5_readLine_77 : decode cX5_readLine 77 = .ok (.iload_n 1, 1) := by decide +kernel
theorem dX5_readLine_78 : decode cX5_readLine 78 = .ok (.ishr, 1) := by decide +kernel
theorem dX5_readLine_79 : decode cX5_readLine 79 = .ok (.iconst 1, 1) := by decide +kernel
theorem dX5_readLine_80 : decode cX5_readLine 80 = .ok (.iand, 1) := by decide +kernel
theorem dX5_readLine_81 : decode cX5_readLine 81 = .ok (.ifCond .ne 7, 3) := by decide +kernel
theorem dX5_readLine_84 : decode cX5_readLine 84 = .ok (.iconst 1, 1) := by decide +kernel
theorem dX5_readLine_85 : decode cX5_readLine 85 = .ok (.goto 4, 3) := by decide +kernel
theorem dX5_readLine_88 : decode cX5_readLine 88 = .ok (.iconst 0, 1) := by decide +kernel
theorem dX5_readLine_89 : decode cX5_readLine 89 = .ok (.iconst 4, 1) := by decide +kernel
theorem dX5_readLine_90 : decode cX5_readLine 90 = .ok (.invokevirtual 113, 3) := by decide +kernel
theorem dX5_readLine_93 : decode cX5_readLine 93 = .ok (.aload_n 0, 1) := by decide +kernel
theorem dX5_readLine_94 : decode cX5_readLine 94 = .ok (.dup, 1) := by decide +kernel
theorem dX5_readLine_95 : decode cX5_readLine 95 = .ok (.getfield 63, 3) := by decide +kernel
theorem dX5_readLine_98 : decode cX5_readLine 98 = .ok (.iconst 1, 1) := by decide +kernel
theorem dX5_readLine_99 : decode cX5_readLine 99 = .ok (.iload_n 1, 1) := by decide +kernel
theorem dX5_readLine_100 : decode cX5_readLine 100 = .ok (.ishl, 1) := by decide +kernel
theorem dX5_readLine_101 : decode cX5_readLine 101 = .ok (.ior, 1) := by decide +kernel
theorem dX5_readLine_102 : decode cX5_readLine 102 = .ok (.putfield 63, 3) := by decide +kernel
theorem dX5_readLine_105 : decode cX5_readLine 105 = .ok (.aload_n 0, 1) := by decide +kernel
theorem dX5_readLine_106 : decode cX5_readLine 106 = .ok (.invokevirtual 117, 3) := by decide +kernel
theorem dX5_readLine_109 : decode cX5_readLine 109 = .ok (.aload_n 0, 1) := by decide +kernel
theorem dX5_readLine_110 : decode cX5_readLine 110 = .ok (.getfield 79, 3) := by decide +kernel
theorem dX5_readLine_113 : decode cX5_readLine 113 = .ok (.ifCond .le 4, 3) := by decide +kernel
theorem dX5_readLine_116 : decode cX5_readLine 116 = .ok (.return_, 1) := by decide +kernel
theorem dX5_readLine_117 : decode cX5_readLine 117 = .ok (.iload_n 1, 1) := by decide +kernel
theorem dX5_readLine_118 : decode cX5_readLine 118 = .ok (.bipush 10, 2) := by decide +kernel
theorem dX5_readLine_120 : decode cX5_readLine 120 = .ok (.if_icmp .ne 10, 3) := by decide +kernel
theorem dX5_readLine_123 : decode cX5_readLine 123 = .ok (.aload_n 0, 1) := by decide +kernel
theorem dX5_readLine_124 : decode cX5_readLine 124 = .ok (.invokevirtual 128, 3) := by decide +kernel
theorem dX5_readLine_127 : decode cX5_readLine 127 = .ok (.goto 50, 3) := by decide +kernel
theorem dX5_readLine_130 : decode cX5_readLine 130 = .ok (.iload_n 1, 1) := by decide +kernel
theorem dX5_readLine_131 : decode cX5_readLine 131 = .ok (.bipush 11, 2) := by decide +kernel
theorem dX5_readLine_133 : decode cX5_readLine 133 = .ok (.if_icmp .ne 26, 3) := by decide +kernel
theorem dX5_readLine_136 : decode cX5_readLine 136 = .ok (.aload_n 0, 1) := by decide +kernel
theorem dX5_readLine_137 : decode cX5_readLine 137 = .ok (.getfield 23, 3) := by decide +kernel
theorem dX5_readLine_140 : decode cX5_readLine 140 = .ok (.aload_n 0, 1) := by decide +kernel
theorem dX5_readLine_141 : decode cX5_readLine 141 = .ok (.getfield 59, 3) := by decide +kernel
theorem dX5_readLine_144 : decode cX5_readLine 144 = .ok (.iconst 0, 1) := by decide +kernel
theorem dX5_readLine_145 : decode cX5_readLine 145 = .ok (.iastore, 1) := by decide +kernel
theorem dX5_readLine_146 : decode cX5_readLine 146 = .ok (.aload_n 0, 1) := by decide +kernel
theorem dX5_readLine_147 : decode cX5_readLine 147 = .ok (.dup, 1) := by decide +kernel
theorem dX5_readLine_148 : decode cX5_readLine 148 = .ok (.getfield 59, 3) := by decide +kernel
theorem dX5_readLine_151 : decode cX5_readLine 151 = .ok (.iconst 1, 1) := by decide +kernel
theorem dX5_readLine_152 : decode cX5_readLine 152 = .ok (.iadd, 1) := by decide +kernel
theorem dX5_readLine_153 : decode cX5_readLine 153 = .ok (.putfield 59, 3) := by decide +kernel
theorem dX5_readLine_156 : decode cX5_readLine 156 = .ok (.goto 21, 3) := by decide +kernel
theorem dX5_readLine_159 : decode cX5_readLine 159 = .ok (.aload_n 0, 1) := by decide +kernel
theorem dX5_readLine_160 : decode cX5_readLine 160 = .ok (.getfield 20, 3) := by decide +kernel
theorem dX5_readLine_163 : decode cX5_readLine 163 = .ok (.iload_n 1, 1) := by decide +kernel
theorem dX5_readLine_164 : decode cX5_readLine 164 = .ok (.aload_n 0, 1) := by decide +kernel
theorem dX5_readLine_165 : decode cX5_readLine 165 = .ok (.iload_n 1, 1) := by decide +kernel
theorem dX5_readLine_166 : decode cX5_readLine 166 = .ok (.invokestatic 131, 3) := by decide +kernel
theorem dX5_readLine_169 : decode cX5_readLine 169 = .ok (.iload_n 1, 1) := by decide +kernel
theorem dX5_readLine_170 : decode cX5_readLine 170 = .ok (.invokestatic 134, 3) := by decide +kernel
theorem dX5_readLine_173 : decode cX5_readLine 173 = .ok (.invokevirtual 120, 3) := by decide +kernel
theorem dX5_readLine_176 : decode cX5_readLine 176 = .ok (.iastore, 1) := by decide +kernel
theorem dX5_readLine_177 : decode cX5_readLine 177 = .ok (.aload_n 0, 1) := by decide +kernel
theorem dX5_readLine_178 : decode cX5_readLine 178 = .ok (.getfield 79, 3) := by decide +kernel
theorem dX5_readLine_181 : decode cX5_readLine 181 = .ok (.ifCond .ne 21, 3) := by decide +kernel
theorem dX5_readLine_184 : decode cX5_readLine 184 = .ok (.aload_n 0, 1) := by decide +kernel
theorem dX5_readLine_185 : decode cX5_readLine 185 = .ok (.aload_n 0, 1) := by decide +kernel
theorem dX5_readLine_186 : decode cX5_readLine 186 = .ok (.getfield 99, 3) := by decide +kernel
theorem dX5_readLine_189 : decode cX5_readLine 189 = .ok (.iconst 3, 1) := by decide +kernel
theorem dX5_readLine_190 : decode cX5_readLine 190 = .ok (.if_icmp .ne 7, 3) := by decide +kernel
theorem dX5_readLine_193 : decode cX5_readLine 193 = .ok (.iconst 1, 1) := by decide +kernel
theorem dX5_readLine_194 : decode cX5_readLine 194 = .ok (.goto 4, 3) := by decide +kernel
theorem dX5_readLine_197 : decode cX5_readLine 197 = .ok (.iconst 0, 1) := by decide +kernel
theorem dX5_readLine_198 : decode cX5_readLine 198 = .ok (.iconst 2, 1) := by decide +kernel
theorem dX5_readLine_199 : decode cX5_readLine 199 = .ok (.invokevirtual 113, 3) := by decide +kernel
theorem dX5_readLine_202 : decode cX5_readLine 202 = .ok (.aload_n 0, 1) := by decide +kernel
theorem dX5_readLine_203 : decode cX5_readLine 203 = .ok (.invokevirtual 117, 3) := by decide +kernel
theorem dX5_readLine_206 : decode cX5_readLine 206 = .ok (.return_, 1) := by decide +kernel
set_option maxRecDepth 20000 in
theorem ggX5_text_X5_firstDraft : GoodIn wsX5_text wsX5_firstDraft := goodIn_r _ [11, 4, 12, 13, 95, 96, 97, 98, 99, 100, 101, 102, 103, 104, 105, 106, 107, 108, 109, 110, 111, 112, 113, 114, 115, 116, 117, 118, 119, 120] (by decide +kernel) (by decide +kernel)
set_option maxRecDepth 20000 in
theorem gX5_text_X5_firstDraft : GoodIn wsX5_text (wsV RX5 53 RX5 yX5_firstDraft wsX5_firstDraft) := goodIn_app (goodIn_of _ (by decide +kernel)) ggX5_text_X5_firstDraft
set_option maxRecDepth 20000 in
theorem ggX5_text_X5_next : GoodIn wsX5_text wsX5_next := goodIn_r _ [17, 1, 2, 18, 3, 19, 20, 21, 22, 23, 24, 25, 26, 10, 27, 5, 28, 29, 30, 31, 32, 33, 34, 35, 6, 95, 96, 97, 98, 99, 100, 101, 102, 103, 104, 105, 106, 107, 108, 109, 110, 111, 112, 113, 114, 115, 116, 117, 118, 119, 120] (by decide +kernel) (by decide +kernel)
set_option maxRecDepth 20000 in
theorem gX5_text_X5_next : GoodIn wsX5_text (wsV RX5 117 RX5 yX5_next wsX5_next) := goodIn_app (goodIn_of _ (by decide +kernel)) ggX5_text_X5_next
set_option maxRecDepth 20000 in
theorem ggX5_text_X5_readLine : GoodIn wsX5_text wsX5_readLine := goodIn_r _ [39, 3, 12, 1, 13, 40, 4, 41, 42, 43, 10, 44, 18, 45, 46, 47, 48, 2, 24, 25, 26, 27, 5, 28, 32, 33, 34, 35, 6, 14, 15, 16, 17, 19, 20, 21, 22, 23, 29, 30, 31, 49, 50, 51, 52, 53, 54, 55, 56, 57, 58, 59, 60, 61, 62, 63, 95, 96, 97, 98, 99, 100, 101, 102, 103, 104, 105, 106, 107, 108, 109, 110, 111, 112, 113, 114, 115, 116, 117, 118, 119, 120] (by decide +kernel) (by decide +kernel)
set_option maxRecDepth 20000 in
theorem gX5_text_X5_readLine : GoodIn wsX5_text (wsV RX5 137 RX5 yX5_readLine wsX5_readLine) := goodIn_app (goodIn_of _ (by decide +kernel)) ggX5_text_X5_readLine
set_option maxRecDepth 20000 in
theorem ggX5_text_X5_draftEnd : GoodIn wsX5_text wsX5_draftEnd := goodIn_r _ [67, 12, 4, 40, 95, 96, 97, 98, 99, 100, 101, 102, 103, 104, 105, 106, 107, 108, 109, 110, 111, 112, 113, 114, 115, 116, 117, 118, 119, 120] (by decide +kernel) (by decide +kernel)
set_option maxRecDepth 20000 in
theorem gX5_text_X5_draftEnd : GoodIn wsX5_text (wsV RX5 140 RX5 yX5_draftEnd wsX5_draftEnd) := goodIn_app (goodIn_of _ (by decide +kernel)) ggX5_text_X5_draftEnd
set_option maxRecDepth 20000 in
theorem ggX5_text_X5_needs : GoodIn wsX5_text wsX5_needs := goodIn_r _ [35, 1, 18, 6, 95, 96, 97, 98, 99, 100, 101, 102, 103, 104, 105, 106, 107, 108, 109, 110, 111, 112, 113, 114, 115, 116, 117, 118, 119, 120] (by decide +kernel) (by decide +kernel)
set_option maxRecDepth 20000 in
theorem gX5_text_X5_needs : GoodIn wsX5_text (wsV RX5 113 RX5 yX5_needs wsX5_needs) := goodIn_app (goodIn_of _ (by decide +kernel)) ggX5_text_X5_needs
set_option maxRecDepth 20000 in
theorem ggX5_text_X5_keepDraft : GoodIn wsX5_text wsX5_keepDraft := goodIn_r _ [71, 72, 4, 73, 74, 12, 40, 75, 53, 76, 77, 78, 10, 79, 80, 81, 82, 83, 84, 85, 86, 87, 88, 89, 90, 91, 92, 93, 94, 95, 96, 97, 98, 99, 100, 101, 102, 103, 104, 105, 106, 107, 108, 109, 110, 111, 112, 113, 114, 115, 116, 117, 118, 119, 120] (by decide +kernel) (by decide +kernel)
set_option maxRecDepth 20000 in
theorem gX5_text_X5_keepDraft : GoodIn wsX5_text (wsV RX5 56 RX5 yX5_keepDraft wsX5_keepDraft) := goodIn_app (goodIn_of _ (by decide +kernel)) ggX5_text_X5_keepDraft
theorem dX5_text_0 : decode cX5_text 0 = .ok (.iconst 0, 1) := by decide +kernel
theorem dX5_text_1 : decode cX5_text 1 = .ok (.istore_n 1, 1) := by decide +kernel
theorem dX5_text_2 : decode cX5_text 2 = .ok (.aload_n 0, 1) := by decide +kernel
theorem dX5_text_3 : decode cX5_text 3 = .ok (.iconst 0, 1) := by decide +kernel
theorem dX5_text_4 : decode cX5_text 4 = .ok (.putfield 79, 3) := by decide +kernel
theorem dX5_text_7 : decode cX5_text 7 = .ok (.aload_n 0, 1) := by decide +kernel
theorem dX5_text_8 : decode cX5_text 8 = .ok (.iconst 0, 1) := by decide +kernel
theorem dX5_text_9 : decode cX5_text 9 = .ok (.putfield 88, 3) := by decide +kernel
theorem dX5_text_12 : decode cX5_text 12 = .ok (.aload_n 0, 1) := by decide +kernel
theorem dX5_text_13 : decode cX5_text 13 = .ok (.invokevirtual 53, 3) := by decide +kernel
theorem dX5_text_16 : decode cX5_text 16 = .ok (.aload_n 0, 1) := by decide +kernel
theorem dX5_text_17 : decode cX5_text 17 = .ok (.invokevirtual 117, 3) := by decide +kernel
theorem dX5_text_20 : decode cX5_text 20 = .ok (.aload_n 0, 1) := by decide +kernel
theorem dX5_text_21 : decode cX5_text 21 = .ok (.getfield 79, 3) := by decide +kernel
theorem dX5_text_24 : decode cX5_text 24 = .ok (.ifCond .ne 20, 3) := by decide +kernel
theorem dX5_text_27 : decode cX5_text 27 = .ok (.aload_n 0, 1) := by decide +kernel
theorem dX5_text_28 : decode cX5_text 28 = .ok (.getfield 99, 3) := by decide +kernel
theorem dX5_text_31 : decode cX5_text 31 = .ok (.ifCond .eq 13, 3) := by decide +kernel
theorem dX5_text_34 : decode cX5_text 34 = .ok (.aload_n 0, 1) := by decide +kernel
theorem dX5_text_35 : decode cX5_text 35 = .ok (.invokevirtual 137, 3) := by decide +kernel
theorem dX5_text_38 : decode cX5_text 38 = .ok (.iinc 1 1, 3) := by decide +kernel
theorem dX5_text_41 : decode cX5_text 41 = .ok (.goto (-21), 3) := by decide +kernel
theorem dX5_text_44 : decode cX5_text 44 = .ok (.aload_n 0, 1) := by decide +kernel
theorem dX5_text_45 : decode cX5_text 45 = .ok (.getfield 79, 3) := by decide +kernel
theorem dX5_text_48 : decode cX5_text 48 = .ok (.ifCond .ne 27, 3) := by decide +kernel
theorem dX5_text_51 : decode cX5_text 51 = .ok (.aload_n 0, 1) := by decide +kernel
theorem dX5_text_52 : decode cX5_text 52 = .ok (.aload_n 0, 1) := by decide +kernel
theorem dX5_text_53 : decode cX5_text 53 = .ok (.invokevirtual 140, 3) := by decide +kernel
theorem dX5_text_56 : decode cX5_text 56 = .ok (.aload_n 0, 1) := by decide +kernel
theorem dX5_text_57 : decode cX5_text 57 = .ok (.getfield 20, 3) := by decide +kernel
theorem dX5_text_60 : decode cX5_text 60 = .ok (.iconst 0, 1) := by decide +kernel
theorem dX5_text_61 : decode cX5_text 61 = .ok (.iaload, 1) := by decide +kernel
theorem dX5_text_62 : decode cX5_text 62 = .ok (.if_icmp .gt 7, 3) := by decide +kernel
theorem dX5_text_65 : decode cX5_text 65 = .ok (.iconst 1, 1) := by decide +kernel
theorem dX5_text_66 : decode cX5_text 66 = .ok (.goto 4, 3) := by decide +kernel
theorem dX5_text_69 : decode cX5_text 69 = .ok (.iconst 0, 1) := by decide +kernel
theorem dX5_text_70 : decode cX5_text 70 = .ok (.bipush 6, 2) := by decide +kernel
theorem dX5_text_72 : decode cX5_text 72 = .ok (.invokevirtual 113, 3) := by decide +kernel
theorem dX5_text_75 : decode cX5_text 75 = .ok (.aload_n 0, 1) := by decide +kernel
theorem dX5_text_76 : decode cX5_text 76 = .ok (.iconst 0, 1) := by decide +kernel
theorem dX5_text_77 : decode cX5_text 77 = .ok (.putfield 70, 3) := by decide +kernel
theorem dX5_text_80 : decode cX5_text 80 = .ok (.aload_n 0, 1) := by decide +kernel
theorem dX5_text_81 : decode cX5_text 81 = .ok (.getfield 79, 3) := by decide +kernel
theorem dX5_text_84 : decode cX5_text 84 = .ok (.ifCond .le 11, 3) := by decide +kernel
theorem dX5_text_87 : decode cX5_text 87 = .ok (.bipush (-10), 2) := by decide +kernel
theorem dX5_text_89 : decode cX5_text 89 = .ok (.aload_n 0, 1) := by decide +kernel
theorem dX5_text_90 : decode cX5_text 90 = .ok (.getfield 85, 3) := by decide +kernel
theorem dX5_text_93 : decode cX5_text 93 = .ok (.isub, 1) := by decide +kernel
theorem dX5_text_94 : decode cX5_text 94 = .ok (.ireturn, 1) := by decide +kernel
theorem dX5_text_95 : decode cX5_text 95 = .ok (.aload_n 0, 1) := by decide +kernel
theorem dX5_text_96 : decode cX5_text 96 = .ok (.invokevirtual 56, 3) := by decide +kernel
theorem dX5_text_99 : decode cX5_text 99 = .ok (.iload_n 1, 1) := by decide +kernel
theorem dX5_text_100 : decode cX5_text 100 = .ok (.ireturn, 1) := by decide +kernel
theorem dX5_fault_0 : decode cX5_fault 0 = .ok (.aload_n 0, 1) := by decide +kernel
theorem dX5_fault_1 : decode cX5_fault 1 = .ok (.getfield 79, 3) := by decide +kernel
theorem dX5_fault_4 : decode cX5_fault 4 = .ok (.ireturn, 1) := by decide +kernel
set_option maxRecDepth 20000 in
theorem ggX5_rule_X5_in : GoodIn wsX5_rule wsX5_in := goodIn_r _ [7] (by decide +kernel) (by decide +kernel)
set_option maxRecDepth 20000 in
theorem gX5_rule_X5_in : GoodIn wsX5_rule (va_wsS RX5 75 yX5_in wsX5_in) := goodIn_app (goodIn_of _ (by decide +kernel)) ggX5_rule_X5_in
theorem dX5_rule_0 : decode cX5_rule 0 = .ok (.iload_n 1, 1) := by decide +kernel
theorem dX5_rule_1 : decode cX5_rule 1 = .ok (.ifCond .ne 14, 3) := by decide +kernel
theorem dX5_rule_4 : decode cX5_rule 4 = .ok (.aload_n 0, 1) := by decide +kernel
theorem dX5_rule_5 : decode cX5_rule 5 = .ok (.getfield 7, 3) := by decide +kernel
theorem dX5_rule_8 : decode cX5_rule 8 = .ok (.sipush 366, 3) := by decide +kernel
theorem dX5_rule_11 : decode cX5_rule 11 = .ok (.iaload, 1) := by decide +kernel
theorem dX5_rule_12 : decode cX5_rule 12 = .ok (.goto 25, 3) := by decide +kernel
theorem dX5_rule_15 : decode cX5_rule 15 = .ok (.iload_n 1, 1) := by decide +kernel
theorem dX5_rule_16 : decode cX5_rule 16 = .ok (.i2l, 1) := by decide +kernel
theorem dX5_rule_17 : decode cX5_rule 17 = .ok (.lconst 1, 1) := by decide +kernel
theorem dX5_rule_18 : decode cX5_rule 18 = .ok (.ldc2_w 143, 3) := by decide +kernel
theorem dX5_rule_21 : decode cX5_rule 21 = .ok (.invokestatic 75, 3) := by decide +kernel
theorem dX5_rule_24 : decode cX5_rule 24 = .ok (.ifCond .eq 12, 3) := by decide +kernel
theorem dX5_rule_27 : decode cX5_rule 27 = .ok (.aload_n 0, 1) := by decide +kernel
theorem dX5_rule_28 : decode cX5_rule 28 = .ok (.getfield 17, 3) := by decide +kernel
theorem dX5_rule_31 : decode cX5_rule 31 = .ok (.iload_n 1, 1) := by decide +kernel
theorem dX5_rule_32 : decode cX5_rule 32 = .ok (.iaload, 1) := by decide +kernel
theorem dX5_rule_33 : decode cX5_rule 33 = .ok (.goto 4, 3) := by decide +kernel
theorem dX5_rule_36 : decode cX5_rule 36 = .ok (.iconst (-1), 1) := by decide +kernel
theorem dX5_rule_37 : decode cX5_rule 37 = .ok (.ireturn, 1) := by decide +kernel
theorem dX5_turnsOf_0 : decode cX5_turnsOf 0 = .ok (.iconst 0, 1) := by decide +kernel
theorem dX5_turnsOf_1 : decode cX5_turnsOf 1 = .ok (.istore_n 3, 1) := by decide +kernel
theorem dX5_turnsOf_2 : decode cX5_turnsOf 2 = .ok (.iconst 0, 1) := by decide +kernel
theorem dX5_turnsOf_3 : decode cX5_turnsOf 3 = .ok (.istore 4, 2) := by decide +kernel
theorem dX5_turnsOf_5 : decode cX5_turnsOf 5 = .ok (.iload 4, 2) := by decide +kernel
theorem dX5_turnsOf_7 : decode cX5_turnsOf 7 = .ok (.iload_n 1, 1) := by decide +kernel
theorem dX5_turnsOf_8 : decode cX5_turnsOf 8 = .ok (.iadd, 1) := by decide +kernel
theorem dX5_turnsOf_9 : decode cX5_turnsOf 9 = .ok (.iload_n 2, 1) := by decide +kernel
theorem dX5_turnsOf_10 : decode cX5_turnsOf 10 = .ok (.iload_n 3, 1) := by decide +kernel
theorem dX5_turnsOf_11 : decode cX5_turnsOf 11 = .ok (.imul, 1) := by decide +kernel
theorem dX5_turnsOf_12 : decode cX5_turnsOf 12 = .ok (.iadd, 1) := by decide +kernel
theorem dX5_turnsOf_13 : decode cX5_turnsOf 13 = .ok (.iload_n 0, 1) := by decide +kernel
theorem dX5_turnsOf_14 : decode cX5_turnsOf 14 = .ok (.if_icmp .gt 19, 3) := by decide +kernel
theorem dX5_turnsOf_17 : decode cX5_turnsOf 17 = .ok (.iload 4, 2) := by decide +kernel
theorem dX5_turnsOf_19 : decode cX5_turnsOf 19 = .ok (.iload_n 1, 1) := by decide +kernel
theorem dX5_turnsOf_20 : decode cX5_turnsOf 20 = .ok (.iload_n 2, 1) := by decide +kernel
theorem dX5_turnsOf_21 : decode cX5_turnsOf 21 = .ok (.iload_n 3, 1) := by decide +kernel
theorem dX5_turnsOf_22 : decode cX5_turnsOf 22 = .ok (.imul, 1) := by decide +kernel
theorem dX5_turnsOf_23 : decode cX5_turnsOf 23 = .ok (.iadd, 1) := by decide +kernel
theorem dX5_turnsOf_24 : decode cX5_turnsOf 24 = .ok (.iadd, 1) := by decide +kernel
theorem dX5_turnsOf_25 : decode cX5_turnsOf 25 = .ok (.istore 4, 2) := by decide +kernel
theorem dX5_turnsOf_27 : decode cX5_turnsOf 27 = .ok (.iinc 3 1, 3) := by decide +kernel
theorem dX5_turnsOf_30 : decode cX5_turnsOf 30 = .ok (.goto (-25), 3) := by decide +kernel
theorem dX5_turnsOf_33 : decode cX5_turnsOf 33 = .ok (.iload_n 3, 1) := by decide +kernel
theorem dX5_turnsOf_34 : decode cX5_turnsOf 34 = .ok (.ireturn, 1) := by decide +kernel
set_option maxRecDepth 20000 in
theorem ggX5_turnsAt_X5_turnsOf : GoodIn wsX5_turnsAt wsX5_turnsOf := goodIn_r _ [5] (by decide +kernel) (by decide +kernel)
set_option maxRecDepth 20000 in
theorem gX5_turnsAt_X5_turnsOf : GoodIn wsX5_turnsAt (va_wsS RX5 145 yX5_turnsOf wsX5_turnsOf) := goodIn_app (goodIn_of _ (by decide +kernel)) ggX5_turnsAt_X5_turnsOf
theorem dX5_turnsAt_0 : decode cX5_turnsAt 0 = .ok (.iload_n 1, 1) := by decide +kernel
theorem dX5_turnsAt_1 : decode cX5_turnsAt 1 = .ok (.aload_n 0, 1) := by decide +kernel
theorem dX5_turnsAt_2 : decode cX5_turnsAt 2 = .ok (.getfield 17, 3) := by decide +kernel
theorem dX5_turnsAt_5 : decode cX5_turnsAt 5 = .ok (.iconst 1, 1) := by decide +kernel
theorem dX5_turnsAt_6 : decode cX5_turnsAt 6 = .ok (.iaload, 1) := by decide +kernel
theorem dX5_turnsAt_7 : decode cX5_turnsAt 7 = .ok (.aload_n 0, 1) := by decide +kernel
theorem dX5_turnsAt_8 : decode cX5_turnsAt 8 = .ok (.getfield 17, 3) := by decide +kernel
theorem dX5_turnsAt_11 : decode cX5_turnsAt 11 = .ok (.iconst 2, 1) := by decide +kernel
theorem dX5_turnsAt_12 : decode cX5_turnsAt 12 = .ok (.iaload, 1) := by decide +kernel
theorem dX5_turnsAt_13 : decode cX5_turnsAt 13 = .ok (.invokestatic 145, 3) := by decide +kernel
theorem dX5_turnsAt_16 : decode cX5_turnsAt 16 = .ok (.ireturn, 1) := by decide +kernel
set_option maxRecDepth 20000 in
theorem ggX5_isPlace_X5_in : GoodIn wsX5_isPlace wsX5_in := goodIn_r _ [5] (by decide +kernel) (by decide +kernel)
set_option maxRecDepth 20000 in
theorem gX5_isPlace_X5_in : GoodIn wsX5_isPlace (va_wsS RX5 75 yX5_in wsX5_in) := goodIn_app (goodIn_of _ (by decide +kernel)) ggX5_isPlace_X5_in
theorem dX5_isPlace_0 : decode cX5_isPlace 0 = .ok (.iload_n 1, 1) := by decide +kernel
theorem dX5_isPlace_1 : decode cX5_isPlace 1 = .ok (.i2l, 1) := by decide +kernel
theorem dX5_isPlace_2 : decode cX5_isPlace 2 = .ok (.lconst 0, 1) := by decide +kernel
theorem dX5_isPlace_3 : decode cX5_isPlace 3 = .ok (.aload_n 0, 1) := by decide +kernel
theorem dX5_isPlace_4 : decode cX5_isPlace 4 = .ok (.getfield 7, 3) := by decide +kernel
theorem dX5_isPlace_7 : decode cX5_isPlace 7 = .ok (.sipush 366, 3) := by decide +kernel
theorem dX5_isPlace_10 : decode cX5_isPlace 10 = .ok (.iaload, 1) := by decide +kernel
theorem dX5_isPlace_11 : decode cX5_isPlace 11 = .ok (.i2l, 1) := by decide +kernel
theorem dX5_isPlace_12 : decode cX5_isPlace 12 = .ok (.invokestatic 75, 3) := by decide +kernel
theorem dX5_isPlace_15 : decode cX5_isPlace 15 = .ok (.ireturn, 1) := by decide +kernel
set_option maxRecDepth 20000 in
theorem ggX5_turns_X5_isPlace : GoodIn wsX5_turns wsX5_isPlace := goodIn_r _ [6, 1, 7, 8, 5, 9, 18, 19, 20, 21, 22, 23, 24, 25, 26, 27, 28, 29, 30, 31, 32, 33, 34, 35, 36, 37, 38, 39, 40, 41, 42, 43] (by decide +kernel) (by decide +kernel)
set_option maxRecDepth 20000 in
theorem gX5_turns_X5_isPlace : GoodIn wsX5_turns (wsV RX5 149 RX5 yX5_isPlace wsX5_isPlace) := goodIn_app (goodIn_of _ (by decide +kernel)) ggX5_turns_X5_isPlace
set_option maxRecDepth 20000 in
theorem ggX5_turns_X5_turnsAt : GoodIn wsX5_turns wsX5_turnsAt := goodIn_r _ [13, 14, 15, 16, 5, 17, 18, 19, 20, 21, 22, 23, 24, 25, 26, 27, 28, 29, 30, 31, 32, 33, 34, 35, 36, 37, 38, 39, 40, 41, 42, 43] (by decide +kernel) (by decide +kernel)
set_option maxRecDepth 20000 in
theorem gX5_turns_X5_turnsAt : GoodIn wsX5_turns (wsV RX5 153 RX5 yX5_turnsAt wsX5_turnsAt) := goodIn_app (goodIn_of _ (by decide +kernel)) ggX5_turns_X5_turnsAt
theorem dX5_turns_0 : decode cX5_turns 0 = .ok (.aload_n 0, 1) := by decide +kernel
theorem dX5_turns_1 : decode cX5_turns 1 = .ok (.iload_n 1, 1) := by decide +kernel
theorem dX5_turns_2 : decode cX5_turns 2 = .ok (.invokevirtual 149, 3) := by decide +kernel
theorem dX5_turns_5 : decode cX5_turns 5 = .ok (.ifCond .ne 7, 3) := by decide +kernel
theorem dX5_turns_8 : decode cX5_turns 8 = .ok (.iconst (-1), 1) := by decide +kernel
theorem dX5_turns_9 : decode cX5_turns 9 = .ok (.goto 25, 3) := by decide +kernel
theorem dX5_turns_12 : decode cX5_turns 12 = .ok (.aload_n 0, 1) := by decide +kernel
theorem dX5_turns_13 : decode cX5_turns 13 = .ok (.iload_n 2, 1) := by decide +kernel
theorem dX5_turns_14 : decode cX5_turns 14 = .ok (.ifCond .eq 16, 3) := by decide +kernel
theorem dX5_turns_17 : decode cX5_turns 17 = .ok (.aload_n 0, 1) := by decide +kernel
theorem dX5_turns_18 : decode cX5_turns 18 = .ok (.getfield 7, 3) := by decide +kernel
theorem dX5_turns_21 : decode cX5_turns 21 = .ok (.sipush 366, 3) := by decide +kernel
theorem dX5_turns_24 : decode cX5_turns 24 = .ok (.iaload, 1) := by decide +kernel
theorem dX5_turns_25 : decode cX5_turns 25 = .ok (.iload_n 1, 1) := by decide +kernel
theorem dX5_turns_26 : decode cX5_turns 26 = .ok (.isub, 1) := by decide +kernel
theorem dX5_turns_27 : decode cX5_turns 27 = .ok (.goto 4, 3) := by decide +kernel
theorem dX5_turns_30 : decode cX5_turns 30 = .ok (.iload_n 1, 1) := by decide +kernel
theorem dX5_turns_31 : decode cX5_turns 31 = .ok (.invokevirtual 153, 3) := by decide +kernel
theorem dX5_turns_34 : decode cX5_turns 34 = .ok (.ireturn, 1) := by decide +kernel
set_option maxRecDepth 20000 in
theorem ggX5_shows_X5_in : GoodIn wsX5_shows wsX5_in := goodIn_r _ [5] (by decide +kernel) (by decide +kernel)
set_option maxRecDepth 20000 in
theorem gX5_shows_X5_in : GoodIn wsX5_shows (va_wsS RX5 75 yX5_in wsX5_in) := goodIn_app (goodIn_of _ (by decide +kernel)) ggX5_shows_X5_in
set_option maxRecDepth 20000 in
theorem ggX5_shows_X5_turnsAt : GoodIn wsX5_shows wsX5_turnsAt := goodIn_r _ [9, 10, 11, 12, 4, 13, 14, 15, 16, 17, 18, 19, 20, 21, 22, 23, 24, 25, 26, 27, 28, 29, 30, 31, 32, 33, 34, 35, 36, 37, 38, 39] (by decide +kernel) (by decide +kernel)
set_option maxRecDepth 20000 in
theorem gX5_shows_X5_turnsAt : GoodIn wsX5_shows (wsV RX5 153 RX5 yX5_turnsAt wsX5_turnsAt) := goodIn_app (goodIn_of _ (by decide +kernel)) ggX5_shows_X5_turnsAt
theorem dX5_shows_0 : decode cX5_shows 0 = .ok (.iload_n 1, 1) := by decide +kernel
theorem dX5_shows_1 : decode cX5_shows 1 = .ok (.ifCond .lt 13, 3) := by decide +kernel
theorem dX5_shows_4 : decode cX5_shows 4 = .ok (.iload_n 2, 1) := by decide +kernel
theorem dX5_shows_5 : decode cX5_shows 5 = .ok (.i2l, 1) := by decide +kernel
theorem dX5_shows_6 : decode cX5_shows 6 = .ok (.lconst 0, 1) := by decide +kernel
theorem dX5_shows_7 : decode cX5_shows 7 = .ok (.lconst 1, 1) := by decide +kernel
theorem dX5_shows_8 : decode cX5_shows 8 = .ok (.invokestatic 75, 3) := by decide +kernel
theorem dX5_shows_11 : decode cX5_shows 11 = .ok (.ifCond .ne 5, 3) := by decide +kernel
theorem dX5_shows_14 : decode cX5_shows 14 = .ok (.iconst (-1), 1) := by decide +kernel
theorem dX5_shows_15 : decode cX5_shows 15 = .ok (.ireturn, 1) := by decide +kernel
theorem dX5_shows_16 : decode cX5_shows 16 = .ok (.bipush (-4), 2) := by decide +kernel
theorem dX5_shows_18 : decode cX5_shows 18 = .ok (.istore_n 3, 1) := by decide +kernel
theorem dX5_shows_19 : decode cX5_shows 19 = .ok (.bipush (-4), 2) := by decide +kernel
theorem dX5_shows_21 : decode cX5_shows 21 = .ok (.istore 4, 2) := by decide +kernel
theorem dX5_shows_23 : decode cX5_shows 23 = .ok (.iconst 0, 1) := by decide +kernel
theorem dX5_shows_24 : decode cX5_shows 24 = .ok (.istore 5, 2) := by decide +kernel
theorem dX5_shows_26 : decode cX5_shows 26 = .ok (.iload 5, 2) := by decide +kernel
theorem dX5_shows_28 : decode cX5_shows 28 = .ok (.aload_n 0, 1) := by decide +kernel
theorem dX5_shows_29 : decode cX5_shows 29 = .ok (.getfield 7, 3) := by decide +kernel
theorem dX5_shows_32 : decode cX5_shows 32 = .ok (.sipush 366, 3) := by decide +kernel
theorem dX5_shows_35 : decode cX5_shows 35 = .ok (.iaload, 1) := by decide +kernel
theorem dX5_shows_36 : decode cX5_shows 36 = .ok (.if_icmp .gt 36, 3) := by decide +kernel
theorem dX5_shows_39 : decode cX5_shows 39 = .ok (.aload_n 0, 1) := by decide +kernel
theorem dX5_shows_40 : decode cX5_shows 40 = .ok (.iload 5, 2) := by decide +kernel
theorem dX5_shows_42 : decode cX5_shows 42 = .ok (.invokevirtual 153, 3) := by decide +kernel
theorem dX5_shows_45 : decode cX5_shows 45 = .ok (.iload_n 1, 1) := by decide +kernel
theorem dX5_shows_46 : decode cX5_shows 46 = .ok (.if_icmp .ne 20, 3) := by decide +kernel
theorem dX5_shows_49 : decode cX5_shows 49 = .ok (.iload_n 3, 1) := by decide +kernel
theorem dX5_shows_50 : decode cX5_shows 50 = .ok (.bipush (-4), 2) := by decide +kernel
theorem dX5_shows_52 : decode cX5_shows 52 = .ok (.if_icmp .ne 8, 3) := by decide +kernel
theorem dX5_shows_55 : decode cX5_shows 55 = .ok (.iload 5, 2) := by decide +kernel
theorem dX5_shows_57 : decode cX5_shows 57 = .ok (.goto 4, 3) := by decide +kernel
theorem dX5_shows_60 : decode cX5_shows 60 = .ok (.iload_n 3, 1) := by decide +kernel
theorem dX5_shows_61 : decode cX5_shows 61 = .ok (.istore_n 3, 1) := by decide +kernel
theorem dX5_shows_62 : decode cX5_shows 62 = .ok (.iload 5, 2) := by decide +kernel
theorem dX5_shows_64 : decode cX5_shows 64 = .ok (.istore 4, 2) := by decide +kernel
theorem dX5_shows_66 : decode cX5_shows 66 = .ok (.iinc 5 1, 3) := by decide +kernel
theorem dX5_shows_69 : decode cX5_shows 69 = .ok (.goto (-43), 3) := by decide +kernel
theorem dX5_shows_72 : decode cX5_shows 72 = .ok (.iload_n 2, 1) := by decide +kernel
theorem dX5_shows_73 : decode cX5_shows 73 = .ok (.ifCond .ne 7, 3) := by decide +kernel
theorem dX5_shows_76 : decode cX5_shows 76 = .ok (.iload_n 3, 1) := by decide +kernel
theorem dX5_shows_77 : decode cX5_shows 77 = .ok (.goto 5, 3) := by decide +kernel
theorem dX5_shows_80 : decode cX5_shows 80 = .ok (.iload 4, 2) := by decide +kernel
theorem dX5_shows_82 : decode cX5_shows 82 = .ok (.ireturn, 1) := by decide +kernel
set_option maxRecDepth 20000 in
theorem ggX5_meet_X5_turnsAt : GoodIn wsX5_meet wsX5_turnsAt := goodIn_r _ [6, 7, 8, 9, 5, 10, 11, 12, 13, 14, 15, 16, 17, 18, 19, 20, 21, 22, 23, 24, 25, 26, 27, 28, 29, 30, 31, 32, 33, 34, 35, 36] (by decide +kernel) (by decide +kernel)
set_option maxRecDepth 20000 in
theorem gX5_meet_X5_turnsAt : GoodIn wsX5_meet (wsV RX5 153 RX5 yX5_turnsAt wsX5_turnsAt) := goodIn_app (goodIn_of _ (by decide +kernel)) ggX5_meet_X5_turnsAt
theorem dX5_meet_0 : decode cX5_meet 0 = .ok (.iconst 0, 1) := by decide +kernel
theorem dX5_meet_1 : decode cX5_meet 1 = .ok (.istore_n 1, 1) := by decide +kernel
theorem dX5_meet_2 : decode cX5_meet 2 = .ok (.aload_n 0, 1) := by decide +kernel
theorem dX5_meet_3 : decode cX5_meet 3 = .ok (.iload_n 1, 1) := by decide +kernel
theorem dX5_meet_4 : decode cX5_meet 4 = .ok (.invokevirtual 153, 3) := by decide +kernel
theorem dX5_meet_7 : decode cX5_meet 7 = .ok (.aload_n 0, 1) := by decide +kernel
theorem dX5_meet_8 : decode cX5_meet 8 = .ok (.aload_n 0, 1) := by decide +kernel
theorem dX5_meet_9 : decode cX5_meet 9 = .ok (.getfield 7, 3) := by decide +kernel
theorem dX5_meet_12 : decode cX5_meet 12 = .ok (.sipush 366, 3) := by decide +kernel
theorem dX5_meet_15 : decode cX5_meet 15 = .ok (.iaload, 1) := by decide +kernel
theorem dX5_meet_16 : decode cX5_meet 16 = .ok (.iload_n 1, 1) := by decide +kernel
theorem dX5_meet_17 : decode cX5_meet 17 = .ok (.isub, 1) := by decide +kernel
theorem dX5_meet_18 : decode cX5_meet 18 = .ok (.invokevirtual 153, 3) := by decide +kernel
theorem dX5_meet_21 : decode cX5_meet 21 = .ok (.if_icmp .ge 9, 3) := by decide +kernel
theorem dX5_meet_24 : decode cX5_meet 24 = .ok (.iinc 1 1, 3) := by decide +kernel
theorem dX5_meet_27 : decode cX5_meet 27 = .ok (.goto (-25), 3) := by decide +kernel
theorem dX5_meet_30 : decode cX5_meet 30 = .ok (.iload_n 1, 1) := by decide +kernel
theorem dX5_meet_31 : decode cX5_meet 31 = .ok (.ireturn, 1) := by decide +kernel
theorem dX5_apart_0 : decode cX5_apart 0 = .ok (.iload_n 0, 1) := by decide +kernel
theorem dX5_apart_1 : decode cX5_apart 1 = .ok (.iload_n 1, 1) := by decide +kernel
theorem dX5_apart_2 : decode cX5_apart 2 = .ok (.if_icmp .ge 9, 3) := by decide +kernel
theorem dX5_apart_5 : decode cX5_apart 5 = .ok (.iload_n 1, 1) := by decide +kernel
theorem dX5_apart_6 : decode cX5_apart 6 = .ok (.iload_n 0, 1) := by decide +kernel
theorem dX5_apart_7 : decode cX5_apart 7 = .ok (.isub, 1) := by decide +kernel
theorem dX5_apart_8 : decode cX5_apart 8 = .ok (.goto 6, 3) := by decide +kernel
theorem dX5_apart_11 : decode cX5_apart 11 = .ok (.iload_n 0, 1) := by decide +kernel
theorem dX5_apart_12 : decode cX5_apart 12 = .ok (.iload_n 1, 1) := by decide +kernel
theorem dX5_apart_13 : decode cX5_apart 13 = .ok (.isub, 1) := by decide +kernel
theorem dX5_apart_14 : decode cX5_apart 14 = .ok (.ireturn, 1) := by decide +kernel
set_option maxRecDepth 20000 in
theorem ggX5_playedTo_X5_apart : GoodIn wsX5_playedTo wsX5_apart := goodIn_r _ [5] (by decide +kernel) (by decide +kernel)
set_option maxRecDepth 20000 in
theorem gX5_playedTo_X5_apart : GoodIn wsX5_playedTo (va_wsS RX5 156 yX5_apart wsX5_apart) := goodIn_app (goodIn_of _ (by decide +kernel)) ggX5_playedTo_X5_apart
theorem dX5_playedTo_0 : decode cX5_playedTo 0 = .ok (.iload_n 1, 1) := by decide +kernel
theorem dX5_playedTo_1 : decode cX5_playedTo 1 = .ok (.iload_n 2, 1) := by decide +kernel
theorem dX5_playedTo_2 : decode cX5_playedTo 2 = .ok (.if_icmp .ne 7, 3) := by decide +kernel
theorem dX5_playedTo_5 : decode cX5_playedTo 5 = .ok (.iconst 0, 1) := by decide +kernel
theorem dX5_playedTo_6 : decode cX5_playedTo 6 = .ok (.goto 22, 3) := by decide +kernel
theorem dX5_playedTo_9 : decode cX5_playedTo 9 = .ok (.aload_n 0, 1) := by decide +kernel
theorem dX5_playedTo_10 : decode cX5_playedTo 10 = .ok (.getfield 17, 3) := by decide +kernel
theorem dX5_playedTo_13 : decode cX5_playedTo 13 = .ok (.iconst 5, 1) := by decide +kernel
theorem dX5_playedTo_14 : decode cX5_playedTo 14 = .ok (.iaload, 1) := by decide +kernel
theorem dX5_playedTo_15 : decode cX5_playedTo 15 = .ok (.aload_n 0, 1) := by decide +kernel
theorem dX5_playedTo_16 : decode cX5_playedTo 16 = .ok (.getfield 17, 3) := by decide +kernel
theorem dX5_playedTo_19 : decode cX5_playedTo 19 = .ok (.iconst 3, 1) := by decide +kernel
theorem dX5_playedTo_20 : decode cX5_playedTo 20 = .ok (.iaload, 1) := by decide +kernel
theorem dX5_playedTo_21 : decode cX5_playedTo 21 = .ok (.iload_n 1, 1) := by decide +kernel
theorem dX5_playedTo_22 : decode cX5_playedTo 22 = .ok (.iload_n 2, 1) := by decide +kernel
theorem dX5_playedTo_23 : decode cX5_playedTo 23 = .ok (.invokestatic 156, 3) := by decide +kernel
theorem dX5_playedTo_26 : decode cX5_playedTo 26 = .ok (.imul, 1) := by decide +kernel
theorem dX5_playedTo_27 : decode cX5_playedTo 27 = .ok (.iadd, 1) := by decide +kernel
theorem dX5_playedTo_28 : decode cX5_playedTo 28 = .ok (.ireturn, 1) := by decide +kernel
set_option maxRecDepth 20000 in
theorem ggX5_woundTo_X5_turnsAt : GoodIn wsX5_woundTo wsX5_turnsAt := goodIn_r _ [7, 2, 8, 9, 6, 10, 11, 12, 13, 14, 15, 16, 17, 18, 19, 20, 21, 22, 23, 24, 25, 26, 27, 28, 29, 30, 31, 32, 33, 34, 35, 36] (by decide +kernel) (by decide +kernel)
set_option maxRecDepth 20000 in
theorem gX5_woundTo_X5_turnsAt : GoodIn wsX5_woundTo (wsV RX5 153 RX5 yX5_turnsAt wsX5_turnsAt) := goodIn_app (goodIn_of _ (by decide +kernel)) ggX5_woundTo_X5_turnsAt
theorem dX5_woundTo_0 : decode cX5_woundTo 0 = .ok (.iload_n 1, 1) := by decide +kernel
theorem dX5_woundTo_1 : decode cX5_woundTo 1 = .ok (.iload_n 2, 1) := by decide +kernel
theorem dX5_woundTo_2 : decode cX5_woundTo 2 = .ok (.if_icmp .ne 5, 3) := by decide +kernel
theorem dX5_woundTo_5 : decode cX5_woundTo 5 = .ok (.iconst 0, 1) := by decide +kernel
theorem dX5_woundTo_6 : decode cX5_woundTo 6 = .ok (.ireturn, 1) := by decide +kernel
theorem dX5_woundTo_7 : decode cX5_woundTo 7 = .ok (.iload_n 2, 1) := by decide +kernel
theorem dX5_woundTo_8 : decode cX5_woundTo 8 = .ok (.iload_n 1, 1) := by decide +kernel
theorem dX5_woundTo_9 : decode cX5_woundTo 9 = .ok (.if_icmp .le 17, 3) := by decide +kernel
theorem dX5_woundTo_12 : decode cX5_woundTo 12 = .ok (.aload_n 0, 1) := by decide +kernel
theorem dX5_woundTo_13 : decode cX5_woundTo 13 = .ok (.iload_n 2, 1) := by decide +kernel
theorem dX5_woundTo_14 : decode cX5_woundTo 14 = .ok (.invokevirtual 153, 3) := by decide +kernel
theorem dX5_woundTo_17 : decode cX5_woundTo 17 = .ok (.aload_n 0, 1) := by decide +kernel
theorem dX5_woundTo_18 : decode cX5_woundTo 18 = .ok (.iload_n 1, 1) := by decide +kernel
theorem dX5_woundTo_19 : decode cX5_woundTo 19 = .ok (.invokevirtual 153, 3) := by decide +kernel
theorem dX5_woundTo_22 : decode cX5_woundTo 22 = .ok (.isub, 1) := by decide +kernel
theorem dX5_woundTo_23 : decode cX5_woundTo 23 = .ok (.goto 32, 3) := by decide +kernel
theorem dX5_woundTo_26 : decode cX5_woundTo 26 = .ok (.aload_n 0, 1) := by decide +kernel
theorem dX5_woundTo_27 : decode cX5_woundTo 27 = .ok (.aload_n 0, 1) := by decide +kernel
theorem dX5_woundTo_28 : decode cX5_woundTo 28 = .ok (.getfield 7, 3) := by decide +kernel
theorem dX5_woundTo_31 : decode cX5_woundTo 31 = .ok (.sipush 366, 3) := by decide +kernel
theorem dX5_woundTo_34 : decode cX5_woundTo 34 = .ok (.iaload, 1) := by decide +kernel
theorem dX5_woundTo_35 : decode cX5_woundTo 35 = .ok (.iload_n 2, 1) := by decide +kernel
theorem dX5_woundTo_36 : decode cX5_woundTo 36 = .ok (.isub, 1) := by decide +kernel
theorem dX5_woundTo_37 : decode cX5_woundTo 37 = .ok (.invokevirtual 153, 3) := by decide +kernel
theorem dX5_woundTo_40 : decode cX5_woundTo 40 = .ok (.aload_n 0, 1) := by decide +kernel
theorem dX5_woundTo_41 : decode cX5_woundTo 41 = .ok (.aload_n 0, 1) := by decide +kernel
theorem dX5_woundTo_42 : decode cX5_woundTo 42 = .ok (.getfield 7, 3) := by decide +kernel
theorem dX5_woundTo_45 : decode cX5_woundTo 45 = .ok (.sipush 366, 3) := by decide +kernel
theorem dX5_woundTo_48 : decode cX5_woundTo 48 = .ok (.iaload, 1) := by decide +kernel
theorem dX5_woundTo_49 : decode cX5_woundTo 49 = .ok (.iload_n 1, 1) := by decide +kernel
theorem dX5_woundTo_50 : decode cX5_woundTo 50 = .ok (.isub, 1) := by decide +kernel
theorem dX5_woundTo_51 : decode cX5_woundTo 51 = .ok (.invokevirtual 153, 3) := by decide +kernel
theorem dX5_woundTo_54 : decode cX5_woundTo 54 = .ok (.isub, 1) := by decide +kernel
theorem dX5_woundTo_55 : decode cX5_woundTo 55 = .ok (.istore_n 3, 1) := by decide +kernel
theorem dX5_woundTo_56 : decode cX5_woundTo 56 = .ok (.iconst 2, 1) := by decide +kernel
theorem dX5_woundTo_57 : decode cX5_woundTo 57 = .ok (.aload_n 0, 1) := by decide +kernel
theorem dX5_woundTo_58 : decode cX5_woundTo 58 = .ok (.getfield 17, 3) := by decide +kernel
theorem dX5_woundTo_61 : decode cX5_woundTo 61 = .ok (.iconst 5, 1) := by decide +kernel
theorem dX5_woundTo_62 : decode cX5_woundTo 62 = .ok (.iaload, 1) := by decide +kernel
theorem dX5_woundTo_63 : decode cX5_woundTo 63 = .ok (.imul, 1) := by decide +kernel
theorem dX5_woundTo_64 : decode cX5_woundTo 64 = .ok (.aload_n 0, 1) := by decide +kernel
theorem dX5_woundTo_65 : decode cX5_woundTo 65 = .ok (.getfield 17, 3) := by decide +kernel
theorem dX5_woundTo_68 : decode cX5_woundTo 68 = .ok (.iconst 4, 1) := by decide +kernel
theorem dX5_woundTo_69 : decode cX5_woundTo 69 = .ok (.iaload, 1) := by decide +kernel
theorem dX5_woundTo_70 : decode cX5_woundTo 70 = .ok (.iload_n 3, 1) := by decide +kernel
theorem dX5_woundTo_71 : decode cX5_woundTo 71 = .ok (.imul, 1) := by decide +kernel
theorem dX5_woundTo_72 : decode cX5_woundTo 72 = .ok (.iadd, 1) := by decide +kernel
theorem dX5_woundTo_73 : decode cX5_woundTo 73 = .ok (.ireturn, 1) := by decide +kernel
set_option maxRecDepth 20000 in
theorem ggX5_sooner_X5_playedTo : GoodIn wsX5_sooner wsX5_playedTo := goodIn_r _ [5, 6, 7, 8, 4, 9, 25, 26, 27, 28, 29, 30, 31, 32, 33, 34, 35, 36, 37, 38, 39, 40, 41, 42, 43, 44, 45, 46, 47, 48, 49, 50] (by decide +kernel) (by decide +kernel)
set_option maxRecDepth 20000 in
theorem gX5_sooner_X5_playedTo : GoodIn wsX5_sooner (wsV RX5 159 RX5 yX5_playedTo wsX5_playedTo) := goodIn_app (goodIn_of _ (by decide +kernel)) ggX5_sooner_X5_playedTo
set_option maxRecDepth 20000 in
theorem ggX5_sooner_X5_woundTo : GoodIn wsX5_sooner wsX5_woundTo := goodIn_r _ [13, 14, 6, 15, 16, 17, 4, 18, 19, 20, 21, 25, 26, 27, 28, 29, 30, 31, 32, 33, 34, 35, 36, 37, 38, 39, 40, 41, 42, 43, 44, 45, 46, 47, 48, 49, 50] (by decide +kernel) (by decide +kernel)
set_option maxRecDepth 20000 in
theorem gX5_sooner_X5_woundTo : GoodIn wsX5_sooner (wsV RX5 162 RX5 yX5_woundTo wsX5_woundTo) := goodIn_app (goodIn_of _ (by decide +kernel)) ggX5_sooner_X5_woundTo
set_option maxRecDepth 20000 in
theorem ggX5_sooner_X5_less : GoodIn wsX5_sooner wsX5_less := goodIn_r _ [24] (by decide +kernel) (by decide +kernel)
set_option maxRecDepth 20000 in
theorem gX5_sooner_X5_less : GoodIn wsX5_sooner (va_wsS RX5 165 yX5_less wsX5_less) := goodIn_app (goodIn_of _ (by decide +kernel)) ggX5_sooner_X5_less
theorem dX5_sooner_0 : decode cX5_sooner 0 = .ok (.aload_n 0, 1) := by decide +kernel
theorem dX5_sooner_1 : decode cX5_sooner 1 = .ok (.iload_n 1, 1) := by decide +kernel
theorem dX5_sooner_2 : decode cX5_sooner 2 = .ok (.iload_n 2, 1) := by decide +kernel
theorem dX5_sooner_3 : decode cX5_sooner 3 = .ok (.invokevirtual 159, 3) := by decide +kernel
theorem dX5_sooner_6 : decode cX5_sooner 6 = .ok (.aload_n 0, 1) := by decide +kernel
theorem dX5_sooner_7 : decode cX5_sooner 7 = .ok (.iload_n 1, 1) := by decide +kernel
theorem dX5_sooner_8 : decode cX5_sooner 8 = .ok (.iload_n 2, 1) := by decide +kernel
theorem dX5_sooner_9 : decode cX5_sooner 9 = .ok (.invokevirtual 162, 3) := by decide +kernel
theorem dX5_sooner_12 : decode cX5_sooner 12 = .ok (.invokestatic 165, 3) := by decide +kernel
theorem dX5_sooner_15 : decode cX5_sooner 15 = .ok (.ireturn, 1) := by decide +kernel
set_option maxRecDepth 20000 in
theorem ggX5_ticks_X5_isPlace : GoodIn wsX5_ticks wsX5_isPlace := goodIn_r _ [6, 7, 8, 9, 5, 10, 37, 38, 39, 40, 41, 42, 43, 44, 45, 46, 47, 48, 49, 50, 51, 52, 53, 54, 55, 56, 57, 58, 59, 60, 61, 62] (by decide +kernel) (by decide +kernel)
set_option maxRecDepth 20000 in
theorem gX5_ticks_X5_isPlace : GoodIn wsX5_ticks (wsV RX5 149 RX5 yX5_isPlace wsX5_isPlace) := goodIn_app (goodIn_of _ (by decide +kernel)) ggX5_ticks_X5_isPlace
set_option maxRecDepth 20000 in
theorem ggX5_ticks_X5_in : GoodIn wsX5_ticks wsX5_in := goodIn_r _ [10] (by decide +kernel) (by decide +kernel)
set_option maxRecDepth 20000 in
theorem gX5_ticks_X5_in : GoodIn wsX5_ticks (va_wsS RX5 75 yX5_in wsX5_in) := goodIn_app (goodIn_of _ (by decide +kernel)) ggX5_ticks_X5_in
set_option maxRecDepth 20000 in
theorem ggX5_ticks_X5_playedTo : GoodIn wsX5_ticks wsX5_playedTo := goodIn_r _ [14, 15, 16, 17, 5, 18, 37, 38, 39, 40, 41, 42, 43, 44, 45, 46, 47, 48, 49, 50, 51, 52, 53, 54, 55, 56, 57, 58, 59, 60, 61, 62] (by decide +kernel) (by decide +kernel)
set_option maxRecDepth 20000 in
theorem gX5_ticks_X5_playedTo : GoodIn wsX5_ticks (wsV RX5 159 RX5 yX5_playedTo wsX5_playedTo) := goodIn_app (goodIn_of _ (by decide +kernel)) ggX5_ticks_X5_playedTo
set_option maxRecDepth 20000 in
theorem ggX5_ticks_X5_woundTo : GoodIn wsX5_ticks wsX5_woundTo := goodIn_r _ [22, 7, 15, 23, 24, 25, 5, 26, 27, 28, 29, 37, 38, 39, 40, 41, 42, 43, 44, 45, 46, 47, 48, 49, 50, 51, 52, 53, 54, 55, 56, 57, 58, 59, 60, 61, 62] (by decide +kernel) (by decide +kernel)
set_option maxRecDepth 20000 in
theorem gX5_ticks_X5_woundTo : GoodIn wsX5_ticks (wsV RX5 162 RX5 yX5_woundTo wsX5_woundTo) := goodIn_app (goodIn_of _ (by decide +kernel)) ggX5_ticks_X5_woundTo
set_option maxRecDepth 20000 in
theorem ggX5_ticks_X5_sooner : GoodIn wsX5_ticks wsX5_sooner := goodIn_r _ [33, 11, 12, 13, 5, 14, 15, 16, 17, 18, 19, 20, 21, 22, 7, 23, 24, 25, 26, 27, 28, 29, 34, 35, 36, 37, 38, 39, 40, 41, 42, 43, 44, 45, 46, 47, 48, 49, 50, 51, 52, 53, 54, 55, 56, 57, 58, 59, 60, 61, 62] (by decide +kernel) (by decide +kernel)
set_option maxRecDepth 20000 in
theorem gX5_ticks_X5_sooner : GoodIn wsX5_ticks (wsV RX5 170 RX5 yX5_sooner wsX5_sooner) := goodIn_app (goodIn_of _ (by decide +kernel)) ggX5_ticks_X5_sooner
theorem dX5_ticks_0 : decode cX5_ticks 0 = .ok (.aload_n 0, 1) := by decide +kernel
theorem dX5_ticks_1 : decode cX5_ticks 1 = .ok (.iload_n 1, 1) := by decide +kernel
theorem dX5_ticks_2 : decode cX5_ticks 2 = .ok (.invokevirtual 149, 3) := by decide +kernel
theorem dX5_ticks_5 : decode cX5_ticks 5 = .ok (.ifCond .eq 23, 3) := by decide +kernel
theorem dX5_ticks_8 : decode cX5_ticks 8 = .ok (.aload_n 0, 1) := by decide +kernel
theorem dX5_ticks_9 : decode cX5_ticks 9 = .ok (.iload_n 2, 1) := by decide +kernel
theorem dX5_ticks_10 : decode cX5_ticks 10 = .ok (.invokevirtual 149, 3) := by decide +kernel
theorem dX5_ticks_13 : decode cX5_ticks 13 = .ok (.ifCond .eq 15, 3) := by decide +kernel
theorem dX5_ticks_16 : decode cX5_ticks 16 = .ok (.iload_n 3, 1) := by decide +kernel
theorem dX5_ticks_17 : decode cX5_ticks 17 = .ok (.i2l, 1) := by decide +kernel
theorem dX5_ticks_18 : decode cX5_ticks 18 = .ok (.lconst 0, 1) := by decide +kernel
theorem dX5_ticks_19 : decode cX5_ticks 19 = .ok (.ldc2_w 168, 3) := by decide +kernel
theorem dX5_ticks_22 : decode cX5_ticks 22 = .ok (.invokestatic 75, 3) := by decide +kernel
theorem dX5_ticks_25 : decode cX5_ticks 25 = .ok (.ifCond .ne 5, 3) := by decide +kernel
theorem dX5_ticks_28 : decode cX5_ticks 28 = .ok (.iconst (-1), 1) := by decide +kernel
theorem dX5_ticks_29 : decode cX5_ticks 29 = .ok (.ireturn, 1) := by decide +kernel
theorem dX5_ticks_30 : decode cX5_ticks 30 = .ok (.iload_n 3, 1) := by decide +kernel
theorem dX5_ticks_31 : decode cX5_ticks 31 = .ok (.ifCond .ne 12, 3) := by decide +kernel
theorem dX5_ticks_34 : decode cX5_ticks 34 = .ok (.aload_n 0, 1) := by decide +kernel
theorem dX5_ticks_35 : decode cX5_ticks 35 = .ok (.iload_n 1, 1) := by decide +kernel
theorem dX5_ticks_36 : decode cX5_ticks 36 = .ok (.iload_n 2, 1) := by decide +kernel
theorem dX5_ticks_37 : decode cX5_ticks 37 = .ok (.invokevirtual 159, 3) := by decide +kernel
theorem dX5_ticks_40 : decode cX5_ticks 40 = .ok (.goto 23, 3) := by decide +kernel
theorem dX5_ticks_43 : decode cX5_ticks 43 = .ok (.iload_n 3, 1) := by decide +kernel
theorem dX5_ticks_44 : decode cX5_ticks 44 = .ok (.iconst 1, 1) := by decide +kernel
theorem dX5_ticks_45 : decode cX5_ticks 45 = .ok (.if_icmp .ne 12, 3) := by decide +kernel
theorem dX5_ticks_48 : decode cX5_ticks 48 = .ok (.aload_n 0, 1) := by decide +kernel
theorem dX5_ticks_49 : decode cX5_ticks 49 = .ok (.iload_n 1, 1) := by decide +kernel
theorem dX5_ticks_50 : decode cX5_ticks 50 = .ok (.iload_n 2, 1) := by decide +kernel
theorem dX5_ticks_51 : decode cX5_ticks 51 = .ok (.invokevirtual 162, 3) := by decide +kernel
theorem dX5_ticks_54 : decode cX5_ticks 54 = .ok (.goto 9, 3) := by decide +kernel
theorem dX5_ticks_57 : decode cX5_ticks 57 = .ok (.aload_n 0, 1) := by decide +kernel
theorem dX5_ticks_58 : decode cX5_ticks 58 = .ok (.iload_n 1, 1) := by decide +kernel
theorem dX5_ticks_59 : decode cX5_ticks 59 = .ok (.iload_n 2, 1) := by decide +kernel
theorem dX5_ticks_60 : decode cX5_ticks 60 = .ok (.invokevirtual 170, 3) := by decide +kernel
theorem dX5_ticks_63 : decode cX5_ticks 63 = .ok (.ireturn, 1) := by decide +kernel
set_option maxRecDepth 20000 in
theorem ggX5_goesTo_X5_sooner : GoodIn wsX5_goesTo wsX5_sooner := goodIn_r _ [6, 7, 8, 9, 5, 10, 11, 12, 13, 14, 15, 16, 17, 18, 1, 19, 20, 21, 22, 23, 24, 25, 26, 27, 28, 29, 30, 31, 32, 33, 34, 35, 36, 37, 38, 39, 40, 41, 42, 43, 44, 45, 46, 47, 48, 49, 50, 51, 52, 53, 54] (by decide +kernel) (by decide +kernel)
set_option maxRecDepth 20000 in
theorem gX5_goesTo_X5_sooner : GoodIn wsX5_goesTo (wsV RX5 170 RX5 yX5_sooner wsX5_sooner) := goodIn_app (goodIn_of _ (by decide +kernel)) ggX5_goesTo_X5_sooner
theorem dX5_goesTo_0 : decode cX5_goesTo 0 = .ok (.aload_n 0, 1) := by decide +kernel
theorem dX5_goesTo_1 : decode cX5_goesTo 1 = .ok (.aload_n 0, 1) := by decide +kernel
theorem dX5_goesTo_2 : decode cX5_goesTo 2 = .ok (.getfield 7, 3) := by decide +kernel
theorem dX5_goesTo_5 : decode cX5_goesTo 5 = .ok (.sipush 325, 3) := by decide +kernel
theorem dX5_goesTo_8 : decode cX5_goesTo 8 = .ok (.iaload, 1) := by decide +kernel
theorem dX5_goesTo_9 : decode cX5_goesTo 9 = .ok (.iload_n 1, 1) := by decide +kernel
theorem dX5_goesTo_10 : decode cX5_goesTo 10 = .ok (.invokevirtual 170, 3) := by decide +kernel
theorem dX5_goesTo_13 : decode cX5_goesTo 13 = .ok (.istore_n 2, 1) := by decide +kernel
theorem dX5_goesTo_14 : decode cX5_goesTo 14 = .ok (.aload_n 0, 1) := by decide +kernel
theorem dX5_goesTo_15 : decode cX5_goesTo 15 = .ok (.getfield 7, 3) := by decide +kernel
theorem dX5_goesTo_18 : decode cX5_goesTo 18 = .ok (.sipush 325, 3) := by decide +kernel
theorem dX5_goesTo_21 : decode cX5_goesTo 21 = .ok (.iload_n 1, 1) := by decide +kernel
theorem dX5_goesTo_22 : decode cX5_goesTo 22 = .ok (.iastore, 1) := by decide +kernel
theorem dX5_goesTo_23 : decode cX5_goesTo 23 = .ok (.aload_n 0, 1) := by decide +kernel
theorem dX5_goesTo_24 : decode cX5_goesTo 24 = .ok (.getfield 7, 3) := by decide +kernel
theorem dX5_goesTo_27 : decode cX5_goesTo 27 = .ok (.sipush 326, 3) := by decide +kernel
theorem dX5_goesTo_30 : decode cX5_goesTo 30 = .ok (.dup2, 1) := by decide +kernel
theorem dX5_goesTo_31 : decode cX5_goesTo 31 = .ok (.iaload, 1) := by decide +kernel
theorem dX5_goesTo_32 : decode cX5_goesTo 32 = .ok (.iload_n 2, 1) := by decide +kernel
theorem dX5_goesTo_33 : decode cX5_goesTo 33 = .ok (.iadd, 1) := by decide +kernel
theorem dX5_goesTo_34 : decode cX5_goesTo 34 = .ok (.iastore, 1) := by decide +kernel
theorem dX5_goesTo_35 : decode cX5_goesTo 35 = .ok (.iload_n 2, 1) := by decide +kernel
theorem dX5_goesTo_36 : decode cX5_goesTo 36 = .ok (.ireturn, 1) := by decide +kernel
set_option maxRecDepth 20000 in
theorem ggX5_go_X5_isPlace : GoodIn wsX5_go wsX5_isPlace := goodIn_r _ [5, 6, 7, 8, 4, 9, 40, 41, 42, 43, 44, 45, 46, 47, 48, 49, 50, 51, 52, 53, 54, 55, 56, 57, 58, 59, 60, 61, 62, 63, 64, 65] (by decide +kernel) (by decide +kernel)
set_option maxRecDepth 20000 in
theorem gX5_go_X5_isPlace : GoodIn wsX5_go (wsV RX5 149 RX5 yX5_isPlace wsX5_isPlace) := goodIn_app (goodIn_of _ (by decide +kernel)) ggX5_go_X5_isPlace
set_option maxRecDepth 20000 in
theorem ggX5_go_X5_goesTo : GoodIn wsX5_go wsX5_goesTo := goodIn_r _ [13, 6, 14, 15, 16, 4, 17, 18, 19, 20, 21, 22, 23, 24, 25, 26, 27, 28, 29, 30, 31, 32, 33, 34, 35, 36, 37, 38, 39, 40, 41, 42, 43, 44, 45, 46, 47, 48, 49, 50, 51, 52, 53, 54, 55, 56, 57, 58, 59, 60, 61, 62, 63, 64, 65] (by decide +kernel) (by decide +kernel)
set_option maxRecDepth 20000 in
theorem gX5_go_X5_goesTo : GoodIn wsX5_go (wsV RX5 173 RX5 yX5_goesTo wsX5_goesTo) := goodIn_app (goodIn_of _ (by decide +kernel)) ggX5_go_X5_goesTo
theorem dX5_go_0 : decode cX5_go 0 = .ok (.aload_n 0, 1) := by decide +kernel
theorem dX5_go_1 : decode cX5_go 1 = .ok (.iload_n 1, 1) := by decide +kernel
theorem dX5_go_2 : decode cX5_go 2 = .ok (.invokevirtual 149, 3) := by decide +kernel
theorem dX5_go_5 : decode cX5_go 5 = .ok (.ifCond .eq 11, 3) := by decide +kernel
theorem dX5_go_8 : decode cX5_go 8 = .ok (.aload_n 0, 1) := by decide +kernel
theorem dX5_go_9 : decode cX5_go 9 = .ok (.iload_n 1, 1) := by decide +kernel
theorem dX5_go_10 : decode cX5_go 10 = .ok (.invokevirtual 173, 3) := by decide +kernel
theorem dX5_go_13 : decode cX5_go 13 = .ok (.goto 4, 3) := by decide +kernel
theorem dX5_go_16 : decode cX5_go 16 = .ok (.iconst (-1), 1) := by decide +kernel
theorem dX5_go_17 : decode cX5_go 17 = .ok (.ireturn, 1) := by decide +kernel
set_option maxRecDepth 20000 in
theorem ggX5_endOf_X5_longOf : GoodIn wsX5_endOf wsX5_longOf := goodIn_r _ [6, 7, 8, 9, 10, 11, 12, 13, 14, 15, 16, 17, 18, 19, 20, 21, 22, 23, 24, 25, 26, 27, 28, 29, 30, 31, 32, 33] (by decide +kernel) (by decide +kernel)
set_option maxRecDepth 20000 in
theorem gX5_endOf_X5_longOf : GoodIn wsX5_endOf (wsV RX5 176 RX5 yX5_longOf wsX5_longOf) := goodIn_app (goodIn_of _ (by decide +kernel)) ggX5_endOf_X5_longOf
theorem dX5_endOf_0 : decode cX5_endOf 0 = .ok (.aload_n 0, 1) := by decide +kernel
theorem dX5_endOf_1 : decode cX5_endOf 1 = .ok (.getfield 7, 3) := by decide +kernel
theorem dX5_endOf_4 : decode cX5_endOf 4 = .ok (.iconst 1, 1) := by decide +kernel
theorem dX5_endOf_5 : decode cX5_endOf 5 = .ok (.iload_n 1, 1) := by decide +kernel
theorem dX5_endOf_6 : decode cX5_endOf 6 = .ok (.iadd, 1) := by decide +kernel
theorem dX5_endOf_7 : decode cX5_endOf 7 = .ok (.iaload, 1) := by decide +kernel
theorem dX5_endOf_8 : decode cX5_endOf 8 = .ok (.aload_n 0, 1) := by decide +kernel
theorem dX5_endOf_9 : decode cX5_endOf 9 = .ok (.aload_n 0, 1) := by decide +kernel
theorem dX5_endOf_10 : decode cX5_endOf 10 = .ok (.getfield 7, 3) := by decide +kernel
theorem dX5_endOf_13 : decode cX5_endOf 13 = .ok (.bipush 13, 2) := by decide +kernel
theorem dX5_endOf_15 : decode cX5_endOf 15 = .ok (.iload_n 1, 1) := by decide +kernel
theorem dX5_endOf_16 : decode cX5_endOf 16 = .ok (.iadd, 1) := by decide +kernel
theorem dX5_endOf_17 : decode cX5_endOf 17 = .ok (.iaload, 1) := by decide +kernel
theorem dX5_endOf_18 : decode cX5_endOf 18 = .ok (.invokevirtual 176, 3) := by decide +kernel
theorem dX5_endOf_21 : decode cX5_endOf 21 = .ok (.iadd, 1) := by decide +kernel
theorem dX5_endOf_22 : decode cX5_endOf 22 = .ok (.ireturn, 1) := by decide +kernel
set_option maxRecDepth 20000 in
theorem ggX5_endOfAll_X5_endOf : GoodIn wsX5_endOfAll wsX5_endOf := goodIn_r _ [6, 1, 7, 8, 9, 5, 10, 11, 12, 13, 14, 15, 16, 17, 18, 19, 20, 21, 22, 23, 24, 25, 26, 27, 28, 29, 30, 31, 32, 33, 34, 35, 36, 37] (by decide +kernel) (by decide +kernel)
set_option maxRecDepth 20000 in
theorem gX5_endOfAll_X5_endOf : GoodIn wsX5_endOfAll (wsV RX5 179 RX5 yX5_endOf wsX5_endOf) := goodIn_app (goodIn_of _ (by decide +kernel)) ggX5_endOfAll_X5_endOf
theorem dX5_endOfAll_0 : decode cX5_endOfAll 0 = .ok (.aload_n 0, 1) := by decide +kernel
theorem dX5_endOfAll_1 : decode cX5_endOfAll 1 = .ok (.getfield 7, 3) := by decide +kernel
theorem dX5_endOfAll_4 : decode cX5_endOfAll 4 = .ok (.iconst 0, 1) := by decide +kernel
theorem dX5_endOfAll_5 : decode cX5_endOfAll 5 = .ok (.iaload, 1) := by decide +kernel
theorem dX5_endOfAll_6 : decode cX5_endOfAll 6 = .ok (.ifCond .ne 7, 3) := by decide +kernel
theorem dX5_endOfAll_9 : decode cX5_endOfAll 9 = .ok (.iconst 0, 1) := by decide +kernel
theorem dX5_endOfAll_10 : decode cX5_endOfAll 10 = .ok (.goto 15, 3) := by decide +kernel
theorem dX5_endOfAll_13 : decode cX5_endOfAll 13 = .ok (.aload_n 0, 1) := by decide +kernel
theorem dX5_endOfAll_14 : decode cX5_endOfAll 14 = .ok (.aload_n 0, 1) := by decide +kernel
theorem dX5_endOfAll_15 : decode cX5_endOfAll 15 = .ok (.getfield 7, 3) := by decide +kernel
theorem dX5_endOfAll_18 : decode cX5_endOfAll 18 = .ok (.iconst 0, 1) := by decide +kernel
theorem dX5_endOfAll_19 : decode cX5_endOfAll 19 = .ok (.iaload, 1) := by decide +kernel
theorem dX5_endOfAll_20 : decode cX5_endOfAll 20 = .ok (.iconst 1, 1) := by decide +kernel
theorem dX5_endOfAll_21 : decode cX5_endOfAll 21 = .ok (.isub, 1) := by decide +kernel
theorem dX5_endOfAll_22 : decode cX5_endOfAll 22 = .ok (.invokevirtual 179, 3) := by decide +kernel
theorem dX5_endOfAll_25 : decode cX5_endOfAll 25 = .ok (.ireturn, 1) := by decide +kernel
set_option maxRecDepth 20000 in
theorem ggX5_now_X5_turnsAt : GoodIn wsX5_now wsX5_turnsAt := goodIn_r _ [6, 7, 8, 9, 5, 10, 23, 24, 25, 26, 27, 28, 29, 30, 31, 32, 33, 34, 35, 36, 37, 38, 39, 40, 41, 42, 43, 44, 45, 46, 47, 48] (by decide +kernel) (by decide +kernel)
set_option maxRecDepth 20000 in
theorem gX5_now_X5_turnsAt : GoodIn wsX5_now (wsV RX5 153 RX5 yX5_turnsAt wsX5_turnsAt) := goodIn_app (goodIn_of _ (by decide +kernel)) ggX5_now_X5_turnsAt
set_option maxRecDepth 20000 in
theorem ggX5_now_X5_endOfAll : GoodIn wsX5_now wsX5_endOfAll := goodIn_r _ [14, 1, 15, 16, 17, 5, 18, 19, 20, 21, 22, 7, 23, 24, 25, 26, 27, 28, 29, 30, 31, 32, 33, 34, 35, 36, 37, 38, 39, 40, 41, 42, 43, 44, 45, 46, 47, 48] (by decide +kernel) (by decide +kernel)
set_option maxRecDepth 20000 in
theorem gX5_now_X5_endOfAll : GoodIn wsX5_now (wsV RX5 182 RX5 yX5_endOfAll wsX5_endOfAll) := goodIn_app (goodIn_of _ (by decide +kernel)) ggX5_now_X5_endOfAll
theorem dX5_now_0 : decode cX5_now 0 = .ok (.iload_n 1, 1) := by decide +kernel
theorem dX5_now_1 : decode cX5_now 1 = .ok (.tableswitch 102 0 5 #[39, 48, 57, 70, 79, 88], 39) := by decide +kernel
theorem dX5_now_40 : decode cX5_now 40 = .ok (.aload_n 0, 1) := by decide +kernel
theorem dX5_now_41 : decode cX5_now 41 = .ok (.getfield 7, 3) := by decide +kernel
theorem dX5_now_44 : decode cX5_now 44 = .ok (.sipush 325, 3) := by decide +kernel
theorem dX5_now_47 : decode cX5_now 47 = .ok (.iaload, 1) := by decide +kernel
theorem dX5_now_48 : decode cX5_now 48 = .ok (.ireturn, 1) := by decide +kernel
theorem dX5_now_49 : decode cX5_now 49 = .ok (.aload_n 0, 1) := by decide +kernel
theorem dX5_now_50 : decode cX5_now 50 = .ok (.getfield 7, 3) := by decide +kernel
theorem dX5_now_53 : decode cX5_now 53 = .ok (.sipush 326, 3) := by decide +kernel
theorem dX5_now_56 : decode cX5_now 56 = .ok (.iaload, 1) := by decide +kernel
theorem dX5_now_57 : decode cX5_now 57 = .ok (.ireturn, 1) := by decide +kernel
theorem dX5_now_58 : decode cX5_now 58 = .ok (.aload_n 0, 1) := by decide +kernel
theorem dX5_now_59 : decode cX5_now 59 = .ok (.aload_n 0, 1) := by decide +kernel
theorem dX5_now_60 : decode cX5_now 60 = .ok (.getfield 7, 3) := by decide +kernel
theorem dX5_now_63 : decode cX5_now 63 = .ok (.sipush 325, 3) := by decide +kernel
theorem dX5_now_66 : decode cX5_now 66 = .ok (.iaload, 1) := by decide +kernel
theorem dX5_now_67 : decode cX5_now 67 = .ok (.invokevirtual 153, 3) := by decide +kernel
theorem dX5_now_70 : decode cX5_now 70 = .ok (.ireturn, 1) := by decide +kernel
theorem dX5_now_71 : decode cX5_now 71 = .ok (.aload_n 0, 1) := by decide +kernel
theorem dX5_now_72 : decode cX5_now 72 = .ok (.getfield 7, 3) := by decide +kernel
theorem dX5_now_75 : decode cX5_now 75 = .ok (.sipush 340, 3) := by decide +kernel
theorem dX5_now_78 : decode cX5_now 78 = .ok (.iaload, 1) := by decide +kernel
theorem dX5_now_79 : decode cX5_now 79 = .ok (.ireturn, 1) := by decide +kernel
theorem dX5_now_80 : decode cX5_now 80 = .ok (.aload_n 0, 1) := by decide +kernel
theorem dX5_now_81 : decode cX5_now 81 = .ok (.getfield 7, 3) := by decide +kernel
theorem dX5_now_84 : decode cX5_now 84 = .ok (.sipush 327, 3) := by decide +kernel
theorem dX5_now_87 : decode cX5_now 87 = .ok (.iaload, 1) := by decide +kernel
theorem dX5_now_88 : decode cX5_now 88 = .ok (.ireturn, 1) := by decide +kernel
theorem dX5_now_89 : decode cX5_now 89 = .ok (.aload_n 0, 1) := by decide +kernel
theorem dX5_now_90 : decode cX5_now 90 = .ok (.getfield 7, 3) := by decide +kernel
theorem dX5_now_93 : decode cX5_now 93 = .ok (.sipush 366, 3) := by decide +kernel
theorem dX5_now_96 : decode cX5_now 96 = .ok (.iaload, 1) := by decide +kernel
theorem dX5_now_97 : decode cX5_now 97 = .ok (.aload_n 0, 1) := by decide +kernel
theorem dX5_now_98 : decode cX5_now 98 = .ok (.invokevirtual 182, 3) := by decide +kernel
theorem dX5_now_101 : decode cX5_now 101 = .ok (.isub, 1) := by decide +kernel
theorem dX5_now_102 : decode cX5_now 102 = .ok (.ireturn, 1) := by decide +kernel
theorem dX5_now_103 : decode cX5_now 103 = .ok (.iconst (-1), 1) := by decide +kernel
theorem dX5_now_104 : decode cX5_now 104 = .ok (.ireturn, 1) := by decide +kernel
set_option maxRecDepth 20000 in
theorem ggX5_within_X5_in : GoodIn wsX5_within wsX5_in := goodIn_r _ [6] (by decide +kernel) (by decide +kernel)
set_option maxRecDepth 20000 in
theorem gX5_within_X5_in : GoodIn wsX5_within (va_wsS RX5 75 yX5_in wsX5_in) := goodIn_app (goodIn_of _ (by decide +kernel)) ggX5_within_X5_in
set_option maxRecDepth 20000 in
theorem ggX5_within_X5_sooner : GoodIn wsX5_within wsX5_sooner := goodIn_r _ [10, 11, 12, 13, 5, 14, 15, 16, 17, 18, 19, 20, 21, 22, 2, 23, 24, 25, 26, 27, 28, 29, 30, 31, 32, 33, 34, 35, 36, 37, 38, 39, 40, 41, 42, 43, 44, 45, 46, 47, 48, 49, 50, 51, 52, 53, 54, 55, 56, 57, 58] (by decide +kernel) (by decide +kernel)
set_option maxRecDepth 20000 in
theorem gX5_within_X5_sooner : GoodIn wsX5_within (wsV RX5 170 RX5 yX5_sooner wsX5_sooner) := goodIn_app (goodIn_of _ (by decide +kernel)) ggX5_within_X5_sooner
theorem dX5_within_0 : decode cX5_within 0 = .ok (.iload_n 1, 1) := by decide +kernel
theorem dX5_within_1 : decode cX5_within 1 = .ok (.i2l, 1) := by decide +kernel
theorem dX5_within_2 : decode cX5_within 2 = .ok (.lconst 0, 1) := by decide +kernel
theorem dX5_within_3 : decode cX5_within 3 = .ok (.ldc2_w 185, 3) := by decide +kernel
theorem dX5_within_6 : decode cX5_within 6 = .ok (.invokestatic 75, 3) := by decide +kernel
theorem dX5_within_9 : decode cX5_within 9 = .ok (.ifCond .ne 5, 3) := by decide +kernel
theorem dX5_within_12 : decode cX5_within 12 = .ok (.iconst (-1), 1) := by decide +kernel
theorem dX5_within_13 : decode cX5_within 13 = .ok (.ireturn, 1) := by decide +kernel
theorem dX5_within_14 : decode cX5_within 14 = .ok (.aload_n 0, 1) := by decide +kernel
theorem dX5_within_15 : decode cX5_within 15 = .ok (.getfield 7, 3) := by decide +kernel
theorem dX5_within_18 : decode cX5_within 18 = .ok (.sipush 325, 3) := by decide +kernel
theorem dX5_within_21 : decode cX5_within 21 = .ok (.iaload, 1) := by decide +kernel
theorem dX5_within_22 : decode cX5_within 22 = .ok (.istore_n 3, 1) := by decide +kernel
theorem dX5_within_23 : decode cX5_within 23 = .ok (.aload_n 0, 1) := by decide +kernel
theorem dX5_within_24 : decode cX5_within 24 = .ok (.getfield 7, 3) := by decide +kernel
theorem dX5_within_27 : decode cX5_within 27 = .ok (.sipush 325, 3) := by decide +kernel
theorem dX5_within_30 : decode cX5_within 30 = .ok (.iaload, 1) := by decide +kernel
theorem dX5_within_31 : decode cX5_within 31 = .ok (.istore 4, 2) := by decide +kernel
theorem dX5_within_33 : decode cX5_within 33 = .ok (.iload 4, 2) := by decide +kernel
theorem dX5_within_35 : decode cX5_within 35 = .ok (.ifCond .lt 38, 3) := by decide +kernel
theorem dX5_within_38 : decode cX5_within 38 = .ok (.iload_n 2, 1) := by decide +kernel
theorem dX5_within_39 : decode cX5_within 39 = .ok (.ifCond .eq 34, 3) := by decide +kernel
theorem dX5_within_42 : decode cX5_within 42 = .ok (.aload_n 0, 1) := by decide +kernel
theorem dX5_within_43 : decode cX5_within 43 = .ok (.aload_n 0, 1) := by decide +kernel
theorem dX5_within_44 : decode cX5_within 44 = .ok (.getfield 7, 3) := by decide +kernel
theorem dX5_within_47 : decode cX5_within 47 = .ok (.sipush 325, 3) := by decide +kernel
theorem dX5_within_50 : decode cX5_within 50 = .ok (.iaload, 1) := by decide +kernel
theorem dX5_within_51 : decode cX5_within 51 = .ok (.iload 4, 2) := by decide +kernel
theorem dX5_within_53 : decode cX5_within 53 = .ok (.invokevirtual 170, 3) := by decide +kernel
theorem dX5_within_56 : decode cX5_within 56 = .ok (.iload_n 1, 1) := by decide +kernel
theorem dX5_within_57 : decode cX5_within 57 = .ok (.if_icmp .gt 8, 3) := by decide +kernel
theorem dX5_within_60 : decode cX5_within 60 = .ok (.iload 4, 2) := by decide +kernel
theorem dX5_within_62 : decode cX5_within 62 = .ok (.goto 4, 3) := by decide +kernel
theorem dX5_within_65 : decode cX5_within 65 = .ok (.iload_n 3, 1) := by decide +kernel
theorem dX5_within_66 : decode cX5_within 66 = .ok (.istore_n 3, 1) := by decide +kernel
theorem dX5_within_67 : decode cX5_within 67 = .ok (.iinc 4 (-1), 3) := by decide +kernel
theorem dX5_within_70 : decode cX5_within 70 = .ok (.goto (-37), 3) := by decide +kernel
theorem dX5_within_73 : decode cX5_within 73 = .ok (.aload_n 0, 1) := by decide +kernel
theorem dX5_within_74 : decode cX5_within 74 = .ok (.getfield 7, 3) := by decide +kernel
theorem dX5_within_77 : decode cX5_within 77 = .ok (.sipush 325, 3) := by decide +kernel
theorem dX5_within_80 : decode cX5_within 80 = .ok (.iaload, 1) := by decide +kernel
theorem dX5_within_81 : decode cX5_within 81 = .ok (.istore 4, 2) := by decide +kernel
theorem dX5_within_83 : decode cX5_within 83 = .ok (.iload 4, 2) := by decide +kernel
theorem dX5_within_85 : decode cX5_within 85 = .ok (.aload_n 0, 1) := by decide +kernel
theorem dX5_within_86 : decode cX5_within 86 = .ok (.getfield 7, 3) := by decide +kernel
theorem dX5_within_89 : decode cX5_within 89 = .ok (.sipush 366, 3) := by decide +kernel
theorem dX5_within_92 : decode cX5_within 92 = .ok (.iaload, 1) := by decide +kernel
theorem dX5_within_93 : decode cX5_within 93 = .ok (.if_icmp .gt 38, 3) := by decide +kernel
theorem dX5_within_96 : decode cX5_within 96 = .ok (.iload_n 2, 1) := by decide +kernel
theorem dX5_within_97 : decode cX5_within 97 = .ok (.ifCond .ne 34, 3) := by decide +kernel
theorem dX5_within_100 : decode cX5_within 100 = .ok (.aload_n 0, 1) := by decide +kernel
theorem dX5_within_101 : decode cX5_within 101 = .ok (.aload_n 0, 1) := by decide +kernel
theorem dX5_within_102 : decode cX5_within 102 = .ok (.getfield 7, 3) := by decide +kernel
theorem dX5_within_105 : decode cX5_within 105 = .ok (.sipush 325, 3) := by decide +kernel
theorem dX5_within_108 : decode cX5_within 108 = .ok (.iaload, 1) := by decide +kernel
theorem dX5_within_109 : decode cX5_within 109 = .ok (.iload 4, 2) := by decide +kernel
theorem dX5_within_111 : decode cX5_within 111 = .ok (.invokevirtual 170, 3) := by decide +kernel
theorem dX5_within_114 : decode cX5_within 114 = .ok (.iload_n 1, 1) := by decide +kernel
theorem dX5_within_115 : decode cX5_within 115 = .ok (.if_icmp .gt 8, 3) := by decide +kernel
theorem dX5_within_118 : decode cX5_within 118 = .ok (.iload 4, 2) := by decide +kernel
theorem dX5_within_120 : decode cX5_within 120 = .ok (.goto 4, 3) := by decide +kernel
theorem dX5_within_123 : decode cX5_within 123 = .ok (.iload_n 3, 1) := by decide +kernel
theorem dX5_within_124 : decode cX5_within 124 = .ok (.istore_n 3, 1) := by decide +kernel
theorem dX5_within_125 : decode cX5_within 125 = .ok (.iinc 4 1, 3) := by decide +kernel
theorem dX5_within_128 : decode cX5_within 128 = .ok (.goto (-45), 3) := by decide +kernel
theorem dX5_within_131 : decode cX5_within 131 = .ok (.iload_n 3, 1) := by decide +kernel
theorem dX5_within_132 : decode cX5_within 132 = .ok (.ireturn, 1) := by decide +kernel
set_option maxRecDepth 20000 in
theorem ggX5_beginOf_X5_endOf : GoodIn wsX5_beginOf wsX5_endOf := goodIn_r _ [6, 7, 8, 9, 10, 5, 11, 1, 12, 13, 14, 15, 16, 17, 18, 19, 20, 21, 22, 23, 24, 25, 26, 27, 28, 29, 30, 31, 32, 33, 34, 35, 36, 37] (by decide +kernel) (by decide +kernel)
set_option maxRecDepth 20000 in
theorem gX5_beginOf_X5_endOf : GoodIn wsX5_beginOf (wsV RX5 179 RX5 yX5_endOf wsX5_endOf) := goodIn_app (goodIn_of _ (by decide +kernel)) ggX5_beginOf_X5_endOf
theorem dX5_beginOf_0 : decode cX5_beginOf 0 = .ok (.aload_n 0, 1) := by decide +kernel
theorem dX5_beginOf_1 : decode cX5_beginOf 1 = .ok (.getfield 17, 3) := by decide +kernel
theorem dX5_beginOf_4 : decode cX5_beginOf 4 = .ok (.bipush 6, 2) := by decide +kernel
theorem dX5_beginOf_6 : decode cX5_beginOf 6 = .ok (.iaload, 1) := by decide +kernel
theorem dX5_beginOf_7 : decode cX5_beginOf 7 = .ok (.iload_n 1, 1) := by decide +kernel
theorem dX5_beginOf_8 : decode cX5_beginOf 8 = .ok (.ifCond .ne 7, 3) := by decide +kernel
theorem dX5_beginOf_11 : decode cX5_beginOf 11 = .ok (.iconst 0, 1) := by decide +kernel
theorem dX5_beginOf_12 : decode cX5_beginOf 12 = .ok (.goto 10, 3) := by decide +kernel
theorem dX5_beginOf_15 : decode cX5_beginOf 15 = .ok (.aload_n 0, 1) := by decide +kernel
theorem dX5_beginOf_16 : decode cX5_beginOf 16 = .ok (.iload_n 1, 1) := by decide +kernel
theorem dX5_beginOf_17 : decode cX5_beginOf 17 = .ok (.iconst 1, 1) := by decide +kernel
theorem dX5_beginOf_18 : decode cX5_beginOf 18 = .ok (.isub, 1) := by decide +kernel
theorem dX5_beginOf_19 : decode cX5_beginOf 19 = .ok (.invokevirtual 179, 3) := by decide +kernel
theorem dX5_beginOf_22 : decode cX5_beginOf 22 = .ok (.iadd, 1) := by decide +kernel
theorem dX5_beginOf_23 : decode cX5_beginOf 23 = .ok (.ireturn, 1) := by decide +kernel
set_option maxRecDepth 20000 in
theorem ggX5_lays_X5_beginOf : GoodIn wsX5_lays wsX5_beginOf := goodIn_r _ [7, 8, 9, 10, 11, 6, 12, 1, 13, 14, 15, 16, 20, 21, 22, 23, 24, 25, 26, 27, 28, 29, 30, 31, 32, 33, 34, 35, 36, 37, 38, 39, 40, 41, 42, 43, 44, 45] (by decide +kernel) (by decide +kernel)
set_option maxRecDepth 20000 in
theorem gX5_lays_X5_beginOf : GoodIn wsX5_lays (wsV RX5 187 RX5 yX5_beginOf wsX5_beginOf) := goodIn_app (goodIn_of _ (by decide +kernel)) ggX5_lays_X5_beginOf
set_option maxRecDepth 20000 in
theorem ggX5_lays_X5_odd : GoodIn wsX5_lays wsX5_odd := goodIn_r _ [19] (by decide +kernel) (by decide +kernel)
set_option maxRecDepth 20000 in
theorem gX5_lays_X5_odd : GoodIn wsX5_lays (va_wsS RX5 190 yX5_odd wsX5_odd) := goodIn_app (goodIn_of _ (by decide +kernel)) ggX5_lays_X5_odd
theorem dX5_lays_0 : decode cX5_lays 0 = .ok (.aload_n 0, 1) := by decide +kernel
theorem dX5_lays_1 : decode cX5_lays 1 = .ok (.getfield 7, 3) := by decide +kernel
theorem dX5_lays_4 : decode cX5_lays 4 = .ok (.iconst 0, 1) := by decide +kernel
theorem dX5_lays_5 : decode cX5_lays 5 = .ok (.iaload, 1) := by decide +kernel
theorem dX5_lays_6 : decode cX5_lays 6 = .ok (.istore_n 2, 1) := by decide +kernel
theorem dX5_lays_7 : decode cX5_lays 7 = .ok (.iconst 0, 1) := by decide +kernel
theorem dX5_lays_8 : decode cX5_lays 8 = .ok (.istore_n 3, 1) := by decide +kernel
theorem dX5_lays_9 : decode cX5_lays 9 = .ok (.aload_n 0, 1) := by decide +kernel
theorem dX5_lays_10 : decode cX5_lays 10 = .ok (.getfield 7, 3) := by decide +kernel
theorem dX5_lays_13 : decode cX5_lays 13 = .ok (.iconst 1, 1) := by decide +kernel
theorem dX5_lays_14 : decode cX5_lays 14 = .ok (.iload_n 2, 1) := by decide +kernel
theorem dX5_lays_15 : decode cX5_lays 15 = .ok (.iadd, 1) := by decide +kernel
theorem dX5_lays_16 : decode cX5_lays 16 = .ok (.aload_n 0, 1) := by decide +kernel
theorem dX5_lays_17 : decode cX5_lays 17 = .ok (.iload_n 2, 1) := by decide +kernel
theorem dX5_lays_18 : decode cX5_lays 18 = .ok (.invokevirtual 187, 3) := by decide +kernel
theorem dX5_lays_21 : decode cX5_lays 21 = .ok (.iastore, 1) := by decide +kernel
theorem dX5_lays_22 : decode cX5_lays 22 = .ok (.aload_n 0, 1) := by decide +kernel
theorem dX5_lays_23 : decode cX5_lays 23 = .ok (.getfield 7, 3) := by decide +kernel
theorem dX5_lays_26 : decode cX5_lays 26 = .ok (.bipush 13, 2) := by decide +kernel
theorem dX5_lays_28 : decode cX5_lays 28 = .ok (.iload_n 2, 1) := by decide +kernel
theorem dX5_lays_29 : decode cX5_lays 29 = .ok (.iadd, 1) := by decide +kernel
theorem dX5_lays_30 : decode cX5_lays 30 = .ok (.iload_n 1, 1) := by decide +kernel
theorem dX5_lays_31 : decode cX5_lays 31 = .ok (.iastore, 1) := by decide +kernel
theorem dX5_lays_32 : decode cX5_lays 32 = .ok (.iconst 0, 1) := by decide +kernel
theorem dX5_lays_33 : decode cX5_lays 33 = .ok (.istore 4, 2) := by decide +kernel
theorem dX5_lays_35 : decode cX5_lays 35 = .ok (.iload 4, 2) := by decide +kernel
theorem dX5_lays_37 : decode cX5_lays 37 = .ok (.iload_n 1, 1) := by decide +kernel
theorem dX5_lays_38 : decode cX5_lays 38 = .ok (.if_icmp .ge 84, 3) := by decide +kernel
theorem dX5_lays_41 : decode cX5_lays 41 = .ok (.aload_n 0, 1) := by decide +kernel
theorem dX5_lays_42 : decode cX5_lays 42 = .ok (.getfield 32, 3) := by decide +kernel
theorem dX5_lays_45 : decode cX5_lays 45 = .ok (.iload 4, 2) := by decide +kernel
theorem dX5_lays_47 : decode cX5_lays 47 = .ok (.iaload, 1) := by decide +kernel
theorem dX5_lays_48 : decode cX5_lays 48 = .ok (.aload_n 0, 1) := by decide +kernel
theorem dX5_lays_49 : decode cX5_lays 49 = .ok (.getfield 32, 3) := by decide +kernel
theorem dX5_lays_52 : decode cX5_lays 52 = .ok (.iload 4, 2) := by decide +kernel
theorem dX5_lays_54 : decode cX5_lays 54 = .ok (.iaload, 1) := by decide +kernel
theorem dX5_lays_55 : decode cX5_lays 55 = .ok (.invokestatic 190, 3) := by decide +kernel
theorem dX5_lays_58 : decode cX5_lays 58 = .ok (.ifCond .ne 9, 3) := by decide +kernel
theorem dX5_lays_61 : decode cX5_lays 61 = .ok (.sipush 256, 3) := by decide +kernel
theorem dX5_lays_64 : decode cX5_lays 64 = .ok (.goto 4, 3) := by decide +kernel
theorem dX5_lays_67 : decode cX5_lays 67 = .ok (.iconst 0, 1) := by decide +kernel
theorem dX5_lays_68 : decode cX5_lays 68 = .ok (.ior, 1) := by decide +kernel
theorem dX5_lays_69 : decode cX5_lays 69 = .ok (.istore 5, 2) := by decide +kernel
theorem dX5_lays_71 : decode cX5_lays 71 = .ok (.aload_n 0, 1) := by decide +kernel
theorem dX5_lays_72 : decode cX5_lays 72 = .ok (.getfield 7, 3) := by decide +kernel
theorem dX5_lays_75 : decode cX5_lays 75 = .ok (.bipush 25, 2) := by decide +kernel
theorem dX5_lays_77 : decode cX5_lays 77 = .ok (.bipush 13, 2) := by decide +kernel
theorem dX5_lays_79 : decode cX5_lays 79 = .ok (.iload_n 2, 1) := by decide +kernel
theorem dX5_lays_80 : decode cX5_lays 80 = .ok (.imul, 1) := by decide +kernel
theorem dX5_lays_81 : decode cX5_lays 81 = .ok (.iadd, 1) := by decide +kernel
theorem dX5_lays_82 : decode cX5_lays 82 = .ok (.iload 4, 2) := by decide +kernel
theorem dX5_lays_84 : decode cX5_lays 84 = .ok (.iadd, 1) := by decide +kernel
theorem dX5_lays_85 : decode cX5_lays 85 = .ok (.iload 5, 2) := by decide +kernel
theorem dX5_lays_87 : decode cX5_lays 87 = .ok (.iastore, 1) := by decide +kernel
theorem dX5_lays_88 : decode cX5_lays 88 = .ok (.aload_n 0, 1) := by decide +kernel
theorem dX5_lays_89 : decode cX5_lays 89 = .ok (.getfield 7, 3) := by decide +kernel
theorem dX5_lays_92 : decode cX5_lays 92 = .ok (.sipush 181, 3) := by decide +kernel
theorem dX5_lays_95 : decode cX5_lays 95 = .ok (.bipush 12, 2) := by decide +kernel
theorem dX5_lays_97 : decode cX5_lays 97 = .ok (.iload_n 2, 1) := by decide +kernel
theorem dX5_lays_98 : decode cX5_lays 98 = .ok (.imul, 1) := by decide +kernel
theorem dX5_lays_99 : decode cX5_lays 99 = .ok (.iadd, 1) := by decide +kernel
theorem dX5_lays_100 : decode cX5_lays 100 = .ok (.iload 4, 2) := by decide +kernel
theorem dX5_lays_102 : decode cX5_lays 102 = .ok (.iadd, 1) := by decide +kernel
theorem dX5_lays_103 : decode cX5_lays 103 = .ok (.aload_n 0, 1) := by decide +kernel
theorem dX5_lays_104 : decode cX5_lays 104 = .ok (.getfield 32, 3) := by decide +kernel
theorem dX5_lays_107 : decode cX5_lays 107 = .ok (.iload 4, 2) := by decide +kernel
theorem dX5_lays_109 : decode cX5_lays 109 = .ok (.iaload, 1) := by decide +kernel
theorem dX5_lays_110 : decode cX5_lays 110 = .ok (.iastore, 1) := by decide +kernel
theorem dX5_lays_111 : decode cX5_lays 111 = .ok (.iload_n 3, 1) := by decide +kernel
theorem dX5_lays_112 : decode cX5_lays 112 = .ok (.iload 5, 2) := by decide +kernel
theorem dX5_lays_114 : decode cX5_lays 114 = .ok (.ixor, 1) := by decide +kernel
theorem dX5_lays_115 : decode cX5_lays 115 = .ok (.istore_n 3, 1) := by decide +kernel
theorem dX5_lays_116 : decode cX5_lays 116 = .ok (.iinc 4 1, 3) := by decide +kernel
theorem dX5_lays_119 : decode cX5_lays 119 = .ok (.goto (-84), 3) := by decide +kernel
theorem dX5_lays_122 : decode cX5_lays 122 = .ok (.aload_n 0, 1) := by decide +kernel
theorem dX5_lays_123 : decode cX5_lays 123 = .ok (.getfield 7, 3) := by decide +kernel
theorem dX5_lays_126 : decode cX5_lays 126 = .ok (.bipush 25, 2) := by decide +kernel
theorem dX5_lays_128 : decode cX5_lays 128 = .ok (.bipush 13, 2) := by decide +kernel
theorem dX5_lays_130 : decode cX5_lays 130 = .ok (.iload_n 2, 1) := by decide +kernel
theorem dX5_lays_131 : decode cX5_lays 131 = .ok (.imul, 1) := by decide +kernel
theorem dX5_lays_132 : decode cX5_lays 132 = .ok (.iadd, 1) := by decide +kernel
theorem dX5_lays_133 : decode cX5_lays 133 = .ok (.iload_n 1, 1) := by decide +kernel
theorem dX5_lays_134 : decode cX5_lays 134 = .ok (.iadd, 1) := by decide +kernel
theorem dX5_lays_135 : decode cX5_lays 135 = .ok (.iload_n 3, 1) := by decide +kernel
theorem dX5_lays_136 : decode cX5_lays 136 = .ok (.iastore, 1) := by decide +kernel
theorem dX5_lays_137 : decode cX5_lays 137 = .ok (.aload_n 0, 1) := by decide +kernel
theorem dX5_lays_138 : decode cX5_lays 138 = .ok (.getfield 7, 3) := by decide +kernel
theorem dX5_lays_141 : decode cX5_lays 141 = .ok (.iconst 0, 1) := by decide +kernel
theorem dX5_lays_142 : decode cX5_lays 142 = .ok (.iload_n 2, 1) := by decide +kernel
theorem dX5_lays_143 : decode cX5_lays 143 = .ok (.iconst 1, 1) := by decide +kernel
theorem dX5_lays_144 : decode cX5_lays 144 = .ok (.iadd, 1) := by decide +kernel
theorem dX5_lays_145 : decode cX5_lays 145 = .ok (.iastore, 1) := by decide +kernel
theorem dX5_lays_146 : decode cX5_lays 146 = .ok (.return_, 1) := by decide +kernel
set_option maxRecDepth 20000 in
theorem ggX5_isBlock_X5_in : GoodIn wsX5_isBlock wsX5_in := goodIn_r _ [5] (by decide +kernel) (by decide +kernel)
set_option maxRecDepth 20000 in
theorem gX5_isBlock_X5_in : GoodIn wsX5_isBlock (va_wsS RX5 75 yX5_in wsX5_in) := goodIn_app (goodIn_of _ (by decide +kernel)) ggX5_isBlock_X5_in
theorem dX5_isBlock_0 : decode cX5_isBlock 0 = .ok (.iload_n 1, 1) := by decide +kernel
theorem dX5_isBlock_1 : decode cX5_isBlock 1 = .ok (.i2l, 1) := by decide +kernel
theorem dX5_isBlock_2 : decode cX5_isBlock 2 = .ok (.lconst 0, 1) := by decide +kernel
theorem dX5_isBlock_3 : decode cX5_isBlock 3 = .ok (.aload_n 0, 1) := by decide +kernel
theorem dX5_isBlock_4 : decode cX5_isBlock 4 = .ok (.getfield 7, 3) := by decide +kernel
theorem dX5_isBlock_7 : decode cX5_isBlock 7 = .ok (.iconst 0, 1) := by decide +kernel
theorem dX5_isBlock_8 : decode cX5_isBlock 8 = .ok (.iaload, 1) := by decide +kernel
theorem dX5_isBlock_9 : decode cX5_isBlock 9 = .ok (.iconst 1, 1) := by decide +kernel
theorem dX5_isBlock_10 : decode cX5_isBlock 10 = .ok (.isub, 1) := by decide +kernel
theorem dX5_isBlock_11 : decode cX5_isBlock 11 = .ok (.i2l, 1) := by decide +kernel
theorem dX5_isBlock_12 : decode cX5_isBlock 12 = .ok (.invokestatic 75, 3) := by decide +kernel
theorem dX5_isBlock_15 : decode cX5_isBlock 15 = .ok (.ireturn, 1) := by decide +kernel
theorem dX5_columnOf_0 : decode cX5_columnOf 0 = .ok (.aload_n 0, 1) := by decide +kernel
theorem dX5_columnOf_1 : decode cX5_columnOf 1 = .ok (.getfield 7, 3) := by decide +kernel
theorem dX5_columnOf_4 : decode cX5_columnOf 4 = .ok (.bipush 25, 2) := by decide +kernel
theorem dX5_columnOf_6 : decode cX5_columnOf 6 = .ok (.bipush 13, 2) := by decide +kernel
theorem dX5_columnOf_8 : decode cX5_columnOf 8 = .ok (.iload_n 1, 1) := by decide +kernel
theorem dX5_columnOf_9 : decode cX5_columnOf 9 = .ok (.imul, 1) := by decide +kernel
theorem dX5_columnOf_10 : decode cX5_columnOf 10 = .ok (.iadd, 1) := by decide +kernel
theorem dX5_columnOf_11 : decode cX5_columnOf 11 = .ok (.iload_n 2, 1) := by decide +kernel
theorem dX5_columnOf_12 : decode cX5_columnOf 12 = .ok (.iadd, 1) := by decide +kernel
theorem dX5_columnOf_13 : decode cX5_columnOf 13 = .ok (.iaload, 1) := by decide +kernel
theorem dX5_columnOf_14 : decode cX5_columnOf 14 = .ok (.ireturn, 1) := by decide +kernel
set_option maxRecDepth 20000 in
theorem ggX5_block_X5_isBlock : GoodIn wsX5_block wsX5_isBlock := goodIn_r _ [6, 1, 7, 8, 5, 9, 23, 24, 25, 26, 27, 28, 29, 30, 31, 32, 33, 34, 35, 36, 37, 38, 39, 40, 41, 42, 43, 44, 45, 46, 47, 48] (by decide +kernel) (by decide +kernel)
set_option maxRecDepth 20000 in
theorem gX5_block_X5_isBlock : GoodIn wsX5_block (wsV RX5 193 RX5 yX5_isBlock wsX5_isBlock) := goodIn_app (goodIn_of _ (by decide +kernel)) ggX5_block_X5_isBlock
set_option maxRecDepth 20000 in
theorem ggX5_block_X5_longOf : GoodIn wsX5_block wsX5_longOf := goodIn_r _ [13, 14, 23, 24, 25, 26, 27, 28, 29, 30, 31, 32, 33, 34, 35, 36, 37, 38, 39, 40, 41, 42, 43, 44, 45, 46, 47, 48] (by decide +kernel) (by decide +kernel)
set_option maxRecDepth 20000 in
theorem gX5_block_X5_longOf : GoodIn wsX5_block (wsV RX5 176 RX5 yX5_longOf wsX5_longOf) := goodIn_app (goodIn_of _ (by decide +kernel)) ggX5_block_X5_longOf
set_option maxRecDepth 20000 in
theorem ggX5_block_X5_columnOf : GoodIn wsX5_block wsX5_columnOf := goodIn_r _ [18, 1, 23, 24, 25, 26, 27, 28, 29, 30, 31, 32, 33, 34, 35, 36, 37, 38, 39, 40, 41, 42, 43, 44, 45, 46, 47, 48] (by decide +kernel) (by decide +kernel)
set_option maxRecDepth 20000 in
theorem gX5_block_X5_columnOf : GoodIn wsX5_block (wsV RX5 196 RX5 yX5_columnOf wsX5_columnOf) := goodIn_app (goodIn_of _ (by decide +kernel)) ggX5_block_X5_columnOf
set_option maxRecDepth 20000 in
theorem ggX5_block_X5_endOf : GoodIn wsX5_block wsX5_endOf := goodIn_r _ [22, 1, 10, 11, 12, 5, 13, 14, 23, 24, 25, 26, 27, 28, 29, 30, 31, 32, 33, 34, 35, 36, 37, 38, 39, 40, 41, 42, 43, 44, 45, 46, 47, 48] (by decide +kernel) (by decide +kernel)
set_option maxRecDepth 20000 in
theorem gX5_block_X5_endOf : GoodIn wsX5_block (wsV RX5 179 RX5 yX5_endOf wsX5_endOf) := goodIn_app (goodIn_of _ (by decide +kernel)) ggX5_block_X5_endOf
theorem dX5_block_0 : decode cX5_block 0 = .ok (.aload_n 0, 1) := by decide +kernel
theorem dX5_block_1 : decode cX5_block 1 = .ok (.iload_n 1, 1) := by decide +kernel
theorem dX5_block_2 : decode cX5_block 2 = .ok (.invokevirtual 193, 3) := by decide +kernel
theorem dX5_block_5 : decode cX5_block 5 = .ok (.ifCond .ne 5, 3) := by decide +kernel
theorem dX5_block_8 : decode cX5_block 8 = .ok (.iconst (-1), 1) := by decide +kernel
theorem dX5_block_9 : decode cX5_block 9 = .ok (.ireturn, 1) := by decide +kernel
theorem dX5_block_10 : decode cX5_block 10 = .ok (.aload_n 0, 1) := by decide +kernel
theorem dX5_block_11 : decode cX5_block 11 = .ok (.getfield 7, 3) := by decide +kernel
theorem dX5_block_14 : decode cX5_block 14 = .ok (.bipush 13, 2) := by decide +kernel
theorem dX5_block_16 : decode cX5_block 16 = .ok (.iload_n 1, 1) := by decide +kernel
theorem dX5_block_17 : decode cX5_block 17 = .ok (.iadd, 1) := by decide +kernel
theorem dX5_block_18 : decode cX5_block 18 = .ok (.iaload, 1) := by decide +kernel
theorem dX5_block_19 : decode cX5_block 19 = .ok (.istore_n 3, 1) := by decide +kernel
theorem dX5_block_20 : decode cX5_block 20 = .ok (.iload_n 2, 1) := by decide +kernel
theorem dX5_block_21 : decode cX5_block 21 = .ok (.tableswitch 73 0 4 #[35, 44, 50, 52, 67], 35) := by decide +kernel
theorem dX5_block_56 : decode cX5_block 56 = .ok (.aload_n 0, 1) := by decide +kernel
theorem dX5_block_57 : decode cX5_block 57 = .ok (.getfield 7, 3) := by decide +kernel
theorem dX5_block_60 : decode cX5_block 60 = .ok (.iconst 1, 1) := by decide +kernel
theorem dX5_block_61 : decode cX5_block 61 = .ok (.iload_n 1, 1) := by decide +kernel
theorem dX5_block_62 : decode cX5_block 62 = .ok (.iadd, 1) := by decide +kernel
theorem dX5_block_63 : decode cX5_block 63 = .ok (.iaload, 1) := by decide +kernel
theorem dX5_block_64 : decode cX5_block 64 = .ok (.ireturn, 1) := by decide +kernel
theorem dX5_block_65 : decode cX5_block 65 = .ok (.aload_n 0, 1) := by decide +kernel
theorem dX5_block_66 : decode cX5_block 66 = .ok (.iload_n 3, 1) := by decide +kernel
theorem dX5_block_67 : decode cX5_block 67 = .ok (.invokevirtual 176, 3) := by decide +kernel
theorem dX5_block_70 : decode cX5_block 70 = .ok (.ireturn, 1) := by decide +kernel
theorem dX5_block_71 : decode cX5_block 71 = .ok (.iload_n 3, 1) := by decide +kernel
theorem dX5_block_72 : decode cX5_block 72 = .ok (.ireturn, 1) := by decide +kernel
theorem dX5_block_73 : decode cX5_block 73 = .ok (.iload_n 3, 1) := by decide +kernel
theorem dX5_block_74 : decode cX5_block 74 = .ok (.ifCond .ne 7, 3) := by decide +kernel
theorem dX5_block_77 : decode cX5_block 77 = .ok (.iconst 0, 1) := by decide +kernel
theorem dX5_block_78 : decode cX5_block 78 = .ok (.goto 9, 3) := by decide +kernel
theorem dX5_block_81 : decode cX5_block 81 = .ok (.aload_n 0, 1) := by decide +kernel
theorem dX5_block_82 : decode cX5_block 82 = .ok (.iload_n 1, 1) := by decide +kernel
theorem dX5_block_83 : decode cX5_block 83 = .ok (.iload_n 3, 1) := by decide +kernel
theorem dX5_block_84 : decode cX5_block 84 = .ok (.invokevirtual 196, 3) := by decide +kernel
theorem dX5_block_87 : decode cX5_block 87 = .ok (.ireturn, 1) := by decide +kernel
theorem dX5_block_88 : decode cX5_block 88 = .ok (.aload_n 0, 1) := by decide +kernel
theorem dX5_block_89 : decode cX5_block 89 = .ok (.iload_n 1, 1) := by decide +kernel
theorem dX5_block_90 : decode cX5_block 90 = .ok (.invokevirtual 179, 3) := by decide +kernel
theorem dX5_block_93 : decode cX5_block 93 = .ok (.ireturn, 1) := by decide +kernel
theorem dX5_block_94 : decode cX5_block 94 = .ok (.iconst (-1), 1) := by decide +kernel
theorem dX5_block_95 : decode cX5_block 95 = .ok (.ireturn, 1) := by decide +kernel
set_option maxRecDepth 20000 in
theorem ggX5_blockAt_X5_isPlace : GoodIn wsX5_blockAt wsX5_isPlace := goodIn_r _ [6, 1, 7, 8, 5, 9, 19, 20, 21, 22, 23, 24, 25, 26, 27, 28, 29, 30, 31, 32, 33, 34, 35, 36, 37, 38, 39, 40, 41, 42, 43, 44] (by decide +kernel) (by decide +kernel)
set_option maxRecDepth 20000 in
theorem gX5_blockAt_X5_isPlace : GoodIn wsX5_blockAt (wsV RX5 149 RX5 yX5_isPlace wsX5_isPlace) := goodIn_app (goodIn_of _ (by decide +kernel)) ggX5_blockAt_X5_isPlace
set_option maxRecDepth 20000 in
theorem ggX5_blockAt_X5_endOf : GoodIn wsX5_blockAt wsX5_endOf := goodIn_r _ [13, 1, 14, 15, 16, 5, 17, 18, 19, 20, 21, 22, 23, 24, 25, 26, 27, 28, 29, 30, 31, 32, 33, 34, 35, 36, 37, 38, 39, 40, 41, 42, 43, 44] (by decide +kernel) (by decide +kernel)
set_option maxRecDepth 20000 in
theorem gX5_blockAt_X5_endOf : GoodIn wsX5_blockAt (wsV RX5 179 RX5 yX5_endOf wsX5_endOf) := goodIn_app (goodIn_of _ (by decide +kernel)) ggX5_blockAt_X5_endOf
set_option maxRecDepth 20000 in
theorem ggX5_blockAt_X5_in : GoodIn wsX5_blockAt wsX5_in := goodIn_r _ [9] (by decide +kernel) (by decide +kernel)
set_option maxRecDepth 20000 in
theorem gX5_blockAt_X5_in : GoodIn wsX5_blockAt (va_wsS RX5 75 yX5_in wsX5_in) := goodIn_app (goodIn_of _ (by decide +kernel)) ggX5_blockAt_X5_in
theorem dX5_blockAt_0 : decode cX5_blockAt 0 = .ok (.aload_n 0, 1) := by decide +kernel
theorem dX5_blockAt_1 : decode cX5_blockAt 1 = .ok (.iload_n 1, 1) := by decide +kernel
theorem dX5_blockAt_2 : decode cX5_blockAt 2 = .ok (.invokevirtual 149, 3) := by decide +kernel
theorem dX5_blockAt_5 : decode cX5_blockAt 5 = .ok (.ifCond .ne 5, 3) := by decide +kernel
theorem dX5_blockAt_8 : decode cX5_blockAt 8 = .ok (.iconst (-1), 1) := by decide +kernel
theorem dX5_blockAt_9 : decode cX5_blockAt 9 = .ok (.ireturn, 1) := by decide +kernel
theorem dX5_blockAt_10 : decode cX5_blockAt 10 = .ok (.bipush (-4), 2) := by decide +kernel
theorem dX5_blockAt_12 : decode cX5_blockAt 12 = .ok (.istore_n 2, 1) := by decide +kernel
theorem dX5_blockAt_13 : decode cX5_blockAt 13 = .ok (.iconst 0, 1) := by decide +kernel
theorem dX5_blockAt_14 : decode cX5_blockAt 14 = .ok (.istore_n 3, 1) := by decide +kernel
theorem dX5_blockAt_15 : decode cX5_blockAt 15 = .ok (.iload_n 3, 1) := by decide +kernel
theorem dX5_blockAt_16 : decode cX5_blockAt 16 = .ok (.aload_n 0, 1) := by decide +kernel
theorem dX5_blockAt_17 : decode cX5_blockAt 17 = .ok (.getfield 7, 3) := by decide +kernel
theorem dX5_blockAt_20 : decode cX5_blockAt 20 = .ok (.iconst 0, 1) := by decide +kernel
theorem dX5_blockAt_21 : decode cX5_blockAt 21 = .ok (.iaload, 1) := by decide +kernel
theorem dX5_blockAt_22 : decode cX5_blockAt 22 = .ok (.if_icmp .ge 40, 3) := by decide +kernel
theorem dX5_blockAt_25 : decode cX5_blockAt 25 = .ok (.iload_n 1, 1) := by decide +kernel
theorem dX5_blockAt_26 : decode cX5_blockAt 26 = .ok (.i2l, 1) := by decide +kernel
theorem dX5_blockAt_27 : decode cX5_blockAt 27 = .ok (.aload_n 0, 1) := by decide +kernel
theorem dX5_blockAt_28 : decode cX5_blockAt 28 = .ok (.getfield 7, 3) := by decide +kernel
theorem dX5_blockAt_31 : decode cX5_blockAt 31 = .ok (.iconst 1, 1) := by decide +kernel
theorem dX5_blockAt_32 : decode cX5_blockAt 32 = .ok (.iload_n 3, 1) := by decide +kernel
theorem dX5_blockAt_33 : decode cX5_blockAt 33 = .ok (.iadd, 1) := by decide +kernel
theorem dX5_blockAt_34 : decode cX5_blockAt 34 = .ok (.iaload, 1) := by decide +kernel
theorem dX5_blockAt_35 : decode cX5_blockAt 35 = .ok (.i2l, 1) := by decide +kernel
theorem dX5_blockAt_36 : decode cX5_blockAt 36 = .ok (.aload_n 0, 1) := by decide +kernel
theorem dX5_blockAt_37 : decode cX5_blockAt 37 = .ok (.iload_n 3, 1) := by decide +kernel
theorem dX5_blockAt_38 : decode cX5_blockAt 38 = .ok (.invokevirtual 179, 3) := by decide +kernel
theorem dX5_blockAt_41 : decode cX5_blockAt 41 = .ok (.iconst 1, 1) := by decide +kernel
theorem dX5_blockAt_42 : decode cX5_blockAt 42 = .ok (.isub, 1) := by decide +kernel
theorem dX5_blockAt_43 : decode cX5_blockAt 43 = .ok (.i2l, 1) := by decide +kernel
theorem dX5_blockAt_44 : decode cX5_blockAt 44 = .ok (.invokestatic 75, 3) := by decide +kernel
theorem dX5_blockAt_47 : decode cX5_blockAt 47 = .ok (.ifCond .eq 7, 3) := by decide +kernel
theorem dX5_blockAt_50 : decode cX5_blockAt 50 = .ok (.iload_n 3, 1) := by decide +kernel
theorem dX5_blockAt_51 : decode cX5_blockAt 51 = .ok (.goto 4, 3) := by decide +kernel
theorem dX5_blockAt_54 : decode cX5_blockAt 54 = .ok (.iload_n 2, 1) := by decide +kernel
theorem dX5_blockAt_55 : decode cX5_blockAt 55 = .ok (.istore_n 2, 1) := by decide +kernel
theorem dX5_blockAt_56 : decode cX5_blockAt 56 = .ok (.iinc 3 1, 3) := by decide +kernel
theorem dX5_blockAt_59 : decode cX5_blockAt 59 = .ok (.goto (-44), 3) := by decide +kernel
theorem dX5_blockAt_62 : decode cX5_blockAt 62 = .ok (.iload_n 2, 1) := by decide +kernel
theorem dX5_blockAt_63 : decode cX5_blockAt 63 = .ok (.ireturn, 1) := by decide +kernel
set_option maxRecDepth 20000 in
theorem ggX5_type_X5_in : GoodIn wsX5_type wsX5_in := goodIn_r _ [6] (by decide +kernel) (by decide +kernel)
set_option maxRecDepth 20000 in
theorem gX5_type_X5_in : GoodIn wsX5_type (va_wsS RX5 75 yX5_in wsX5_in) := goodIn_app (goodIn_of _ (by decide +kernel)) ggX5_type_X5_in
theorem dX5_type_0 : decode cX5_type 0 = .ok (.iload_n 1, 1) := by decide +kernel
theorem dX5_type_1 : decode cX5_type 1 = .ok (.i2l, 1) := by decide +kernel
theorem dX5_type_2 : decode cX5_type 2 = .ok (.lconst 0, 1) := by decide +kernel
theorem dX5_type_3 : decode cX5_type 3 = .ok (.ldc2_w 73, 3) := by decide +kernel
theorem dX5_type_6 : decode cX5_type 6 = .ok (.invokestatic 75, 3) := by decide +kernel
theorem dX5_type_9 : decode cX5_type 9 = .ok (.ifCond .ne 5, 3) := by decide +kernel
theorem dX5_type_12 : decode cX5_type 12 = .ok (.iconst (-1), 1) := by decide +kernel
theorem dX5_type_13 : decode cX5_type 13 = .ok (.ireturn, 1) := by decide +kernel
theorem dX5_type_14 : decode cX5_type 14 = .ok (.aload_n 0, 1) := by decide +kernel
theorem dX5_type_15 : decode cX5_type 15 = .ok (.getfield 7, 3) := by decide +kernel
theorem dX5_type_18 : decode cX5_type 18 = .ok (.sipush 327, 3) := by decide +kernel
theorem dX5_type_21 : decode cX5_type 21 = .ok (.iaload, 1) := by decide +kernel
theorem dX5_type_22 : decode cX5_type 22 = .ok (.bipush 12, 2) := by decide +kernel
theorem dX5_type_24 : decode cX5_type 24 = .ok (.if_icmp .ne 6, 3) := by decide +kernel
theorem dX5_type_27 : decode cX5_type 27 = .ok (.bipush (-3), 2) := by decide +kernel
theorem dX5_type_29 : decode cX5_type 29 = .ok (.ireturn, 1) := by decide +kernel
theorem dX5_type_30 : decode cX5_type 30 = .ok (.aload_n 0, 1) := by decide +kernel
theorem dX5_type_31 : decode cX5_type 31 = .ok (.getfield 7, 3) := by decide +kernel
theorem dX5_type_34 : decode cX5_type 34 = .ok (.sipush 328, 3) := by decide +kernel
theorem dX5_type_37 : decode cX5_type 37 = .ok (.aload_n 0, 1) := by decide +kernel
theorem dX5_type_38 : decode cX5_type 38 = .ok (.getfield 7, 3) := by decide +kernel
theorem dX5_type_41 : decode cX5_type 41 = .ok (.sipush 327, 3) := by decide +kernel
theorem dX5_type_44 : decode cX5_type 44 = .ok (.iaload, 1) := by decide +kernel
theorem dX5_type_45 : decode cX5_type 45 = .ok (.iadd, 1) := by decide +kernel
theorem dX5_type_46 : decode cX5_type 46 = .ok (.iload_n 1, 1) := by decide +kernel
theorem dX5_type_47 : decode cX5_type 47 = .ok (.iastore, 1) := by decide +kernel
theorem dX5_type_48 : decode cX5_type 48 = .ok (.aload_n 0, 1) := by decide +kernel
theorem dX5_type_49 : decode cX5_type 49 = .ok (.getfield 7, 3) := by decide +kernel
theorem dX5_type_52 : decode cX5_type 52 = .ok (.sipush 327, 3) := by decide +kernel
theorem dX5_type_55 : decode cX5_type 55 = .ok (.dup2, 1) := by decide +kernel
theorem dX5_type_56 : decode cX5_type 56 = .ok (.iaload, 1) := by decide +kernel
theorem dX5_type_57 : decode cX5_type 57 = .ok (.iconst 1, 1) := by decide +kernel
theorem dX5_type_58 : decode cX5_type 58 = .ok (.iadd, 1) := by decide +kernel
theorem dX5_type_59 : decode cX5_type 59 = .ok (.iastore, 1) := by decide +kernel
theorem dX5_type_60 : decode cX5_type 60 = .ok (.aload_n 0, 1) := by decide +kernel
theorem dX5_type_61 : decode cX5_type 61 = .ok (.getfield 7, 3) := by decide +kernel
theorem dX5_type_64 : decode cX5_type 64 = .ok (.sipush 327, 3) := by decide +kernel
theorem dX5_type_67 : decode cX5_type 67 = .ok (.iaload, 1) := by decide +kernel
theorem dX5_type_68 : decode cX5_type 68 = .ok (.ireturn, 1) := by decide +kernel
set_option maxRecDepth 20000 in
theorem ggX5_writes_X5_beginOf : GoodIn wsX5_writes wsX5_beginOf := goodIn_r _ [7, 2, 8, 9, 10, 6, 11, 1, 12, 13, 14, 15, 53, 54, 55, 56, 57, 58, 59, 60, 61, 62, 63, 64, 65, 66, 67, 68, 69, 70, 71, 72, 73, 74, 75, 76, 77, 78] (by decide +kernel) (by decide +kernel)
set_option maxRecDepth 20000 in
theorem gX5_writes_X5_beginOf : GoodIn wsX5_writes (wsV RX5 187 RX5 yX5_beginOf wsX5_beginOf) := goodIn_app (goodIn_of _ (by decide +kernel)) ggX5_writes_X5_beginOf
set_option maxRecDepth 20000 in
theorem ggX5_writes_X5_longOf : GoodIn wsX5_writes wsX5_longOf := goodIn_r _ [15, 2, 53, 54, 55, 56, 57, 58, 59, 60, 61, 62, 63, 64, 65, 66, 67, 68, 69, 70, 71, 72, 73, 74, 75, 76, 77, 78] (by decide +kernel) (by decide +kernel)
set_option maxRecDepth 20000 in
theorem gX5_writes_X5_longOf : GoodIn wsX5_writes (wsV RX5 176 RX5 yX5_longOf wsX5_longOf) := goodIn_app (goodIn_of _ (by decide +kernel)) ggX5_writes_X5_longOf
set_option maxRecDepth 20000 in
theorem ggX5_writes_X5_goesTo : GoodIn wsX5_writes wsX5_goesTo := goodIn_r _ [19, 1, 20, 21, 22, 6, 23, 24, 25, 26, 27, 2, 28, 29, 30, 31, 32, 33, 34, 35, 36, 37, 38, 39, 40, 41, 42, 43, 44, 53, 54, 55, 56, 57, 58, 59, 60, 61, 62, 63, 64, 65, 66, 67, 68, 69, 70, 71, 72, 73, 74, 75, 76, 77, 78] (by decide +kernel) (by decide +kernel)
set_option maxRecDepth 20000 in
theorem gX5_writes_X5_goesTo : GoodIn wsX5_writes (wsV RX5 173 RX5 yX5_goesTo wsX5_goesTo) := goodIn_app (goodIn_of _ (by decide +kernel)) ggX5_writes_X5_goesTo
set_option maxRecDepth 20000 in
theorem ggX5_writes_X5_lays : GoodIn wsX5_writes wsX5_lays := goodIn_r _ [48, 1, 49, 3, 4, 5, 6, 7, 2, 8, 9, 10, 11, 12, 13, 14, 15, 50, 51, 52, 53, 54, 55, 56, 57, 58, 59, 60, 61, 62, 63, 64, 65, 66, 67, 68, 69, 70, 71, 72, 73, 74, 75, 76, 77, 78] (by decide +kernel) (by decide +kernel)
set_option maxRecDepth 20000 in
theorem gX5_writes_X5_lays : GoodIn wsX5_writes (wsV RX5 66 RX5 yX5_lays wsX5_lays) := goodIn_app (goodIn_of _ (by decide +kernel)) ggX5_writes_X5_lays
set_option maxRecDepth 20000 in
theorem ggX5_writes_X5_endOf : GoodIn wsX5_writes wsX5_endOf := goodIn_r _ [11, 1, 12, 13, 14, 6, 15, 2, 53, 54, 55, 56, 57, 58, 59, 60, 61, 62, 63, 64, 65, 66, 67, 68, 69, 70, 71, 72, 73, 74, 75, 76, 77, 78] (by decide +kernel) (by decide +kernel)
set_option maxRecDepth 20000 in
theorem gX5_writes_X5_endOf : GoodIn wsX5_writes (wsV RX5 179 RX5 yX5_endOf wsX5_endOf) := goodIn_app (goodIn_of _ (by decide +kernel)) ggX5_writes_X5_endOf
theorem dX5_writes_0 : decode cX5_writes 0 = .ok (.iload_n 1, 1) := by decide +kernel
theorem dX5_writes_1 : decode cX5_writes 1 = .ok (.bipush 12, 2) := by decide +kernel
theorem dX5_writes_3 : decode cX5_writes 3 = .ok (.if_icmp .eq 25, 3) := by decide +kernel
theorem dX5_writes_6 : decode cX5_writes 6 = .ok (.aload_n 0, 1) := by decide +kernel
theorem dX5_writes_7 : decode cX5_writes 7 = .ok (.iload_n 1, 1) := by decide +kernel
theorem dX5_writes_8 : decode cX5_writes 8 = .ok (.invokevirtual 187, 3) := by decide +kernel
theorem dX5_writes_11 : decode cX5_writes 11 = .ok (.aload_n 0, 1) := by decide +kernel
theorem dX5_writes_12 : decode cX5_writes 12 = .ok (.iload_n 2, 1) := by decide +kernel
theorem dX5_writes_13 : decode cX5_writes 13 = .ok (.invokevirtual 176, 3) := by decide +kernel
theorem dX5_writes_16 : decode cX5_writes 16 = .ok (.iadd, 1) := by decide +kernel
theorem dX5_writes_17 : decode cX5_writes 17 = .ok (.aload_n 0, 1) := by decide +kernel
theorem dX5_writes_18 : decode cX5_writes 18 = .ok (.getfield 7, 3) := by decide +kernel
theorem dX5_writes_21 : decode cX5_writes 21 = .ok (.sipush 366, 3) := by decide +kernel
theorem dX5_writes_24 : decode cX5_writes 24 = .ok (.iaload, 1) := by decide +kernel
theorem dX5_writes_25 : decode cX5_writes 25 = .ok (.if_icmp .le 6, 3) := by decide +kernel
theorem dX5_writes_28 : decode cX5_writes 28 = .ok (.bipush (-3), 2) := by decide +kernel
theorem dX5_writes_30 : decode cX5_writes 30 = .ok (.ireturn, 1) := by decide +kernel
theorem dX5_writes_31 : decode cX5_writes 31 = .ok (.aload_n 0, 1) := by decide +kernel
theorem dX5_writes_32 : decode cX5_writes 32 = .ok (.getfield 7, 3) := by decide +kernel
theorem dX5_writes_35 : decode cX5_writes 35 = .ok (.iconst 0, 1) := by decide +kernel
theorem dX5_writes_36 : decode cX5_writes 36 = .ok (.iload_n 1, 1) := by decide +kernel
theorem dX5_writes_37 : decode cX5_writes 37 = .ok (.iastore, 1) := by decide +kernel
theorem dX5_writes_38 : decode cX5_writes 38 = .ok (.aload_n 0, 1) := by decide +kernel
theorem dX5_writes_39 : decode cX5_writes 39 = .ok (.aload_n 0, 1) := by decide +kernel
theorem dX5_writes_40 : decode cX5_writes 40 = .ok (.iload_n 1, 1) := by decide +kernel
theorem dX5_writes_41 : decode cX5_writes 41 = .ok (.invokevirtual 187, 3) := by decide +kernel
theorem dX5_writes_44 : decode cX5_writes 44 = .ok (.invokevirtual 173, 3) := by decide +kernel
theorem dX5_writes_47 : decode cX5_writes 47 = .ok (.aload_n 0, 1) := by decide +kernel
theorem dX5_writes_48 : decode cX5_writes 48 = .ok (.getfield 17, 3) := by decide +kernel
theorem dX5_writes_51 : decode cX5_writes 51 = .ok (.iconst 3, 1) := by decide +kernel
theorem dX5_writes_52 : decode cX5_writes 52 = .ok (.iaload, 1) := by decide +kernel
theorem dX5_writes_53 : decode cX5_writes 53 = .ok (.aload_n 0, 1) := by decide +kernel
theorem dX5_writes_54 : decode cX5_writes 54 = .ok (.iload_n 2, 1) := by decide +kernel
theorem dX5_writes_55 : decode cX5_writes 55 = .ok (.invokevirtual 176, 3) := by decide +kernel
theorem dX5_writes_58 : decode cX5_writes 58 = .ok (.imul, 1) := by decide +kernel
theorem dX5_writes_59 : decode cX5_writes 59 = .ok (.iadd, 1) := by decide +kernel
theorem dX5_writes_60 : decode cX5_writes 60 = .ok (.istore_n 3, 1) := by decide +kernel
theorem dX5_writes_61 : decode cX5_writes 61 = .ok (.aload_n 0, 1) := by decide +kernel
theorem dX5_writes_62 : decode cX5_writes 62 = .ok (.iload_n 2, 1) := by decide +kernel
theorem dX5_writes_63 : decode cX5_writes 63 = .ok (.invokevirtual 66, 3) := by decide +kernel
theorem dX5_writes_66 : decode cX5_writes 66 = .ok (.aload_n 0, 1) := by decide +kernel
theorem dX5_writes_67 : decode cX5_writes 67 = .ok (.getfield 7, 3) := by decide +kernel
theorem dX5_writes_70 : decode cX5_writes 70 = .ok (.sipush 326, 3) := by decide +kernel
theorem dX5_writes_73 : decode cX5_writes 73 = .ok (.dup2, 1) := by decide +kernel
theorem dX5_writes_74 : decode cX5_writes 74 = .ok (.iaload, 1) := by decide +kernel
theorem dX5_writes_75 : decode cX5_writes 75 = .ok (.aload_n 0, 1) := by decide +kernel
theorem dX5_writes_76 : decode cX5_writes 76 = .ok (.getfield 17, 3) := by decide +kernel
theorem dX5_writes_79 : decode cX5_writes 79 = .ok (.iconst 3, 1) := by decide +kernel
theorem dX5_writes_80 : decode cX5_writes 80 = .ok (.iaload, 1) := by decide +kernel
theorem dX5_writes_81 : decode cX5_writes 81 = .ok (.aload_n 0, 1) := by decide +kernel
theorem dX5_writes_82 : decode cX5_writes 82 = .ok (.iload_n 2, 1) := by decide +kernel
theorem dX5_writes_83 : decode cX5_writes 83 = .ok (.invokevirtual 176, 3) := by decide +kernel
theorem dX5_writes_86 : decode cX5_writes 86 = .ok (.imul, 1) := by decide +kernel
theorem dX5_writes_87 : decode cX5_writes 87 = .ok (.iadd, 1) := by decide +kernel
theorem dX5_writes_88 : decode cX5_writes 88 = .ok (.iastore, 1) := by decide +kernel
theorem dX5_writes_89 : decode cX5_writes 89 = .ok (.aload_n 0, 1) := by decide +kernel
theorem dX5_writes_90 : decode cX5_writes 90 = .ok (.getfield 7, 3) := by decide +kernel
theorem dX5_writes_93 : decode cX5_writes 93 = .ok (.sipush 325, 3) := by decide +kernel
theorem dX5_writes_96 : decode cX5_writes 96 = .ok (.aload_n 0, 1) := by decide +kernel
theorem dX5_writes_97 : decode cX5_writes 97 = .ok (.iload_n 1, 1) := by decide +kernel
theorem dX5_writes_98 : decode cX5_writes 98 = .ok (.invokevirtual 179, 3) := by decide +kernel
theorem dX5_writes_101 : decode cX5_writes 101 = .ok (.iastore, 1) := by decide +kernel
theorem dX5_writes_102 : decode cX5_writes 102 = .ok (.iload_n 3, 1) := by decide +kernel
theorem dX5_writes_103 : decode cX5_writes 103 = .ok (.ireturn, 1) := by decide +kernel
set_option maxRecDepth 20000 in
theorem ggX5_write_X5_in : GoodIn wsX5_write wsX5_in := goodIn_r _ [6] (by decide +kernel) (by decide +kernel)
set_option maxRecDepth 20000 in
theorem gX5_write_X5_in : GoodIn wsX5_write (va_wsS RX5 75 yX5_in wsX5_in) := goodIn_app (goodIn_of _ (by decide +kernel)) ggX5_write_X5_in
set_option maxRecDepth 20000 in
theorem ggX5_write_X5_writes : GoodIn wsX5_write wsX5_writes := goodIn_r _ [10, 1, 11, 12, 13, 14, 5, 15, 16, 17, 18, 19, 20, 21, 22, 23, 24, 25, 26, 27, 28, 29, 30, 31, 32, 33, 34, 35, 36, 37, 38, 39, 40, 41, 42, 43, 44, 45, 46, 47, 48, 49, 50, 51, 52, 53, 54, 55, 56, 2, 57, 58, 59, 60, 61, 62, 63, 64, 65, 66, 67, 68, 69, 70, 71, 72, 73, 74, 75, 76, 77, 78, 79, 80, 81, 82, 83, 84, 85] (by decide +kernel) (by decide +kernel)
set_option maxRecDepth 20000 in
theorem gX5_write_X5_writes : GoodIn wsX5_write (wsV RX5 199 RX5 yX5_writes wsX5_writes) := goodIn_app (goodIn_of _ (by decide +kernel)) ggX5_write_X5_writes
theorem dX5_write_0 : decode cX5_write 0 = .ok (.iload_n 1, 1) := by decide +kernel
theorem dX5_write_1 : decode cX5_write 1 = .ok (.i2l, 1) := by decide +kernel
theorem dX5_write_2 : decode cX5_write 2 = .ok (.lconst 0, 1) := by decide +kernel
theorem dX5_write_3 : decode cX5_write 3 = .ok (.aload_n 0, 1) := by decide +kernel
theorem dX5_write_4 : decode cX5_write 4 = .ok (.getfield 7, 3) := by decide +kernel
theorem dX5_write_7 : decode cX5_write 7 = .ok (.iconst 0, 1) := by decide +kernel
theorem dX5_write_8 : decode cX5_write 8 = .ok (.iaload, 1) := by decide +kernel
theorem dX5_write_9 : decode cX5_write 9 = .ok (.i2l, 1) := by decide +kernel
theorem dX5_write_10 : decode cX5_write 10 = .ok (.invokestatic 75, 3) := by decide +kernel
theorem dX5_write_13 : decode cX5_write 13 = .ok (.ifCond .ne 5, 3) := by decide +kernel
theorem dX5_write_16 : decode cX5_write 16 = .ok (.iconst (-1), 1) := by decide +kernel
theorem dX5_write_17 : decode cX5_write 17 = .ok (.ireturn, 1) := by decide +kernel
theorem dX5_write_18 : decode cX5_write 18 = .ok (.aload_n 0, 1) := by decide +kernel
theorem dX5_write_19 : decode cX5_write 19 = .ok (.getfield 7, 3) := by decide +kernel
theorem dX5_write_22 : decode cX5_write 22 = .ok (.sipush 327, 3) := by decide +kernel
theorem dX5_write_25 : decode cX5_write 25 = .ok (.iaload, 1) := by decide +kernel
theorem dX5_write_26 : decode cX5_write 26 = .ok (.ifCond .ne 6, 3) := by decide +kernel
theorem dX5_write_29 : decode cX5_write 29 = .ok (.bipush (-2), 2) := by decide +kernel
theorem dX5_write_31 : decode cX5_write 31 = .ok (.ireturn, 1) := by decide +kernel
theorem dX5_write_32 : decode cX5_write 32 = .ok (.iconst 0, 1) := by decide +kernel
theorem dX5_write_33 : decode cX5_write 33 = .ok (.istore_n 2, 1) := by decide +kernel
theorem dX5_write_34 : decode cX5_write 34 = .ok (.iload_n 2, 1) := by decide +kernel
theorem dX5_write_35 : decode cX5_write 35 = .ok (.aload_n 0, 1) := by decide +kernel
theorem dX5_write_36 : decode cX5_write 36 = .ok (.getfield 7, 3) := by decide +kernel
theorem dX5_write_39 : decode cX5_write 39 = .ok (.sipush 327, 3) := by decide +kernel
theorem dX5_write_42 : decode cX5_write 42 = .ok (.iaload, 1) := by decide +kernel
theorem dX5_write_43 : decode cX5_write 43 = .ok (.if_icmp .ge 25, 3) := by decide +kernel
theorem dX5_write_46 : decode cX5_write 46 = .ok (.aload_n 0, 1) := by decide +kernel
theorem dX5_write_47 : decode cX5_write 47 = .ok (.getfield 32, 3) := by decide +kernel
theorem dX5_write_50 : decode cX5_write 50 = .ok (.iload_n 2, 1) := by decide +kernel
theorem dX5_write_51 : decode cX5_write 51 = .ok (.aload_n 0, 1) := by decide +kernel
theorem dX5_write_52 : decode cX5_write 52 = .ok (.getfield 7, 3) := by decide +kernel
theorem dX5_write_55 : decode cX5_write 55 = .ok (.sipush 328, 3) := by decide +kernel
theorem dX5_write_58 : decode cX5_write 58 = .ok (.iload_n 2, 1) := by decide +kernel
theorem dX5_write_59 : decode cX5_write 59 = .ok (.iadd, 1) := by decide +kernel
theorem dX5_write_60 : decode cX5_write 60 = .ok (.iaload, 1) := by decide +kernel
theorem dX5_write_61 : decode cX5_write 61 = .ok (.iastore, 1) := by decide +kernel
theorem dX5_write_62 : decode cX5_write 62 = .ok (.iinc 2 1, 3) := by decide +kernel
theorem dX5_write_65 : decode cX5_write 65 = .ok (.goto (-31), 3) := by decide +kernel
theorem dX5_write_68 : decode cX5_write 68 = .ok (.aload_n 0, 1) := by decide +kernel
theorem dX5_write_69 : decode cX5_write 69 = .ok (.iload_n 1, 1) := by decide +kernel
theorem dX5_write_70 : decode cX5_write 70 = .ok (.aload_n 0, 1) := by decide +kernel
theorem dX5_write_71 : decode cX5_write 71 = .ok (.getfield 7, 3) := by decide +kernel
theorem dX5_write_74 : decode cX5_write 74 = .ok (.sipush 327, 3) := by decide +kernel
theorem dX5_write_77 : decode cX5_write 77 = .ok (.iaload, 1) := by decide +kernel
theorem dX5_write_78 : decode cX5_write 78 = .ok (.invokevirtual 199, 3) := by decide +kernel
theorem dX5_write_81 : decode cX5_write 81 = .ok (.istore_n 2, 1) := by decide +kernel
theorem dX5_write_82 : decode cX5_write 82 = .ok (.aload_n 0, 1) := by decide +kernel
theorem dX5_write_83 : decode cX5_write 83 = .ok (.getfield 7, 3) := by decide +kernel
theorem dX5_write_86 : decode cX5_write 86 = .ok (.sipush 327, 3) := by decide +kernel
theorem dX5_write_89 : decode cX5_write 89 = .ok (.iload_n 2, 1) := by decide +kernel
theorem dX5_write_90 : decode cX5_write 90 = .ok (.ifCond .ge 14, 3) := by decide +kernel
theorem dX5_write_93 : decode cX5_write 93 = .ok (.aload_n 0, 1) := by decide +kernel
theorem dX5_write_94 : decode cX5_write 94 = .ok (.getfield 7, 3) := by decide +kernel
theorem dX5_write_97 : decode cX5_write 97 = .ok (.sipush 327, 3) := by decide +kernel
theorem dX5_write_100 : decode cX5_write 100 = .ok (.iaload, 1) := by decide +kernel
theorem dX5_write_101 : decode cX5_write 101 = .ok (.goto 4, 3) := by decide +kernel
theorem dX5_write_104 : decode cX5_write 104 = .ok (.iconst 0, 1) := by decide +kernel
theorem dX5_write_105 : decode cX5_write 105 = .ok (.iastore, 1) := by decide +kernel
theorem dX5_write_106 : decode cX5_write 106 = .ok (.iload_n 2, 1) := by decide +kernel
theorem dX5_write_107 : decode cX5_write 107 = .ok (.ireturn, 1) := by decide +kernel
set_option maxRecDepth 20000 in
theorem ggX5_mark_X5_in : GoodIn wsX5_mark wsX5_in := goodIn_r _ [5] (by decide +kernel) (by decide +kernel)
set_option maxRecDepth 20000 in
theorem gX5_mark_X5_in : GoodIn wsX5_mark (va_wsS RX5 75 yX5_in wsX5_in) := goodIn_app (goodIn_of _ (by decide +kernel)) ggX5_mark_X5_in
set_option maxRecDepth 20000 in
theorem ggX5_mark_X5_writes : GoodIn wsX5_mark wsX5_writes := goodIn_r _ [9, 1, 10, 11, 12, 13, 4, 14, 15, 16, 17, 18, 19, 20, 21, 22, 23, 24, 25, 26, 27, 28, 29, 30, 31, 32, 33, 34, 35, 36, 37, 38, 39, 40, 41, 42, 43, 44, 45, 46, 47, 48, 49, 50, 51, 52, 53, 54, 55, 56, 57, 58, 59, 60, 61, 62, 63, 64, 65, 66, 67, 68, 69, 70, 71, 72, 73, 74, 75, 76, 77, 78, 79, 80, 81, 82, 83, 84, 85] (by decide +kernel) (by decide +kernel)
set_option maxRecDepth 20000 in
theorem gX5_mark_X5_writes : GoodIn wsX5_mark (wsV RX5 199 RX5 yX5_writes wsX5_writes) := goodIn_app (goodIn_of _ (by decide +kernel)) ggX5_mark_X5_writes
theorem dX5_mark_0 : decode cX5_mark 0 = .ok (.iload_n 1, 1) := by decide +kernel
theorem dX5_mark_1 : decode cX5_mark 1 = .ok (.i2l, 1) := by decide +kernel
theorem dX5_mark_2 : decode cX5_mark 2 = .ok (.lconst 0, 1) := by decide +kernel
theorem dX5_mark_3 : decode cX5_mark 3 = .ok (.aload_n 0, 1) := by decide +kernel
theorem dX5_mark_4 : decode cX5_mark 4 = .ok (.getfield 7, 3) := by decide +kernel
theorem dX5_mark_7 : decode cX5_mark 7 = .ok (.iconst 0, 1) := by decide +kernel
theorem dX5_mark_8 : decode cX5_mark 8 = .ok (.iaload, 1) := by decide +kernel
theorem dX5_mark_9 : decode cX5_mark 9 = .ok (.i2l, 1) := by decide +kernel
theorem dX5_mark_10 : decode cX5_mark 10 = .ok (.invokestatic 75, 3) := by decide +kernel
theorem dX5_mark_13 : decode cX5_mark 13 = .ok (.ifCond .eq 12, 3) := by decide +kernel
theorem dX5_mark_16 : decode cX5_mark 16 = .ok (.aload_n 0, 1) := by decide +kernel
theorem dX5_mark_17 : decode cX5_mark 17 = .ok (.iload_n 1, 1) := by decide +kernel
theorem dX5_mark_18 : decode cX5_mark 18 = .ok (.iconst 0, 1) := by decide +kernel
theorem dX5_mark_19 : decode cX5_mark 19 = .ok (.invokevirtual 199, 3) := by decide +kernel
theorem dX5_mark_22 : decode cX5_mark 22 = .ok (.goto 4, 3) := by decide +kernel
theorem dX5_mark_25 : decode cX5_mark 25 = .ok (.iconst (-1), 1) := by decide +kernel
theorem dX5_mark_26 : decode cX5_mark 26 = .ok (.ireturn, 1) := by decide +kernel
set_option maxRecDepth 20000 in
theorem ggX5_isTrack_X5_in : GoodIn wsX5_isTrack wsX5_in := goodIn_r _ [5] (by decide +kernel) (by decide +kernel)
set_option maxRecDepth 20000 in
theorem gX5_isTrack_X5_in : GoodIn wsX5_isTrack (va_wsS RX5 75 yX5_in wsX5_in) := goodIn_app (goodIn_of _ (by decide +kernel)) ggX5_isTrack_X5_in
theorem dX5_isTrack_0 : decode cX5_isTrack 0 = .ok (.iload_n 0, 1) := by decide +kernel
theorem dX5_isTrack_1 : decode cX5_isTrack 1 = .ok (.i2l, 1) := by decide +kernel
theorem dX5_isTrack_2 : decode cX5_isTrack 2 = .ok (.lconst 0, 1) := by decide +kernel
theorem dX5_isTrack_3 : decode cX5_isTrack 3 = .ok (.ldc2_w 143, 3) := by decide +kernel
theorem dX5_isTrack_6 : decode cX5_isTrack 6 = .ok (.invokestatic 75, 3) := by decide +kernel
theorem dX5_isTrack_9 : decode cX5_isTrack 9 = .ok (.ireturn, 1) := by decide +kernel
set_option maxRecDepth 20000 in
theorem ggX5_isColumn_X5_isBlock : GoodIn wsX5_isColumn wsX5_isBlock := goodIn_r _ [6, 1, 7, 8, 5, 9, 10, 11, 12, 13, 14, 15, 16, 17, 18, 19, 20, 21, 22, 23, 24, 25, 26, 27, 28, 29, 30, 31, 32, 33, 34, 35] (by decide +kernel) (by decide +kernel)
set_option maxRecDepth 20000 in
theorem gX5_isColumn_X5_isBlock : GoodIn wsX5_isColumn (wsV RX5 193 RX5 yX5_isBlock wsX5_isBlock) := goodIn_app (goodIn_of _ (by decide +kernel)) ggX5_isColumn_X5_isBlock
set_option maxRecDepth 20000 in
theorem ggX5_isColumn_X5_in : GoodIn wsX5_isColumn wsX5_in := goodIn_r _ [9] (by decide +kernel) (by decide +kernel)
set_option maxRecDepth 20000 in
theorem gX5_isColumn_X5_in : GoodIn wsX5_isColumn (va_wsS RX5 75 yX5_in wsX5_in) := goodIn_app (goodIn_of _ (by decide +kernel)) ggX5_isColumn_X5_in
theorem dX5_isColumn_0 : decode cX5_isColumn 0 = .ok (.aload_n 0, 1) := by decide +kernel
theorem dX5_isColumn_1 : decode cX5_isColumn 1 = .ok (.iload_n 1, 1) := by decide +kernel
theorem dX5_isColumn_2 : decode cX5_isColumn 2 = .ok (.invokevirtual 193, 3) := by decide +kernel
theorem dX5_isColumn_5 : decode cX5_isColumn 5 = .ok (.ifCond .eq 38, 3) := by decide +kernel
theorem dX5_isColumn_8 : decode cX5_isColumn 8 = .ok (.aload_n 0, 1) := by decide +kernel
theorem dX5_isColumn_9 : decode cX5_isColumn 9 = .ok (.getfield 7, 3) := by decide +kernel
theorem dX5_isColumn_12 : decode cX5_isColumn 12 = .ok (.bipush 13, 2) := by decide +kernel
theorem dX5_isColumn_14 : decode cX5_isColumn 14 = .ok (.iload_n 1, 1) := by decide +kernel
theorem dX5_isColumn_15 : decode cX5_isColumn 15 = .ok (.iadd, 1) := by decide +kernel
theorem dX5_isColumn_16 : decode cX5_isColumn 16 = .ok (.iaload, 1) := by decide +kernel
theorem dX5_isColumn_17 : decode cX5_isColumn 17 = .ok (.ifCond .le 26, 3) := by decide +kernel
theorem dX5_isColumn_20 : decode cX5_isColumn 20 = .ok (.iload_n 2, 1) := by decide +kernel
theorem dX5_isColumn_21 : decode cX5_isColumn 21 = .ok (.i2l, 1) := by decide +kernel
theorem dX5_isColumn_22 : decode cX5_isColumn 22 = .ok (.lconst 0, 1) := by decide +kernel
theorem dX5_isColumn_23 : decode cX5_isColumn 23 = .ok (.aload_n 0, 1) := by decide +kernel
theorem dX5_isColumn_24 : decode cX5_isColumn 24 = .ok (.getfield 7, 3) := by decide +kernel
theorem dX5_isColumn_27 : decode cX5_isColumn 27 = .ok (.bipush 13, 2) := by decide +kernel
theorem dX5_isColumn_29 : decode cX5_isColumn 29 = .ok (.iload_n 1, 1) := by decide +kernel
theorem dX5_isColumn_30 : decode cX5_isColumn 30 = .ok (.iadd, 1) := by decide +kernel
theorem dX5_isColumn_31 : decode cX5_isColumn 31 = .ok (.iaload, 1) := by decide +kernel
theorem dX5_isColumn_32 : decode cX5_isColumn 32 = .ok (.i2l, 1) := by decide +kernel
theorem dX5_isColumn_33 : decode cX5_isColumn 33 = .ok (.invokestatic 75, 3) := by decide +kernel
theorem dX5_isColumn_36 : decode cX5_isColumn 36 = .ok (.ifCond .eq 7, 3) := by decide +kernel
theorem dX5_isColumn_39 : decode cX5_isColumn 39 = .ok (.iconst 1, 1) := by decide +kernel
theorem dX5_isColumn_40 : decode cX5_isColumn 40 = .ok (.goto 4, 3) := by decide +kernel
theorem dX5_isColumn_43 : decode cX5_isColumn 43 = .ok (.iconst 0, 1) := by decide +kernel
theorem dX5_isColumn_44 : decode cX5_isColumn 44 = .ok (.ireturn, 1) := by decide +kernel
set_option maxRecDepth 20000 in
theorem ggX5_spoil_X5_isColumn : GoodIn wsX5_spoil wsX5_isColumn := goodIn_r _ [6, 1, 7, 8, 9, 5, 10, 11, 12, 13, 22, 23, 24, 25, 26, 27, 28, 29, 30, 31, 32, 33, 34, 35, 36, 37, 38, 39, 40, 41, 42, 43, 44, 45, 46, 47] (by decide +kernel) (by decide +kernel)
set_option maxRecDepth 20000 in
theorem gX5_spoil_X5_isColumn : GoodIn wsX5_spoil (wsV RX5 202 RX5 yX5_isColumn wsX5_isColumn) := goodIn_app (goodIn_of _ (by decide +kernel)) ggX5_spoil_X5_isColumn
set_option maxRecDepth 20000 in
theorem ggX5_spoil_X5_isTrack : GoodIn wsX5_spoil wsX5_isTrack := goodIn_r _ [16, 17, 11, 12, 5, 13] (by decide +kernel) (by decide +kernel)
set_option maxRecDepth 20000 in
theorem gX5_spoil_X5_isTrack : GoodIn wsX5_spoil (va_wsS RX5 206 yX5_isTrack wsX5_isTrack) := goodIn_app (goodIn_of _ (by decide +kernel)) ggX5_spoil_X5_isTrack
set_option maxRecDepth 20000 in
theorem ggX5_spoil_X5_columnOf : GoodIn wsX5_spoil wsX5_columnOf := goodIn_r _ [21, 1, 22, 23, 24, 25, 26, 27, 28, 29, 30, 31, 32, 33, 34, 35, 36, 37, 38, 39, 40, 41, 42, 43, 44, 45, 46, 47] (by decide +kernel) (by decide +kernel)
set_option maxRecDepth 20000 in
theorem gX5_spoil_X5_columnOf : GoodIn wsX5_spoil (wsV RX5 196 RX5 yX5_columnOf wsX5_columnOf) := goodIn_app (goodIn_of _ (by decide +kernel)) ggX5_spoil_X5_columnOf
theorem dX5_spoil_0 : decode cX5_spoil 0 = .ok (.aload_n 0, 1) := by decide +kernel
theorem dX5_spoil_1 : decode cX5_spoil 1 = .ok (.iload_n 1, 1) := by decide +kernel
theorem dX5_spoil_2 : decode cX5_spoil 2 = .ok (.iload_n 2, 1) := by decide +kernel
theorem dX5_spoil_3 : decode cX5_spoil 3 = .ok (.invokevirtual 202, 3) := by decide +kernel
theorem dX5_spoil_6 : decode cX5_spoil 6 = .ok (.ifCond .eq 10, 3) := by decide +kernel
theorem dX5_spoil_9 : decode cX5_spoil 9 = .ok (.iload_n 3, 1) := by decide +kernel
theorem dX5_spoil_10 : decode cX5_spoil 10 = .ok (.invokestatic 206, 3) := by decide +kernel
theorem dX5_spoil_13 : decode cX5_spoil 13 = .ok (.ifCond .ne 5, 3) := by decide +kernel
theorem dX5_spoil_16 : decode cX5_spoil 16 = .ok (.iconst (-1), 1) := by decide +kernel
theorem dX5_spoil_17 : decode cX5_spoil 17 = .ok (.ireturn, 1) := by decide +kernel
theorem dX5_spoil_18 : decode cX5_spoil 18 = .ok (.aload_n 0, 1) := by decide +kernel
theorem dX5_spoil_19 : decode cX5_spoil 19 = .ok (.getfield 7, 3) := by decide +kernel
theorem dX5_spoil_22 : decode cX5_spoil 22 = .ok (.bipush 25, 2) := by decide +kernel
theorem dX5_spoil_24 : decode cX5_spoil 24 = .ok (.bipush 13, 2) := by decide +kernel
theorem dX5_spoil_26 : decode cX5_spoil 26 = .ok (.iload_n 1, 1) := by decide +kernel
theorem dX5_spoil_27 : decode cX5_spoil 27 = .ok (.imul, 1) := by decide +kernel
theorem dX5_spoil_28 : decode cX5_spoil 28 = .ok (.iadd, 1) := by decide +kernel
theorem dX5_spoil_29 : decode cX5_spoil 29 = .ok (.iload_n 2, 1) := by decide +kernel
theorem dX5_spoil_30 : decode cX5_spoil 30 = .ok (.iadd, 1) := by decide +kernel
theorem dX5_spoil_31 : decode cX5_spoil 31 = .ok (.dup2, 1) := by decide +kernel
theorem dX5_spoil_32 : decode cX5_spoil 32 = .ok (.iaload, 1) := by decide +kernel
theorem dX5_spoil_33 : decode cX5_spoil 33 = .ok (.iconst 1, 1) := by decide +kernel
theorem dX5_spoil_34 : decode cX5_spoil 34 = .ok (.iload_n 3, 1) := by decide +kernel
theorem dX5_spoil_35 : decode cX5_spoil 35 = .ok (.ishl, 1) := by decide +kernel
theorem dX5_spoil_36 : decode cX5_spoil 36 = .ok (.ixor, 1) := by decide +kernel
theorem dX5_spoil_37 : decode cX5_spoil 37 = .ok (.iastore, 1) := by decide +kernel
theorem dX5_spoil_38 : decode cX5_spoil 38 = .ok (.aload_n 0, 1) := by decide +kernel
theorem dX5_spoil_39 : decode cX5_spoil 39 = .ok (.iload_n 1, 1) := by decide +kernel
theorem dX5_spoil_40 : decode cX5_spoil 40 = .ok (.iload_n 2, 1) := by decide +kernel
theorem dX5_spoil_41 : decode cX5_spoil 41 = .ok (.invokevirtual 196, 3) := by decide +kernel
theorem dX5_spoil_44 : decode cX5_spoil 44 = .ok (.ireturn, 1) := by decide +kernel
set_option maxRecDepth 20000 in
theorem ggX5_dead_X5_isTrack : GoodIn wsX5_dead wsX5_isTrack := goodIn_r _ [5, 6, 7, 8, 4, 9] (by decide +kernel) (by decide +kernel)
set_option maxRecDepth 20000 in
theorem gX5_dead_X5_isTrack : GoodIn wsX5_dead (va_wsS RX5 206 yX5_isTrack wsX5_isTrack) := goodIn_app (goodIn_of _ (by decide +kernel)) ggX5_dead_X5_isTrack
theorem dX5_dead_0 : decode cX5_dead 0 = .ok (.iload_n 1, 1) := by decide +kernel
theorem dX5_dead_1 : decode cX5_dead 1 = .ok (.bipush (-4), 2) := by decide +kernel
theorem dX5_dead_3 : decode cX5_dead 3 = .ok (.if_icmp .eq 12, 3) := by decide +kernel
theorem dX5_dead_6 : decode cX5_dead 6 = .ok (.iload_n 1, 1) := by decide +kernel
theorem dX5_dead_7 : decode cX5_dead 7 = .ok (.invokestatic 206, 3) := by decide +kernel
theorem dX5_dead_10 : decode cX5_dead 10 = .ok (.ifCond .ne 5, 3) := by decide +kernel
theorem dX5_dead_13 : decode cX5_dead 13 = .ok (.iconst (-1), 1) := by decide +kernel
theorem dX5_dead_14 : decode cX5_dead 14 = .ok (.ireturn, 1) := by decide +kernel
theorem dX5_dead_15 : decode cX5_dead 15 = .ok (.aload_n 0, 1) := by decide +kernel
theorem dX5_dead_16 : decode cX5_dead 16 = .ok (.getfield 7, 3) := by decide +kernel
theorem dX5_dead_19 : decode cX5_dead 19 = .ok (.sipush 340, 3) := by decide +kernel
theorem dX5_dead_22 : decode cX5_dead 22 = .ok (.iaload, 1) := by decide +kernel
theorem dX5_dead_23 : decode cX5_dead 23 = .ok (.istore_n 2, 1) := by decide +kernel
theorem dX5_dead_24 : decode cX5_dead 24 = .ok (.aload_n 0, 1) := by decide +kernel
theorem dX5_dead_25 : decode cX5_dead 25 = .ok (.getfield 7, 3) := by decide +kernel
theorem dX5_dead_28 : decode cX5_dead 28 = .ok (.sipush 340, 3) := by decide +kernel
theorem dX5_dead_31 : decode cX5_dead 31 = .ok (.iload_n 1, 1) := by decide +kernel
theorem dX5_dead_32 : decode cX5_dead 32 = .ok (.iastore, 1) := by decide +kernel
theorem dX5_dead_33 : decode cX5_dead 33 = .ok (.iload_n 2, 1) := by decide +kernel
theorem dX5_dead_34 : decode cX5_dead 34 = .ok (.ireturn, 1) := by decide +kernel
set_option maxRecDepth 20000 in
theorem ggX5_across_X5_columnOf : GoodIn wsX5_across wsX5_columnOf := goodIn_r _ [6, 1, 7, 8, 9, 10, 11, 12, 13, 14, 15, 16, 17, 18, 19, 20, 21, 22, 23, 24, 25, 26, 27, 28, 29, 30, 31, 32] (by decide +kernel) (by decide +kernel)
set_option maxRecDepth 20000 in
theorem gX5_across_X5_columnOf : GoodIn wsX5_across (wsV RX5 196 RX5 yX5_columnOf wsX5_columnOf) := goodIn_app (goodIn_of _ (by decide +kernel)) ggX5_across_X5_columnOf
theorem dX5_across_0 : decode cX5_across 0 = .ok (.iconst 0, 1) := by decide +kernel
theorem dX5_across_1 : decode cX5_across 1 = .ok (.istore_n 2, 1) := by decide +kernel
theorem dX5_across_2 : decode cX5_across 2 = .ok (.iconst 0, 1) := by decide +kernel
theorem dX5_across_3 : decode cX5_across 3 = .ok (.istore_n 3, 1) := by decide +kernel
theorem dX5_across_4 : decode cX5_across 4 = .ok (.iload_n 3, 1) := by decide +kernel
theorem dX5_across_5 : decode cX5_across 5 = .ok (.aload_n 0, 1) := by decide +kernel
theorem dX5_across_6 : decode cX5_across 6 = .ok (.getfield 7, 3) := by decide +kernel
theorem dX5_across_9 : decode cX5_across 9 = .ok (.bipush 13, 2) := by decide +kernel
theorem dX5_across_11 : decode cX5_across 11 = .ok (.iload_n 1, 1) := by decide +kernel
theorem dX5_across_12 : decode cX5_across 12 = .ok (.iadd, 1) := by decide +kernel
theorem dX5_across_13 : decode cX5_across 13 = .ok (.iaload, 1) := by decide +kernel
theorem dX5_across_14 : decode cX5_across 14 = .ok (.if_icmp .gt 18, 3) := by decide +kernel
theorem dX5_across_17 : decode cX5_across 17 = .ok (.iload_n 2, 1) := by decide +kernel
theorem dX5_across_18 : decode cX5_across 18 = .ok (.aload_n 0, 1) := by decide +kernel
theorem dX5_across_19 : decode cX5_across 19 = .ok (.iload_n 1, 1) := by decide +kernel
theorem dX5_across_20 : decode cX5_across 20 = .ok (.iload_n 3, 1) := by decide +kernel
theorem dX5_across_21 : decode cX5_across 21 = .ok (.invokevirtual 196, 3) := by decide +kernel
theorem dX5_across_24 : decode cX5_across 24 = .ok (.ixor, 1) := by decide +kernel
theorem dX5_across_25 : decode cX5_across 25 = .ok (.istore_n 2, 1) := by decide +kernel
theorem dX5_across_26 : decode cX5_across 26 = .ok (.iinc 3 1, 3) := by decide +kernel
theorem dX5_across_29 : decode cX5_across 29 = .ok (.goto (-25), 3) := by decide +kernel
theorem dX5_across_32 : decode cX5_across 32 = .ok (.iload_n 2, 1) := by decide +kernel
theorem dX5_across_33 : decode cX5_across 33 = .ok (.ireturn, 1) := by decide +kernel
theorem dX5_onesOf_0 : decode cX5_onesOf 0 = .ok (.iconst 0, 1) := by decide +kernel
theorem dX5_onesOf_1 : decode cX5_onesOf 1 = .ok (.istore_n 1, 1) := by decide +kernel
theorem dX5_onesOf_2 : decode cX5_onesOf 2 = .ok (.iconst 0, 1) := by decide +kernel
theorem dX5_onesOf_3 : decode cX5_onesOf 3 = .ok (.istore_n 2, 1) := by decide +kernel
theorem dX5_onesOf_4 : decode cX5_onesOf 4 = .ok (.iload_n 2, 1) := by decide +kernel
theorem dX5_onesOf_5 : decode cX5_onesOf 5 = .ok (.bipush 9, 2) := by decide +kernel
theorem dX5_onesOf_7 : decode cX5_onesOf 7 = .ok (.if_icmp .ge 17, 3) := by decide +kernel
theorem dX5_onesOf_10 : decode cX5_onesOf 10 = .ok (.iload_n 1, 1) := by decide +kernel
theorem dX5_onesOf_11 : decode cX5_onesOf 11 = .ok (.iload_n 0, 1) := by decide +kernel
theorem dX5_onesOf_12 : decode cX5_onesOf 12 = .ok (.iload_n 2, 1) := by decide +kernel
theorem dX5_onesOf_13 : decode cX5_onesOf 13 = .ok (.ishr, 1) := by decide +kernel
theorem dX5_onesOf_14 : decode cX5_onesOf 14 = .ok (.iconst 1, 1) := by decide +kernel
theorem dX5_onesOf_15 : decode cX5_onesOf 15 = .ok (.iand, 1) := by decide +kernel
theorem dX5_onesOf_16 : decode cX5_onesOf 16 = .ok (.iadd, 1) := by decide +kernel
theorem dX5_onesOf_17 : decode cX5_onesOf 17 = .ok (.istore_n 1, 1) := by decide +kernel
theorem dX5_onesOf_18 : decode cX5_onesOf 18 = .ok (.iinc 2 1, 3) := by decide +kernel
theorem dX5_onesOf_21 : decode cX5_onesOf 21 = .ok (.goto (-17), 3) := by decide +kernel
theorem dX5_onesOf_24 : decode cX5_onesOf 24 = .ok (.iload_n 1, 1) := by decide +kernel
theorem dX5_onesOf_25 : decode cX5_onesOf 25 = .ok (.ireturn, 1) := by decide +kernel
set_option maxRecDepth 20000 in
theorem ggX5_reading_X5_across : GoodIn wsX5_reading wsX5_across := goodIn_r _ [7, 1, 8, 9, 10, 6, 11, 18, 19, 20, 21, 22, 23, 24, 25, 26, 27, 28, 29, 30, 31, 32, 33, 34, 35, 36, 37, 38, 39, 40, 41, 42, 43] (by decide +kernel) (by decide +kernel)
set_option maxRecDepth 20000 in
theorem gX5_reading_X5_across : GoodIn wsX5_reading (wsV RX5 209 RX5 yX5_across wsX5_across) := goodIn_app (goodIn_of _ (by decide +kernel)) ggX5_reading_X5_across
set_option maxRecDepth 20000 in
theorem ggX5_reading_X5_columnOf : GoodIn wsX5_reading wsX5_columnOf := goodIn_r _ [11, 1, 18, 19, 20, 21, 22, 23, 24, 25, 26, 27, 28, 29, 30, 31, 32, 33, 34, 35, 36, 37, 38, 39, 40, 41, 42, 43] (by decide +kernel) (by decide +kernel)
set_option maxRecDepth 20000 in
theorem gX5_reading_X5_columnOf : GoodIn wsX5_reading (wsV RX5 196 RX5 yX5_columnOf wsX5_columnOf) := goodIn_app (goodIn_of _ (by decide +kernel)) ggX5_reading_X5_columnOf
set_option maxRecDepth 20000 in
theorem ggX5_reading_X5_odd : GoodIn wsX5_reading wsX5_odd := goodIn_r _ [14] (by decide +kernel) (by decide +kernel)
set_option maxRecDepth 20000 in
theorem gX5_reading_X5_odd : GoodIn wsX5_reading (va_wsS RX5 190 yX5_odd wsX5_odd) := goodIn_app (goodIn_of _ (by decide +kernel)) ggX5_reading_X5_odd
set_option maxRecDepth 20000 in
theorem ggX5_reading_X5_onesOf : GoodIn wsX5_reading wsX5_onesOf := goodIn_r _ [17] (by decide +kernel) (by decide +kernel)
set_option maxRecDepth 20000 in
theorem gX5_reading_X5_onesOf : GoodIn wsX5_reading (va_wsS RX5 212 yX5_onesOf wsX5_onesOf) := goodIn_app (goodIn_of _ (by decide +kernel)) ggX5_reading_X5_onesOf
theorem dX5_reading_0 : decode cX5_reading 0 = .ok (.aload_n 0, 1) := by decide +kernel
theorem dX5_reading_1 : decode cX5_reading 1 = .ok (.getfield 7, 3) := by decide +kernel
theorem dX5_reading_4 : decode cX5_reading 4 = .ok (.bipush 13, 2) := by decide +kernel
theorem dX5_reading_6 : decode cX5_reading 6 = .ok (.iload_n 1, 1) := by decide +kernel
theorem dX5_reading_7 : decode cX5_reading 7 = .ok (.iadd, 1) := by decide +kernel
theorem dX5_reading_8 : decode cX5_reading 8 = .ok (.iaload, 1) := by decide +kernel
theorem dX5_reading_9 : decode cX5_reading 9 = .ok (.istore_n 3, 1) := by decide +kernel
theorem dX5_reading_10 : decode cX5_reading 10 = .ok (.iload_n 3, 1) := by decide +kernel
theorem dX5_reading_11 : decode cX5_reading 11 = .ok (.ifCond .ne 7, 3) := by decide +kernel
theorem dX5_reading_14 : decode cX5_reading 14 = .ok (.iconst 0, 1) := by decide +kernel
theorem dX5_reading_15 : decode cX5_reading 15 = .ok (.goto 8, 3) := by decide +kernel
theorem dX5_reading_18 : decode cX5_reading 18 = .ok (.aload_n 0, 1) := by decide +kernel
theorem dX5_reading_19 : decode cX5_reading 19 = .ok (.iload_n 1, 1) := by decide +kernel
theorem dX5_reading_20 : decode cX5_reading 20 = .ok (.invokevirtual 209, 3) := by decide +kernel
theorem dX5_reading_23 : decode cX5_reading 23 = .ok (.istore 4, 2) := by decide +kernel
theorem dX5_reading_25 : decode cX5_reading 25 = .ok (.iconst 0, 1) := by decide +kernel
theorem dX5_reading_26 : decode cX5_reading 26 = .ok (.istore 5, 2) := by decide +kernel
theorem dX5_reading_28 : decode cX5_reading 28 = .ok (.bipush (-4), 2) := by decide +kernel
theorem dX5_reading_30 : decode cX5_reading 30 = .ok (.istore 6, 2) := by decide +kernel
theorem dX5_reading_32 : decode cX5_reading 32 = .ok (.iconst 0, 1) := by decide +kernel
theorem dX5_reading_33 : decode cX5_reading 33 = .ok (.istore 7, 2) := by decide +kernel
theorem dX5_reading_35 : decode cX5_reading 35 = .ok (.iload 7, 2) := by decide +kernel
theorem dX5_reading_37 : decode cX5_reading 37 = .ok (.iload_n 3, 1) := by decide +kernel
theorem dX5_reading_38 : decode cX5_reading 38 = .ok (.if_icmp .ge 43, 3) := by decide +kernel
theorem dX5_reading_41 : decode cX5_reading 41 = .ok (.aload_n 0, 1) := by decide +kernel
theorem dX5_reading_42 : decode cX5_reading 42 = .ok (.getfield 35, 3) := by decide +kernel
theorem dX5_reading_45 : decode cX5_reading 45 = .ok (.iload 7, 2) := by decide +kernel
theorem dX5_reading_47 : decode cX5_reading 47 = .ok (.aload_n 0, 1) := by decide +kernel
theorem dX5_reading_48 : decode cX5_reading 48 = .ok (.iload_n 1, 1) := by decide +kernel
theorem dX5_reading_49 : decode cX5_reading 49 = .ok (.iload 7, 2) := by decide +kernel
theorem dX5_reading_51 : decode cX5_reading 51 = .ok (.invokevirtual 196, 3) := by decide +kernel
theorem dX5_reading_54 : decode cX5_reading 54 = .ok (.iastore, 1) := by decide +kernel
theorem dX5_reading_55 : decode cX5_reading 55 = .ok (.aload_n 0, 1) := by decide +kernel
theorem dX5_reading_56 : decode cX5_reading 56 = .ok (.getfield 35, 3) := by decide +kernel
theorem dX5_reading_59 : decode cX5_reading 59 = .ok (.iload 7, 2) := by decide +kernel
theorem dX5_reading_61 : decode cX5_reading 61 = .ok (.iaload, 1) := by decide +kernel
theorem dX5_reading_62 : decode cX5_reading 62 = .ok (.invokestatic 190, 3) := by decide +kernel
theorem dX5_reading_65 : decode cX5_reading 65 = .ok (.ifCond .ne 10, 3) := by decide +kernel
theorem dX5_reading_68 : decode cX5_reading 68 = .ok (.iinc 5 1, 3) := by decide +kernel
theorem dX5_reading_71 : decode cX5_reading 71 = .ok (.iload 7, 2) := by decide +kernel
theorem dX5_reading_73 : decode cX5_reading 73 = .ok (.istore 6, 2) := by decide +kernel
theorem dX5_reading_75 : decode cX5_reading 75 = .ok (.iinc 7 1, 3) := by decide +kernel
theorem dX5_reading_78 : decode cX5_reading 78 = .ok (.goto (-43), 3) := by decide +kernel
theorem dX5_reading_81 : decode cX5_reading 81 = .ok (.iload 5, 2) := by decide +kernel
theorem dX5_reading_83 : decode cX5_reading 83 = .ok (.ifCond .ne 10, 3) := by decide +kernel
theorem dX5_reading_86 : decode cX5_reading 86 = .ok (.iload 4, 2) := by decide +kernel
theorem dX5_reading_88 : decode cX5_reading 88 = .ok (.ifCond .ne 5, 3) := by decide +kernel
theorem dX5_reading_91 : decode cX5_reading 91 = .ok (.iconst 0, 1) := by decide +kernel
theorem dX5_reading_92 : decode cX5_reading 92 = .ok (.ireturn, 1) := by decide +kernel
theorem dX5_reading_93 : decode cX5_reading 93 = .ok (.iload_n 2, 1) := by decide +kernel
theorem dX5_reading_94 : decode cX5_reading 94 = .ok (.bipush (-4), 2) := by decide +kernel
theorem dX5_reading_96 : decode cX5_reading 96 = .ok (.if_icmp .eq 74, 3) := by decide +kernel
theorem dX5_reading_99 : decode cX5_reading 99 = .ok (.iconst 0, 1) := by decide +kernel
theorem dX5_reading_100 : decode cX5_reading 100 = .ok (.istore 7, 2) := by decide +kernel
theorem dX5_reading_102 : decode cX5_reading 102 = .ok (.iload 7, 2) := by decide +kernel
theorem dX5_reading_104 : decode cX5_reading 104 = .ok (.iload_n 3, 1) := by decide +kernel
theorem dX5_reading_105 : decode cX5_reading 105 = .ok (.if_icmp .ge 39, 3) := by decide +kernel
theorem dX5_reading_108 : decode cX5_reading 108 = .ok (.aload_n 0, 1) := by decide +kernel
theorem dX5_reading_109 : decode cX5_reading 109 = .ok (.getfield 35, 3) := by decide +kernel
theorem dX5_reading_112 : decode cX5_reading 112 = .ok (.iload 7, 2) := by decide +kernel
theorem dX5_reading_114 : decode cX5_reading 114 = .ok (.dup2, 1) := by decide +kernel
theorem dX5_reading_115 : decode cX5_reading 115 = .ok (.iaload, 1) := by decide +kernel
theorem dX5_reading_116 : decode cX5_reading 116 = .ok (.aload_n 0, 1) := by decide +kernel
theorem dX5_reading_117 : decode cX5_reading 117 = .ok (.getfield 35, 3) := by decide +kernel
theorem dX5_reading_120 : decode cX5_reading 120 = .ok (.iload 7, 2) := by decide +kernel
theorem dX5_reading_122 : decode cX5_reading 122 = .ok (.iaload, 1) := by decide +kernel
theorem dX5_reading_123 : decode cX5_reading 123 = .ok (.invokestatic 190, 3) := by decide +kernel
theorem dX5_reading_126 : decode cX5_reading 126 = .ok (.ifCond .ne 9, 3) := by decide +kernel
theorem dX5_reading_129 : decode cX5_reading 129 = .ok (.iconst 1, 1) := by decide +kernel
theorem dX5_reading_130 : decode cX5_reading 130 = .ok (.iload_n 2, 1) := by decide +kernel
theorem dX5_reading_131 : decode cX5_reading 131 = .ok (.ishl, 1) := by decide +kernel
theorem dX5_reading_132 : decode cX5_reading 132 = .ok (.goto 4, 3) := by decide +kernel
theorem dX5_reading_135 : decode cX5_reading 135 = .ok (.iconst 0, 1) := by decide +kernel
theorem dX5_reading_136 : decode cX5_reading 136 = .ok (.ixor, 1) := by decide +kernel
theorem dX5_reading_137 : decode cX5_reading 137 = .ok (.iastore, 1) := by decide +kernel
theorem dX5_reading_138 : decode cX5_reading 138 = .ok (.iinc 7 1, 3) := by decide +kernel
theorem dX5_reading_141 : decode cX5_reading 141 = .ok (.goto (-39), 3) := by decide +kernel
theorem dX5_reading_144 : decode cX5_reading 144 = .ok (.iload 4, 2) := by decide +kernel
theorem dX5_reading_146 : decode cX5_reading 146 = .ok (.iload 5, 2) := by decide +kernel
theorem dX5_reading_148 : decode cX5_reading 148 = .ok (.iconst 2, 1) := by decide +kernel
theorem dX5_reading_149 : decode cX5_reading 149 = .ok (.irem, 1) := by decide +kernel
theorem dX5_reading_150 : decode cX5_reading 150 = .ok (.iconst 1, 1) := by decide +kernel
theorem dX5_reading_151 : decode cX5_reading 151 = .ok (.if_icmp .ne 9, 3) := by decide +kernel
theorem dX5_reading_154 : decode cX5_reading 154 = .ok (.iconst 1, 1) := by decide +kernel
theorem dX5_reading_155 : decode cX5_reading 155 = .ok (.iload_n 2, 1) := by decide +kernel
theorem dX5_reading_156 : decode cX5_reading 156 = .ok (.ishl, 1) := by decide +kernel
theorem dX5_reading_157 : decode cX5_reading 157 = .ok (.goto 4, 3) := by decide +kernel
theorem dX5_reading_160 : decode cX5_reading 160 = .ok (.iconst 0, 1) := by decide +kernel
theorem dX5_reading_161 : decode cX5_reading 161 = .ok (.if_icmp .ne 7, 3) := by decide +kernel
theorem dX5_reading_164 : decode cX5_reading 164 = .ok (.iconst 2, 1) := by decide +kernel
theorem dX5_reading_165 : decode cX5_reading 165 = .ok (.goto 4, 3) := by decide +kernel
theorem dX5_reading_168 : decode cX5_reading 168 = .ok (.iconst 3, 1) := by decide +kernel
theorem dX5_reading_169 : decode cX5_reading 169 = .ok (.ireturn, 1) := by decide +kernel
theorem dX5_reading_170 : decode cX5_reading 170 = .ok (.iload 4, 2) := by decide +kernel
theorem dX5_reading_172 : decode cX5_reading 172 = .ok (.invokestatic 212, 3) := by decide +kernel
theorem dX5_reading_175 : decode cX5_reading 175 = .ok (.iconst 1, 1) := by decide +kernel
theorem dX5_reading_176 : decode cX5_reading 176 = .ok (.if_icmp .ne 9, 3) := by decide +kernel
theorem dX5_reading_179 : decode cX5_reading 179 = .ok (.iload 5, 2) := by decide +kernel
theorem dX5_reading_181 : decode cX5_reading 181 = .ok (.iconst 1, 1) := by decide +kernel
theorem dX5_reading_182 : decode cX5_reading 182 = .ok (.if_icmp .le 5, 3) := by decide +kernel
theorem dX5_reading_185 : decode cX5_reading 185 = .ok (.iconst 3, 1) := by decide +kernel
theorem dX5_reading_186 : decode cX5_reading 186 = .ok (.ireturn, 1) := by decide +kernel
theorem dX5_reading_187 : decode cX5_reading 187 = .ok (.iload 5, 2) := by decide +kernel
theorem dX5_reading_189 : decode cX5_reading 189 = .ok (.iconst 1, 1) := by decide +kernel
theorem dX5_reading_190 : decode cX5_reading 190 = .ok (.if_icmp .ne 15, 3) := by decide +kernel
theorem dX5_reading_193 : decode cX5_reading 193 = .ok (.aload_n 0, 1) := by decide +kernel
theorem dX5_reading_194 : decode cX5_reading 194 = .ok (.getfield 35, 3) := by decide +kernel
theorem dX5_reading_197 : decode cX5_reading 197 = .ok (.iload 6, 2) := by decide +kernel
theorem dX5_reading_199 : decode cX5_reading 199 = .ok (.dup2, 1) := by decide +kernel
theorem dX5_reading_200 : decode cX5_reading 200 = .ok (.iaload, 1) := by decide +kernel
theorem dX5_reading_201 : decode cX5_reading 201 = .ok (.iload 4, 2) := by decide +kernel
theorem dX5_reading_203 : decode cX5_reading 203 = .ok (.ixor, 1) := by decide +kernel
theorem dX5_reading_204 : decode cX5_reading 204 = .ok (.iastore, 1) := by decide +kernel
theorem dX5_reading_205 : decode cX5_reading 205 = .ok (.iconst 1, 1) := by decide +kernel
theorem dX5_reading_206 : decode cX5_reading 206 = .ok (.ireturn, 1) := by decide +kernel
set_option maxRecDepth 20000 in
theorem ggX5_check_X5_isBlock : GoodIn wsX5_check wsX5_isBlock := goodIn_r _ [6, 1, 7, 8, 5, 9, 29, 30, 31, 32, 33, 34, 35, 36, 37, 38, 39, 40, 41, 42, 43, 44, 45, 46, 47, 48, 49, 50, 51, 52, 53, 54] (by decide +kernel) (by decide +kernel)
set_option maxRecDepth 20000 in
theorem gX5_check_X5_isBlock : GoodIn wsX5_check (wsV RX5 193 RX5 yX5_isBlock wsX5_isBlock) := goodIn_app (goodIn_of _ (by decide +kernel)) ggX5_check_X5_isBlock
set_option maxRecDepth 20000 in
theorem ggX5_check_X5_reading : GoodIn wsX5_check wsX5_reading := goodIn_r _ [13, 1, 14, 15, 16, 17, 5, 18, 19, 20, 21, 22, 23, 24, 25, 26, 27, 28, 29, 30, 31, 32, 33, 34, 35, 36, 37, 38, 39, 40, 41, 42, 43, 44, 45, 46, 47, 48, 49, 50, 51, 52, 53, 54] (by decide +kernel) (by decide +kernel)
set_option maxRecDepth 20000 in
theorem gX5_check_X5_reading : GoodIn wsX5_check (wsV RX5 215 RX5 yX5_reading wsX5_reading) := goodIn_app (goodIn_of _ (by decide +kernel)) ggX5_check_X5_reading
theorem dX5_check_0 : decode cX5_check 0 = .ok (.aload_n 0, 1) := by decide +kernel
theorem dX5_check_1 : decode cX5_check 1 = .ok (.iload_n 1, 1) := by decide +kernel
theorem dX5_check_2 : decode cX5_check 2 = .ok (.invokevirtual 193, 3) := by decide +kernel
theorem dX5_check_5 : decode cX5_check 5 = .ok (.ifCond .eq 19, 3) := by decide +kernel
theorem dX5_check_8 : decode cX5_check 8 = .ok (.aload_n 0, 1) := by decide +kernel
theorem dX5_check_9 : decode cX5_check 9 = .ok (.iload_n 1, 1) := by decide +kernel
theorem dX5_check_10 : decode cX5_check 10 = .ok (.aload_n 0, 1) := by decide +kernel
theorem dX5_check_11 : decode cX5_check 11 = .ok (.getfield 7, 3) := by decide +kernel
theorem dX5_check_14 : decode cX5_check 14 = .ok (.sipush 340, 3) := by decide +kernel
theorem dX5_check_17 : decode cX5_check 17 = .ok (.iaload, 1) := by decide +kernel
theorem dX5_check_18 : decode cX5_check 18 = .ok (.invokevirtual 215, 3) := by decide +kernel
theorem dX5_check_21 : decode cX5_check 21 = .ok (.goto 4, 3) := by decide +kernel
theorem dX5_check_24 : decode cX5_check 24 = .ok (.iconst (-1), 1) := by decide +kernel
theorem dX5_check_25 : decode cX5_check 25 = .ok (.ireturn, 1) := by decide +kernel
set_option maxRecDepth 20000 in
theorem ggX5_got_X5_isBlock : GoodIn wsX5_got wsX5_isBlock := goodIn_r _ [7, 1, 8, 9, 6, 10, 29, 30, 31, 32, 33, 34, 35, 36, 37, 38, 39, 40, 41, 42, 43, 44, 45, 46, 47, 48, 49, 50, 51, 52, 53, 54] (by decide +kernel) (by decide +kernel)
set_option maxRecDepth 20000 in
theorem gX5_got_X5_isBlock : GoodIn wsX5_got (wsV RX5 193 RX5 yX5_isBlock wsX5_isBlock) := goodIn_app (goodIn_of _ (by decide +kernel)) ggX5_got_X5_isBlock
set_option maxRecDepth 20000 in
theorem ggX5_got_X5_in : GoodIn wsX5_got wsX5_in := goodIn_r _ [10] (by decide +kernel) (by decide +kernel)
set_option maxRecDepth 20000 in
theorem gX5_got_X5_in : GoodIn wsX5_got (va_wsS RX5 75 yX5_in wsX5_in) := goodIn_app (goodIn_of _ (by decide +kernel)) ggX5_got_X5_in
set_option maxRecDepth 20000 in
theorem ggX5_got_X5_reading : GoodIn wsX5_got wsX5_reading := goodIn_r _ [14, 1, 2, 15, 16, 17, 6, 18, 19, 20, 21, 22, 23, 24, 25, 26, 27, 28, 29, 30, 31, 32, 33, 34, 35, 36, 37, 38, 39, 40, 41, 42, 43, 44, 45, 46, 47, 48, 49, 50, 51, 52, 53, 54] (by decide +kernel) (by decide +kernel)
set_option maxRecDepth 20000 in
theorem gX5_got_X5_reading : GoodIn wsX5_got (wsV RX5 215 RX5 yX5_reading wsX5_reading) := goodIn_app (goodIn_of _ (by decide +kernel)) ggX5_got_X5_reading
theorem dX5_got_0 : decode cX5_got 0 = .ok (.aload_n 0, 1) := by decide +kernel
theorem dX5_got_1 : decode cX5_got 1 = .ok (.iload_n 1, 1) := by decide +kernel
theorem dX5_got_2 : decode cX5_got 2 = .ok (.invokevirtual 193, 3) := by decide +kernel
theorem dX5_got_5 : decode cX5_got 5 = .ok (.ifCond .eq 24, 3) := by decide +kernel
theorem dX5_got_8 : decode cX5_got 8 = .ok (.iload_n 2, 1) := by decide +kernel
theorem dX5_got_9 : decode cX5_got 9 = .ok (.i2l, 1) := by decide +kernel
theorem dX5_got_10 : decode cX5_got 10 = .ok (.lconst 0, 1) := by decide +kernel
theorem dX5_got_11 : decode cX5_got 11 = .ok (.aload_n 0, 1) := by decide +kernel
theorem dX5_got_12 : decode cX5_got 12 = .ok (.getfield 7, 3) := by decide +kernel
theorem dX5_got_15 : decode cX5_got 15 = .ok (.bipush 13, 2) := by decide +kernel
theorem dX5_got_17 : decode cX5_got 17 = .ok (.iload_n 1, 1) := by decide +kernel
theorem dX5_got_18 : decode cX5_got 18 = .ok (.iadd, 1) := by decide +kernel
theorem dX5_got_19 : decode cX5_got 19 = .ok (.iaload, 1) := by decide +kernel
theorem dX5_got_20 : decode cX5_got 20 = .ok (.iconst 1, 1) := by decide +kernel
theorem dX5_got_21 : decode cX5_got 21 = .ok (.isub, 1) := by decide +kernel
theorem dX5_got_22 : decode cX5_got 22 = .ok (.i2l, 1) := by decide +kernel
theorem dX5_got_23 : decode cX5_got 23 = .ok (.invokestatic 75, 3) := by decide +kernel
theorem dX5_got_26 : decode cX5_got 26 = .ok (.ifCond .ne 5, 3) := by decide +kernel
theorem dX5_got_29 : decode cX5_got 29 = .ok (.iconst (-1), 1) := by decide +kernel
theorem dX5_got_30 : decode cX5_got 30 = .ok (.ireturn, 1) := by decide +kernel
theorem dX5_got_31 : decode cX5_got 31 = .ok (.aload_n 0, 1) := by decide +kernel
theorem dX5_got_32 : decode cX5_got 32 = .ok (.iload_n 1, 1) := by decide +kernel
theorem dX5_got_33 : decode cX5_got 33 = .ok (.aload_n 0, 1) := by decide +kernel
theorem dX5_got_34 : decode cX5_got 34 = .ok (.getfield 7, 3) := by decide +kernel
theorem dX5_got_37 : decode cX5_got 37 = .ok (.sipush 340, 3) := by decide +kernel
theorem dX5_got_40 : decode cX5_got 40 = .ok (.iaload, 1) := by decide +kernel
theorem dX5_got_41 : decode cX5_got 41 = .ok (.invokevirtual 215, 3) := by decide +kernel
theorem dX5_got_44 : decode cX5_got 44 = .ok (.iconst 3, 1) := by decide +kernel
theorem dX5_got_45 : decode cX5_got 45 = .ok (.if_icmp .ne 8, 3) := by decide +kernel
theorem dX5_got_48 : decode cX5_got 48 = .ok (.bipush (-4), 2) := by decide +kernel
theorem dX5_got_50 : decode cX5_got 50 = .ok (.goto 13, 3) := by decide +kernel
theorem dX5_got_53 : decode cX5_got 53 = .ok (.aload_n 0, 1) := by decide +kernel
theorem dX5_got_54 : decode cX5_got 54 = .ok (.getfield 35, 3) := by decide +kernel
theorem dX5_got_57 : decode cX5_got 57 = .ok (.iload_n 2, 1) := by decide +kernel
theorem dX5_got_58 : decode cX5_got 58 = .ok (.iaload, 1) := by decide +kernel
theorem dX5_got_59 : decode cX5_got 59 = .ok (.sipush 255, 3) := by decide +kernel
theorem dX5_got_62 : decode cX5_got 62 = .ok (.iand, 1) := by decide +kernel
theorem dX5_got_63 : decode cX5_got 63 = .ok (.ireturn, 1) := by decide +kernel
set_option maxRecDepth 20000 in
theorem ggX5_column_X5_isColumn : GoodIn wsX5_column wsX5_isColumn := goodIn_r _ [5, 6, 7, 8, 9, 4, 10, 11, 12, 13, 18, 19, 20, 21, 22, 23, 24, 25, 26, 27, 28, 29, 30, 31, 32, 33, 34, 35, 36, 37, 38, 39, 40, 41, 42, 43] (by decide +kernel) (by decide +kernel)
set_option maxRecDepth 20000 in
theorem gX5_column_X5_isColumn : GoodIn wsX5_column (wsV RX5 202 RX5 yX5_isColumn wsX5_isColumn) := goodIn_app (goodIn_of _ (by decide +kernel)) ggX5_column_X5_isColumn
set_option maxRecDepth 20000 in
theorem ggX5_column_X5_columnOf : GoodIn wsX5_column wsX5_columnOf := goodIn_r _ [17, 6, 18, 19, 20, 21, 22, 23, 24, 25, 26, 27, 28, 29, 30, 31, 32, 33, 34, 35, 36, 37, 38, 39, 40, 41, 42, 43] (by decide +kernel) (by decide +kernel)
set_option maxRecDepth 20000 in
theorem gX5_column_X5_columnOf : GoodIn wsX5_column (wsV RX5 196 RX5 yX5_columnOf wsX5_columnOf) := goodIn_app (goodIn_of _ (by decide +kernel)) ggX5_column_X5_columnOf
theorem dX5_column_0 : decode cX5_column 0 = .ok (.aload_n 0, 1) := by decide +kernel
theorem dX5_column_1 : decode cX5_column 1 = .ok (.iload_n 1, 1) := by decide +kernel
theorem dX5_column_2 : decode cX5_column 2 = .ok (.iload_n 2, 1) := by decide +kernel
theorem dX5_column_3 : decode cX5_column 3 = .ok (.invokevirtual 202, 3) := by decide +kernel
theorem dX5_column_6 : decode cX5_column 6 = .ok (.ifCond .eq 12, 3) := by decide +kernel
theorem dX5_column_9 : decode cX5_column 9 = .ok (.aload_n 0, 1) := by decide +kernel
theorem dX5_column_10 : decode cX5_column 10 = .ok (.iload_n 1, 1) := by decide +kernel
theorem dX5_column_11 : decode cX5_column 11 = .ok (.iload_n 2, 1) := by decide +kernel
theorem dX5_column_12 : decode cX5_column 12 = .ok (.invokevirtual 196, 3) := by decide +kernel
theorem dX5_column_15 : decode cX5_column 15 = .ok (.goto 4, 3) := by decide +kernel
theorem dX5_column_18 : decode cX5_column 18 = .ok (.iconst (-1), 1) := by decide +kernel
theorem dX5_column_19 : decode cX5_column 19 = .ok (.ireturn, 1) := by decide +kernel
set_option maxRecDepth 20000 in
theorem ggX5_isFooled_X5_reading : GoodIn wsX5_isFooled wsX5_reading := goodIn_r _ [7, 1, 2, 8, 9, 10, 6, 11, 12, 13, 14, 15, 16, 17, 18, 19, 20, 21, 22, 23, 24, 25, 26, 27, 28, 29, 30, 31, 32, 33, 34, 35, 36, 37, 38, 39, 40, 41, 42, 43, 44, 45, 46, 47] (by decide +kernel) (by decide +kernel)
set_option maxRecDepth 20000 in
theorem gX5_isFooled_X5_reading : GoodIn wsX5_isFooled (wsV RX5 215 RX5 yX5_reading wsX5_reading) := goodIn_app (goodIn_of _ (by decide +kernel)) ggX5_isFooled_X5_reading
theorem dX5_isFooled_0 : decode cX5_isFooled 0 = .ok (.iconst 0, 1) := by decide +kernel
theorem dX5_isFooled_1 : decode cX5_isFooled 1 = .ok (.istore_n 2, 1) := by decide +kernel
theorem dX5_isFooled_2 : decode cX5_isFooled 2 = .ok (.aload_n 0, 1) := by decide +kernel
theorem dX5_isFooled_3 : decode cX5_isFooled 3 = .ok (.iload_n 1, 1) := by decide +kernel
theorem dX5_isFooled_4 : decode cX5_isFooled 4 = .ok (.aload_n 0, 1) := by decide +kernel
theorem dX5_isFooled_5 : decode cX5_isFooled 5 = .ok (.getfield 7, 3) := by decide +kernel
theorem dX5_isFooled_8 : decode cX5_isFooled 8 = .ok (.sipush 340, 3) := by decide +kernel
theorem dX5_isFooled_11 : decode cX5_isFooled 11 = .ok (.iaload, 1) := by decide +kernel
theorem dX5_isFooled_12 : decode cX5_isFooled 12 = .ok (.invokevirtual 215, 3) := by decide +kernel
theorem dX5_isFooled_15 : decode cX5_isFooled 15 = .ok (.iconst 3, 1) := by decide +kernel
theorem dX5_isFooled_16 : decode cX5_isFooled 16 = .ok (.if_icmp .ne 7, 3) := by decide +kernel
theorem dX5_isFooled_19 : decode cX5_isFooled 19 = .ok (.iconst 1, 1) := by decide +kernel
theorem dX5_isFooled_20 : decode cX5_isFooled 20 = .ok (.goto 4, 3) := by decide +kernel
theorem dX5_isFooled_23 : decode cX5_isFooled 23 = .ok (.iconst 0, 1) := by decide +kernel
theorem dX5_isFooled_24 : decode cX5_isFooled 24 = .ok (.istore_n 3, 1) := by decide +kernel
theorem dX5_isFooled_25 : decode cX5_isFooled 25 = .ok (.iconst 0, 1) := by decide +kernel
theorem dX5_isFooled_26 : decode cX5_isFooled 26 = .ok (.istore 4, 2) := by decide +kernel
theorem dX5_isFooled_28 : decode cX5_isFooled 28 = .ok (.iload 4, 2) := by decide +kernel
theorem dX5_isFooled_30 : decode cX5_isFooled 30 = .ok (.aload_n 0, 1) := by decide +kernel
theorem dX5_isFooled_31 : decode cX5_isFooled 31 = .ok (.getfield 7, 3) := by decide +kernel
theorem dX5_isFooled_34 : decode cX5_isFooled 34 = .ok (.bipush 13, 2) := by decide +kernel
theorem dX5_isFooled_36 : decode cX5_isFooled 36 = .ok (.iload_n 1, 1) := by decide +kernel
theorem dX5_isFooled_37 : decode cX5_isFooled 37 = .ok (.iadd, 1) := by decide +kernel
theorem dX5_isFooled_38 : decode cX5_isFooled 38 = .ok (.iaload, 1) := by decide +kernel
theorem dX5_isFooled_39 : decode cX5_isFooled 39 = .ok (.if_icmp .ge 49, 3) := by decide +kernel
theorem dX5_isFooled_42 : decode cX5_isFooled 42 = .ok (.iload_n 2, 1) := by decide +kernel
theorem dX5_isFooled_43 : decode cX5_isFooled 43 = .ok (.ifCond .ne 33, 3) := by decide +kernel
theorem dX5_isFooled_46 : decode cX5_isFooled 46 = .ok (.aload_n 0, 1) := by decide +kernel
theorem dX5_isFooled_47 : decode cX5_isFooled 47 = .ok (.getfield 35, 3) := by decide +kernel
theorem dX5_isFooled_50 : decode cX5_isFooled 50 = .ok (.iload 4, 2) := by decide +kernel
theorem dX5_isFooled_52 : decode cX5_isFooled 52 = .ok (.iaload, 1) := by decide +kernel
theorem dX5_isFooled_53 : decode cX5_isFooled 53 = .ok (.sipush 255, 3) := by decide +kernel
theorem dX5_isFooled_56 : decode cX5_isFooled 56 = .ok (.iand, 1) := by decide +kernel
theorem dX5_isFooled_57 : decode cX5_isFooled 57 = .ok (.aload_n 0, 1) := by decide +kernel
theorem dX5_isFooled_58 : decode cX5_isFooled 58 = .ok (.getfield 7, 3) := by decide +kernel
theorem dX5_isFooled_61 : decode cX5_isFooled 61 = .ok (.sipush 181, 3) := by decide +kernel
theorem dX5_isFooled_64 : decode cX5_isFooled 64 = .ok (.bipush 12, 2) := by decide +kernel
theorem dX5_isFooled_66 : decode cX5_isFooled 66 = .ok (.iload_n 1, 1) := by decide +kernel
theorem dX5_isFooled_67 : decode cX5_isFooled 67 = .ok (.imul, 1) := by decide +kernel
theorem dX5_isFooled_68 : decode cX5_isFooled 68 = .ok (.iadd, 1) := by decide +kernel
theorem dX5_isFooled_69 : decode cX5_isFooled 69 = .ok (.iload 4, 2) := by decide +kernel
theorem dX5_isFooled_71 : decode cX5_isFooled 71 = .ok (.iadd, 1) := by decide +kernel
theorem dX5_isFooled_72 : decode cX5_isFooled 72 = .ok (.iaload, 1) := by decide +kernel
theorem dX5_isFooled_73 : decode cX5_isFooled 73 = .ok (.if_icmp .eq 7, 3) := by decide +kernel
theorem dX5_isFooled_76 : decode cX5_isFooled 76 = .ok (.iconst 1, 1) := by decide +kernel
theorem dX5_isFooled_77 : decode cX5_isFooled 77 = .ok (.goto 4, 3) := by decide +kernel
theorem dX5_isFooled_80 : decode cX5_isFooled 80 = .ok (.iconst 0, 1) := by decide +kernel
theorem dX5_isFooled_81 : decode cX5_isFooled 81 = .ok (.istore_n 2, 1) := by decide +kernel
theorem dX5_isFooled_82 : decode cX5_isFooled 82 = .ok (.iinc 4 1, 3) := by decide +kernel
theorem dX5_isFooled_85 : decode cX5_isFooled 85 = .ok (.goto (-57), 3) := by decide +kernel
theorem dX5_isFooled_88 : decode cX5_isFooled 88 = .ok (.iload_n 2, 1) := by decide +kernel
theorem dX5_isFooled_89 : decode cX5_isFooled 89 = .ok (.ifCond .eq 11, 3) := by decide +kernel
theorem dX5_isFooled_92 : decode cX5_isFooled 92 = .ok (.iload_n 3, 1) := by decide +kernel
theorem dX5_isFooled_93 : decode cX5_isFooled 93 = .ok (.ifCond .ne 7, 3) := by decide +kernel
theorem dX5_isFooled_96 : decode cX5_isFooled 96 = .ok (.iconst 1, 1) := by decide +kernel
theorem dX5_isFooled_97 : decode cX5_isFooled 97 = .ok (.goto 4, 3) := by decide +kernel
theorem dX5_isFooled_100 : decode cX5_isFooled 100 = .ok (.iconst 0, 1) := by decide +kernel
theorem dX5_isFooled_101 : decode cX5_isFooled 101 = .ok (.ireturn, 1) := by decide +kernel
set_option maxRecDepth 20000 in
theorem ggX5_state_X5_in : GoodIn wsX5_state wsX5_in := goodIn_r _ [6] (by decide +kernel) (by decide +kernel)
set_option maxRecDepth 20000 in
theorem gX5_state_X5_in : GoodIn wsX5_state (va_wsS RX5 75 yX5_in wsX5_in) := goodIn_app (goodIn_of _ (by decide +kernel)) ggX5_state_X5_in
set_option maxRecDepth 20000 in
theorem ggX5_state_X5_reading : GoodIn wsX5_state wsX5_reading := goodIn_r _ [10, 2, 11, 12, 13, 14, 5, 15, 16, 17, 18, 19, 20, 21, 22, 23, 24, 25, 30, 31, 32, 33, 34, 35, 36, 37, 38, 39, 40, 41, 42, 43, 44, 45, 46, 47, 48, 49, 50, 51, 52, 53, 54, 55] (by decide +kernel) (by decide +kernel)
set_option maxRecDepth 20000 in
theorem gX5_state_X5_reading : GoodIn wsX5_state (wsV RX5 215 RX5 yX5_reading wsX5_reading) := goodIn_app (goodIn_of _ (by decide +kernel)) ggX5_state_X5_reading
set_option maxRecDepth 20000 in
theorem ggX5_state_X5_isFooled : GoodIn wsX5_state wsX5_isFooled := goodIn_r _ [29, 2, 11, 7, 8, 9, 5, 10, 12, 13, 14, 15, 16, 17, 18, 19, 20, 21, 22, 23, 24, 25, 30, 31, 32, 33, 34, 35, 36, 37, 38, 39, 40, 41, 42, 43, 44, 45, 46, 47, 48, 49, 50, 51, 52, 53, 54, 55] (by decide +kernel) (by decide +kernel)
set_option maxRecDepth 20000 in
theorem gX5_state_X5_isFooled : GoodIn wsX5_state (wsV RX5 218 RX5 yX5_isFooled wsX5_isFooled) := goodIn_app (goodIn_of _ (by decide +kernel)) ggX5_state_X5_isFooled
theorem dX5_state_0 : decode cX5_state 0 = .ok (.iload_n 1, 1) := by decide +kernel
theorem dX5_state_1 : decode cX5_state 1 = .ok (.i2l, 1) := by decide +kernel
theorem dX5_state_2 : decode cX5_state 2 = .ok (.lconst 0, 1) := by decide +kernel
theorem dX5_state_3 : decode cX5_state 3 = .ok (.ldc2_w 168, 3) := by decide +kernel
theorem dX5_state_6 : decode cX5_state 6 = .ok (.invokestatic 75, 3) := by decide +kernel
theorem dX5_state_9 : decode cX5_state 9 = .ok (.ifCond .ne 5, 3) := by decide +kernel
theorem dX5_state_12 : decode cX5_state 12 = .ok (.iconst (-1), 1) := by decide +kernel
theorem dX5_state_13 : decode cX5_state 13 = .ok (.ireturn, 1) := by decide +kernel
theorem dX5_state_14 : decode cX5_state 14 = .ok (.iconst 0, 1) := by decide +kernel
theorem dX5_state_15 : decode cX5_state 15 = .ok (.istore_n 2, 1) := by decide +kernel
theorem dX5_state_16 : decode cX5_state 16 = .ok (.iconst 0, 1) := by decide +kernel
theorem dX5_state_17 : decode cX5_state 17 = .ok (.istore_n 3, 1) := by decide +kernel
theorem dX5_state_18 : decode cX5_state 18 = .ok (.iload_n 3, 1) := by decide +kernel
theorem dX5_state_19 : decode cX5_state 19 = .ok (.aload_n 0, 1) := by decide +kernel
theorem dX5_state_20 : decode cX5_state 20 = .ok (.getfield 7, 3) := by decide +kernel
theorem dX5_state_23 : decode cX5_state 23 = .ok (.iconst 0, 1) := by decide +kernel
theorem dX5_state_24 : decode cX5_state 24 = .ok (.iaload, 1) := by decide +kernel
theorem dX5_state_25 : decode cX5_state 25 = .ok (.if_icmp .ge 89, 3) := by decide +kernel
theorem dX5_state_28 : decode cX5_state 28 = .ok (.aload_n 0, 1) := by decide +kernel
theorem dX5_state_29 : decode cX5_state 29 = .ok (.iload_n 3, 1) := by decide +kernel
theorem dX5_state_30 : decode cX5_state 30 = .ok (.aload_n 0, 1) := by decide +kernel
theorem dX5_state_31 : decode cX5_state 31 = .ok (.getfield 7, 3) := by decide +kernel
theorem dX5_state_34 : decode cX5_state 34 = .ok (.sipush 340, 3) := by decide +kernel
theorem dX5_state_37 : decode cX5_state 37 = .ok (.iaload, 1) := by decide +kernel
theorem dX5_state_38 : decode cX5_state 38 = .ok (.invokevirtual 215, 3) := by decide +kernel
theorem dX5_state_41 : decode cX5_state 41 = .ok (.istore 4, 2) := by decide +kernel
theorem dX5_state_43 : decode cX5_state 43 = .ok (.iload_n 1, 1) := by decide +kernel
theorem dX5_state_44 : decode cX5_state 44 = .ok (.ifCond .ne 17, 3) := by decide +kernel
theorem dX5_state_47 : decode cX5_state 47 = .ok (.iload 4, 2) := by decide +kernel
theorem dX5_state_49 : decode cX5_state 49 = .ok (.iconst 3, 1) := by decide +kernel
theorem dX5_state_50 : decode cX5_state 50 = .ok (.if_icmp .ne 7, 3) := by decide +kernel
theorem dX5_state_53 : decode cX5_state 53 = .ok (.iconst 1, 1) := by decide +kernel
theorem dX5_state_54 : decode cX5_state 54 = .ok (.goto 37, 3) := by decide +kernel
theorem dX5_state_57 : decode cX5_state 57 = .ok (.iconst 0, 1) := by decide +kernel
theorem dX5_state_58 : decode cX5_state 58 = .ok (.goto 33, 3) := by decide +kernel
theorem dX5_state_61 : decode cX5_state 61 = .ok (.iload_n 1, 1) := by decide +kernel
theorem dX5_state_62 : decode cX5_state 62 = .ok (.iconst 1, 1) := by decide +kernel
theorem dX5_state_63 : decode cX5_state 63 = .ok (.if_icmp .ne 11, 3) := by decide +kernel
theorem dX5_state_66 : decode cX5_state 66 = .ok (.aload_n 0, 1) := by decide +kernel
theorem dX5_state_67 : decode cX5_state 67 = .ok (.iload_n 3, 1) := by decide +kernel
theorem dX5_state_68 : decode cX5_state 68 = .ok (.invokevirtual 218, 3) := by decide +kernel
theorem dX5_state_71 : decode cX5_state 71 = .ok (.goto 20, 3) := by decide +kernel
theorem dX5_state_74 : decode cX5_state 74 = .ok (.iload 4, 2) := by decide +kernel
theorem dX5_state_76 : decode cX5_state 76 = .ok (.iconst 1, 1) := by decide +kernel
theorem dX5_state_77 : decode cX5_state 77 = .ok (.if_icmp .eq 9, 3) := by decide +kernel
theorem dX5_state_80 : decode cX5_state 80 = .ok (.iload 4, 2) := by decide +kernel
theorem dX5_state_82 : decode cX5_state 82 = .ok (.iconst 2, 1) := by decide +kernel
theorem dX5_state_83 : decode cX5_state 83 = .ok (.if_icmp .ne 7, 3) := by decide +kernel
theorem dX5_state_86 : decode cX5_state 86 = .ok (.iconst 1, 1) := by decide +kernel
theorem dX5_state_87 : decode cX5_state 87 = .ok (.goto 4, 3) := by decide +kernel
theorem dX5_state_90 : decode cX5_state 90 = .ok (.iconst 0, 1) := by decide +kernel
theorem dX5_state_91 : decode cX5_state 91 = .ok (.istore 5, 2) := by decide +kernel
theorem dX5_state_93 : decode cX5_state 93 = .ok (.iload_n 2, 1) := by decide +kernel
theorem dX5_state_94 : decode cX5_state 94 = .ok (.iload 5, 2) := by decide +kernel
theorem dX5_state_96 : decode cX5_state 96 = .ok (.ifCond .eq 9, 3) := by decide +kernel
theorem dX5_state_99 : decode cX5_state 99 = .ok (.iconst 1, 1) := by decide +kernel
theorem dX5_state_100 : decode cX5_state 100 = .ok (.iload_n 3, 1) := by decide +kernel
theorem dX5_state_101 : decode cX5_state 101 = .ok (.ishl, 1) := by decide +kernel
theorem dX5_state_102 : decode cX5_state 102 = .ok (.goto 4, 3) := by decide +kernel
theorem dX5_state_105 : decode cX5_state 105 = .ok (.iconst 0, 1) := by decide +kernel
theorem dX5_state_106 : decode cX5_state 106 = .ok (.ior, 1) := by decide +kernel
theorem dX5_state_107 : decode cX5_state 107 = .ok (.istore_n 2, 1) := by decide +kernel
theorem dX5_state_108 : decode cX5_state 108 = .ok (.iinc 3 1, 3) := by decide +kernel
theorem dX5_state_111 : decode cX5_state 111 = .ok (.goto (-93), 3) := by decide +kernel
theorem dX5_state_114 : decode cX5_state 114 = .ok (.iload_n 2, 1) := by decide +kernel
theorem dX5_state_115 : decode cX5_state 115 = .ok (.ireturn, 1) := by decide +kernel
set_option maxRecDepth 20000 in
theorem ggX5_best_X5_in : GoodIn wsX5_best wsX5_in := goodIn_r _ [5] (by decide +kernel) (by decide +kernel)
set_option maxRecDepth 20000 in
theorem gX5_best_X5_in : GoodIn wsX5_best (va_wsS RX5 75 yX5_in wsX5_in) := goodIn_app (goodIn_of _ (by decide +kernel)) ggX5_best_X5_in
set_option maxRecDepth 20000 in
theorem ggX5_best_X5_reading : GoodIn wsX5_best wsX5_reading := goodIn_r _ [9, 1, 10, 11, 12, 13, 4, 14, 15, 16, 17, 18, 19, 20, 21, 22, 23, 24, 28, 29, 30, 31, 32, 33, 34, 35, 36, 37, 38, 39, 40, 41, 42, 43, 44, 45, 46, 47, 48, 49, 50, 51, 52, 53] (by decide +kernel) (by decide +kernel)
set_option maxRecDepth 20000 in
theorem gX5_best_X5_reading : GoodIn wsX5_best (wsV RX5 215 RX5 yX5_reading wsX5_reading) := goodIn_app (goodIn_of _ (by decide +kernel)) ggX5_best_X5_reading
set_option maxRecDepth 20000 in
theorem ggX5_best_X5_flag : GoodIn wsX5_best wsX5_flag := goodIn_r _ [27] (by decide +kernel) (by decide +kernel)
set_option maxRecDepth 20000 in
theorem gX5_best_X5_flag : GoodIn wsX5_best (va_wsS RX5 221 yX5_flag wsX5_flag) := goodIn_app (goodIn_of _ (by decide +kernel)) ggX5_best_X5_flag
theorem dX5_best_0 : decode cX5_best 0 = .ok (.iload_n 1, 1) := by decide +kernel
theorem dX5_best_1 : decode cX5_best 1 = .ok (.i2l, 1) := by decide +kernel
theorem dX5_best_2 : decode cX5_best 2 = .ok (.lconst 0, 1) := by decide +kernel
theorem dX5_best_3 : decode cX5_best 3 = .ok (.lconst 1, 1) := by decide +kernel
theorem dX5_best_4 : decode cX5_best 4 = .ok (.invokestatic 75, 3) := by decide +kernel
theorem dX5_best_7 : decode cX5_best 7 = .ok (.ifCond .ne 5, 3) := by decide +kernel
theorem dX5_best_10 : decode cX5_best 10 = .ok (.iconst (-1), 1) := by decide +kernel
theorem dX5_best_11 : decode cX5_best 11 = .ok (.ireturn, 1) := by decide +kernel
theorem dX5_best_12 : decode cX5_best 12 = .ok (.bipush (-4), 2) := by decide +kernel
theorem dX5_best_14 : decode cX5_best 14 = .ok (.istore_n 2, 1) := by decide +kernel
theorem dX5_best_15 : decode cX5_best 15 = .ok (.iconst 0, 1) := by decide +kernel
theorem dX5_best_16 : decode cX5_best 16 = .ok (.istore_n 3, 1) := by decide +kernel
theorem dX5_best_17 : decode cX5_best 17 = .ok (.iconst 0, 1) := by decide +kernel
theorem dX5_best_18 : decode cX5_best 18 = .ok (.istore 4, 2) := by decide +kernel
theorem dX5_best_20 : decode cX5_best 20 = .ok (.iload 4, 2) := by decide +kernel
theorem dX5_best_22 : decode cX5_best 22 = .ok (.bipush 9, 2) := by decide +kernel
theorem dX5_best_24 : decode cX5_best 24 = .ok (.if_icmp .ge 100, 3) := by decide +kernel
theorem dX5_best_27 : decode cX5_best 27 = .ok (.iconst 0, 1) := by decide +kernel
theorem dX5_best_28 : decode cX5_best 28 = .ok (.istore 5, 2) := by decide +kernel
theorem dX5_best_30 : decode cX5_best 30 = .ok (.iconst 0, 1) := by decide +kernel
theorem dX5_best_31 : decode cX5_best 31 = .ok (.istore 6, 2) := by decide +kernel
theorem dX5_best_33 : decode cX5_best 33 = .ok (.iload 6, 2) := by decide +kernel
theorem dX5_best_35 : decode cX5_best 35 = .ok (.aload_n 0, 1) := by decide +kernel
theorem dX5_best_36 : decode cX5_best 36 = .ok (.getfield 7, 3) := by decide +kernel
theorem dX5_best_39 : decode cX5_best 39 = .ok (.iconst 0, 1) := by decide +kernel
theorem dX5_best_40 : decode cX5_best 40 = .ok (.iaload, 1) := by decide +kernel
theorem dX5_best_41 : decode cX5_best 41 = .ok (.if_icmp .ge 34, 3) := by decide +kernel
theorem dX5_best_44 : decode cX5_best 44 = .ok (.iload 5, 2) := by decide +kernel
theorem dX5_best_46 : decode cX5_best 46 = .ok (.aload_n 0, 1) := by decide +kernel
theorem dX5_best_47 : decode cX5_best 47 = .ok (.iload 6, 2) := by decide +kernel
theorem dX5_best_49 : decode cX5_best 49 = .ok (.iload 4, 2) := by decide +kernel
theorem dX5_best_51 : decode cX5_best 51 = .ok (.invokevirtual 215, 3) := by decide +kernel
theorem dX5_best_54 : decode cX5_best 54 = .ok (.iconst 3, 1) := by decide +kernel
theorem dX5_best_55 : decode cX5_best 55 = .ok (.if_icmp .ne 7, 3) := by decide +kernel
theorem dX5_best_58 : decode cX5_best 58 = .ok (.iconst 1, 1) := by decide +kernel
theorem dX5_best_59 : decode cX5_best 59 = .ok (.goto 4, 3) := by decide +kernel
theorem dX5_best_62 : decode cX5_best 62 = .ok (.iconst 0, 1) := by decide +kernel
theorem dX5_best_63 : decode cX5_best 63 = .ok (.invokestatic 221, 3) := by decide +kernel
theorem dX5_best_66 : decode cX5_best 66 = .ok (.iadd, 1) := by decide +kernel
theorem dX5_best_67 : decode cX5_best 67 = .ok (.istore 5, 2) := by decide +kernel
theorem dX5_best_69 : decode cX5_best 69 = .ok (.iinc 6 1, 3) := by decide +kernel
theorem dX5_best_72 : decode cX5_best 72 = .ok (.goto (-39), 3) := by decide +kernel
theorem dX5_best_75 : decode cX5_best 75 = .ok (.iload_n 2, 1) := by decide +kernel
theorem dX5_best_76 : decode cX5_best 76 = .ok (.bipush (-4), 2) := by decide +kernel
theorem dX5_best_78 : decode cX5_best 78 = .ok (.if_icmp .eq 9, 3) := by decide +kernel
theorem dX5_best_81 : decode cX5_best 81 = .ok (.iload 5, 2) := by decide +kernel
theorem dX5_best_83 : decode cX5_best 83 = .ok (.iload_n 3, 1) := by decide +kernel
theorem dX5_best_84 : decode cX5_best 84 = .ok (.if_icmp .ge 7, 3) := by decide +kernel
theorem dX5_best_87 : decode cX5_best 87 = .ok (.iconst 1, 1) := by decide +kernel
theorem dX5_best_88 : decode cX5_best 88 = .ok (.goto 4, 3) := by decide +kernel
theorem dX5_best_91 : decode cX5_best 91 = .ok (.iconst 0, 1) := by decide +kernel
theorem dX5_best_92 : decode cX5_best 92 = .ok (.istore 6, 2) := by decide +kernel
theorem dX5_best_94 : decode cX5_best 94 = .ok (.iload 6, 2) := by decide +kernel
theorem dX5_best_96 : decode cX5_best 96 = .ok (.ifCond .eq 8, 3) := by decide +kernel
theorem dX5_best_99 : decode cX5_best 99 = .ok (.iload 4, 2) := by decide +kernel
theorem dX5_best_101 : decode cX5_best 101 = .ok (.goto 4, 3) := by decide +kernel
theorem dX5_best_104 : decode cX5_best 104 = .ok (.iload_n 2, 1) := by decide +kernel
theorem dX5_best_105 : decode cX5_best 105 = .ok (.istore_n 2, 1) := by decide +kernel
theorem dX5_best_106 : decode cX5_best 106 = .ok (.iload 6, 2) := by decide +kernel
theorem dX5_best_108 : decode cX5_best 108 = .ok (.ifCond .eq 8, 3) := by decide +kernel
theorem dX5_best_111 : decode cX5_best 111 = .ok (.iload 5, 2) := by decide +kernel
theorem dX5_best_113 : decode cX5_best 113 = .ok (.goto 4, 3) := by decide +kernel
theorem dX5_best_116 : decode cX5_best 116 = .ok (.iload_n 3, 1) := by decide +kernel
theorem dX5_best_117 : decode cX5_best 117 = .ok (.istore_n 3, 1) := by decide +kernel
theorem dX5_best_118 : decode cX5_best 118 = .ok (.iinc 4 1, 3) := by decide +kernel
theorem dX5_best_121 : decode cX5_best 121 = .ok (.goto (-101), 3) := by decide +kernel
theorem dX5_best_124 : decode cX5_best 124 = .ok (.iload_n 1, 1) := by decide +kernel
theorem dX5_best_125 : decode cX5_best 125 = .ok (.ifCond .ne 7, 3) := by decide +kernel
theorem dX5_best_128 : decode cX5_best 128 = .ok (.iload_n 2, 1) := by decide +kernel
theorem dX5_best_129 : decode cX5_best 129 = .ok (.goto 4, 3) := by decide +kernel
theorem dX5_best_132 : decode cX5_best 132 = .ok (.iload_n 3, 1) := by decide +kernel
theorem dX5_best_133 : decode cX5_best 133 = .ok (.ireturn, 1) := by decide +kernel
set_option maxRecDepth 20000 in
theorem ggX5_takes_X5_endOf : GoodIn wsX5_takes wsX5_endOf := goodIn_r _ [8, 1, 9, 10, 11, 7, 12, 3, 38, 39, 40, 41, 42, 43, 44, 45, 46, 47, 48, 49, 50, 51, 52, 53, 54, 55, 56, 57, 58, 59, 60, 61, 62, 63] (by decide +kernel) (by decide +kernel)
set_option maxRecDepth 20000 in
theorem gX5_takes_X5_endOf : GoodIn wsX5_takes (wsV RX5 179 RX5 yX5_endOf wsX5_endOf) := goodIn_app (goodIn_of _ (by decide +kernel)) ggX5_takes_X5_endOf
set_option maxRecDepth 20000 in
theorem ggX5_takes_X5_sooner : GoodIn wsX5_takes wsX5_sooner := goodIn_r _ [16, 17, 18, 19, 7, 20, 3, 21, 22, 23, 24, 25, 26, 27, 1, 28, 29, 30, 31, 32, 33, 34, 35, 36, 37, 38, 39, 40, 41, 42, 43, 44, 45, 46, 47, 48, 49, 50, 51, 52, 53, 54, 55, 56, 57, 58, 59, 60, 61, 62, 63] (by decide +kernel) (by decide +kernel)
set_option maxRecDepth 20000 in
theorem gX5_takes_X5_sooner : GoodIn wsX5_takes (wsV RX5 170 RX5 yX5_sooner wsX5_sooner) := goodIn_app (goodIn_of _ (by decide +kernel)) ggX5_takes_X5_sooner
set_option maxRecDepth 20000 in
theorem ggX5_takes_X5_longOf : GoodIn wsX5_takes wsX5_longOf := goodIn_r _ [12, 3, 38, 39, 40, 41, 42, 43, 44, 45, 46, 47, 48, 49, 50, 51, 52, 53, 54, 55, 56, 57, 58, 59, 60, 61, 62, 63] (by decide +kernel) (by decide +kernel)
set_option maxRecDepth 20000 in
theorem gX5_takes_X5_longOf : GoodIn wsX5_takes (wsV RX5 176 RX5 yX5_longOf wsX5_longOf) := goodIn_app (goodIn_of _ (by decide +kernel)) ggX5_takes_X5_longOf
theorem dX5_takes_0 : decode cX5_takes 0 = .ok (.iload_n 1, 1) := by decide +kernel
theorem dX5_takes_1 : decode cX5_takes 1 = .ok (.bipush 8, 2) := by decide +kernel
theorem dX5_takes_3 : decode cX5_takes 3 = .ok (.if_icmp .ne 14, 3) := by decide +kernel
theorem dX5_takes_6 : decode cX5_takes 6 = .ok (.aload_n 0, 1) := by decide +kernel
theorem dX5_takes_7 : decode cX5_takes 7 = .ok (.getfield 7, 3) := by decide +kernel
theorem dX5_takes_10 : decode cX5_takes 10 = .ok (.sipush 325, 3) := by decide +kernel
theorem dX5_takes_13 : decode cX5_takes 13 = .ok (.iaload, 1) := by decide +kernel
theorem dX5_takes_14 : decode cX5_takes 14 = .ok (.goto 13, 3) := by decide +kernel
theorem dX5_takes_17 : decode cX5_takes 17 = .ok (.aload_n 0, 1) := by decide +kernel
theorem dX5_takes_18 : decode cX5_takes 18 = .ok (.aload_n 0, 1) := by decide +kernel
theorem dX5_takes_19 : decode cX5_takes 19 = .ok (.getfield 41, 3) := by decide +kernel
theorem dX5_takes_22 : decode cX5_takes 22 = .ok (.iload_n 1, 1) := by decide +kernel
theorem dX5_takes_23 : decode cX5_takes 23 = .ok (.iaload, 1) := by decide +kernel
theorem dX5_takes_24 : decode cX5_takes 24 = .ok (.invokevirtual 179, 3) := by decide +kernel
theorem dX5_takes_27 : decode cX5_takes 27 = .ok (.istore_n 3, 1) := by decide +kernel
theorem dX5_takes_28 : decode cX5_takes 28 = .ok (.aload_n 0, 1) := by decide +kernel
theorem dX5_takes_29 : decode cX5_takes 29 = .ok (.iload_n 3, 1) := by decide +kernel
theorem dX5_takes_30 : decode cX5_takes 30 = .ok (.aload_n 0, 1) := by decide +kernel
theorem dX5_takes_31 : decode cX5_takes 31 = .ok (.getfield 7, 3) := by decide +kernel
theorem dX5_takes_34 : decode cX5_takes 34 = .ok (.iconst 1, 1) := by decide +kernel
theorem dX5_takes_35 : decode cX5_takes 35 = .ok (.aload_n 0, 1) := by decide +kernel
theorem dX5_takes_36 : decode cX5_takes 36 = .ok (.getfield 41, 3) := by decide +kernel
theorem dX5_takes_39 : decode cX5_takes 39 = .ok (.iload_n 2, 1) := by decide +kernel
theorem dX5_takes_40 : decode cX5_takes 40 = .ok (.iaload, 1) := by decide +kernel
theorem dX5_takes_41 : decode cX5_takes 41 = .ok (.iadd, 1) := by decide +kernel
theorem dX5_takes_42 : decode cX5_takes 42 = .ok (.iaload, 1) := by decide +kernel
theorem dX5_takes_43 : decode cX5_takes 43 = .ok (.invokevirtual 170, 3) := by decide +kernel
theorem dX5_takes_46 : decode cX5_takes 46 = .ok (.aload_n 0, 1) := by decide +kernel
theorem dX5_takes_47 : decode cX5_takes 47 = .ok (.getfield 17, 3) := by decide +kernel
theorem dX5_takes_50 : decode cX5_takes 50 = .ok (.iconst 3, 1) := by decide +kernel
theorem dX5_takes_51 : decode cX5_takes 51 = .ok (.iaload, 1) := by decide +kernel
theorem dX5_takes_52 : decode cX5_takes 52 = .ok (.aload_n 0, 1) := by decide +kernel
theorem dX5_takes_53 : decode cX5_takes 53 = .ok (.aload_n 0, 1) := by decide +kernel
theorem dX5_takes_54 : decode cX5_takes 54 = .ok (.getfield 7, 3) := by decide +kernel
theorem dX5_takes_57 : decode cX5_takes 57 = .ok (.bipush 13, 2) := by decide +kernel
theorem dX5_takes_59 : decode cX5_takes 59 = .ok (.aload_n 0, 1) := by decide +kernel
theorem dX5_takes_60 : decode cX5_takes 60 = .ok (.getfield 41, 3) := by decide +kernel
theorem dX5_takes_63 : decode cX5_takes 63 = .ok (.iload_n 2, 1) := by decide +kernel
theorem dX5_takes_64 : decode cX5_takes 64 = .ok (.iaload, 1) := by decide +kernel
theorem dX5_takes_65 : decode cX5_takes 65 = .ok (.iadd, 1) := by decide +kernel
theorem dX5_takes_66 : decode cX5_takes 66 = .ok (.iaload, 1) := by decide +kernel
theorem dX5_takes_67 : decode cX5_takes 67 = .ok (.invokevirtual 176, 3) := by decide +kernel
theorem dX5_takes_70 : decode cX5_takes 70 = .ok (.imul, 1) := by decide +kernel
theorem dX5_takes_71 : decode cX5_takes 71 = .ok (.iadd, 1) := by decide +kernel
theorem dX5_takes_72 : decode cX5_takes 72 = .ok (.ireturn, 1) := by decide +kernel
set_option maxRecDepth 20000 in
theorem ggX5_areBlocks_X5_in : GoodIn wsX5_areBlocks wsX5_in := goodIn_r _ [5] (by decide +kernel) (by decide +kernel)
set_option maxRecDepth 20000 in
theorem gX5_areBlocks_X5_in : GoodIn wsX5_areBlocks (va_wsS RX5 75 yX5_in wsX5_in) := goodIn_app (goodIn_of _ (by decide +kernel)) ggX5_areBlocks_X5_in
theorem dX5_areBlocks_0 : decode cX5_areBlocks 0 = .ok (.iload_n 1, 1) := by decide +kernel
theorem dX5_areBlocks_1 : decode cX5_areBlocks 1 = .ok (.i2l, 1) := by decide +kernel
theorem dX5_areBlocks_2 : decode cX5_areBlocks 2 = .ok (.lconst 0, 1) := by decide +kernel
theorem dX5_areBlocks_3 : decode cX5_areBlocks 3 = .ok (.iconst 1, 1) := by decide +kernel
theorem dX5_areBlocks_4 : decode cX5_areBlocks 4 = .ok (.aload_n 0, 1) := by decide +kernel
theorem dX5_areBlocks_5 : decode cX5_areBlocks 5 = .ok (.getfield 7, 3) := by decide +kernel
theorem dX5_areBlocks_8 : decode cX5_areBlocks 8 = .ok (.iconst 0, 1) := by decide +kernel
theorem dX5_areBlocks_9 : decode cX5_areBlocks 9 = .ok (.iaload, 1) := by decide +kernel
theorem dX5_areBlocks_10 : decode cX5_areBlocks 10 = .ok (.ishl, 1) := by decide +kernel
theorem dX5_areBlocks_11 : decode cX5_areBlocks 11 = .ok (.iconst 1, 1) := by decide +kernel
theorem dX5_areBlocks_12 : decode cX5_areBlocks 12 = .ok (.isub, 1) := by decide +kernel
theorem dX5_areBlocks_13 : decode cX5_areBlocks 13 = .ok (.i2l, 1) := by decide +kernel
theorem dX5_areBlocks_14 : decode cX5_areBlocks 14 = .ok (.invokestatic 75, 3) := by decide +kernel
theorem dX5_areBlocks_17 : decode cX5_areBlocks 17 = .ok (.ireturn, 1) := by decide +kernel
theorem dX5_countOf_0 : decode cX5_countOf 0 = .ok (.iconst 0, 1) := by decide +kernel
theorem dX5_countOf_1 : decode cX5_countOf 1 = .ok (.istore_n 1, 1) := by decide +kernel
theorem dX5_countOf_2 : decode cX5_countOf 2 = .ok (.iconst 0, 1) := by decide +kernel
theorem dX5_countOf_3 : decode cX5_countOf 3 = .ok (.istore_n 2, 1) := by decide +kernel
theorem dX5_countOf_4 : decode cX5_countOf 4 = .ok (.iload_n 2, 1) := by decide +kernel
theorem dX5_countOf_5 : decode cX5_countOf 5 = .ok (.bipush 12, 2) := by decide +kernel
theorem dX5_countOf_7 : decode cX5_countOf 7 = .ok (.if_icmp .ge 17, 3) := by decide +kernel
theorem dX5_countOf_10 : decode cX5_countOf 10 = .ok (.iload_n 1, 1) := by decide +kernel
theorem dX5_countOf_11 : decode cX5_countOf 11 = .ok (.iload_n 0, 1) := by decide +kernel
theorem dX5_countOf_12 : decode cX5_countOf 12 = .ok (.iload_n 2, 1) := by decide +kernel
theorem dX5_countOf_13 : decode cX5_countOf 13 = .ok (.ishr, 1) := by decide +kernel
theorem dX5_countOf_14 : decode cX5_countOf 14 = .ok (.iconst 1, 1) := by decide +kernel
theorem dX5_countOf_15 : decode cX5_countOf 15 = .ok (.iand, 1) := by decide +kernel
theorem dX5_countOf_16 : decode cX5_countOf 16 = .ok (.iadd, 1) := by decide +kernel
theorem dX5_countOf_17 : decode cX5_countOf 17 = .ok (.istore_n 1, 1) := by decide +kernel
theorem dX5_countOf_18 : decode cX5_countOf 18 = .ok (.iinc 2 1, 3) := by decide +kernel
theorem dX5_countOf_21 : decode cX5_countOf 21 = .ok (.goto (-17), 3) := by decide +kernel
theorem dX5_countOf_24 : decode cX5_countOf 24 = .ok (.iload_n 1, 1) := by decide +kernel
theorem dX5_countOf_25 : decode cX5_countOf 25 = .ok (.ireturn, 1) := by decide +kernel
set_option maxRecDepth 20000 in
theorem ggX5_layRest_X5_takes : GoodIn wsX5_layRest wsX5_takes := goodIn_r _ [10, 2, 3, 11, 12, 13, 14, 9, 15, 16, 17, 18, 19, 20, 21, 22, 23, 24, 25, 26, 27, 28, 29, 30, 31, 32, 33, 34, 35, 36, 37, 38, 39, 40, 41, 42, 43, 44, 45, 46, 47, 48, 49, 50, 51, 52, 53, 54, 55, 56, 57, 58, 59, 60, 61, 62, 63, 64, 65, 66, 67, 68, 69, 70] (by decide +kernel) (by decide +kernel)
set_option maxRecDepth 20000 in
theorem gX5_layRest_X5_takes : GoodIn wsX5_layRest (wsV RX5 229 RX5 yX5_takes wsX5_takes) := goodIn_app (goodIn_of _ (by decide +kernel)) ggX5_layRest_X5_takes
set_option maxRecDepth 20000 in
theorem ggX5_layRest_X5_less : GoodIn wsX5_layRest wsX5_less := goodIn_r _ [44] (by decide +kernel) (by decide +kernel)
set_option maxRecDepth 20000 in
theorem gX5_layRest_X5_less : GoodIn wsX5_layRest (va_wsS RX5 165 yX5_less wsX5_less) := goodIn_app (goodIn_of _ (by decide +kernel)) ggX5_layRest_X5_less
theorem dX5_layRest_0 : decode cX5_layRest 0 = .ok (.aload_n 0, 1) := by decide +kernel
theorem dX5_layRest_1 : decode cX5_layRest 1 = .ok (.iconst 0, 1) := by decide +kernel
theorem dX5_layRest_2 : decode cX5_layRest 2 = .ok (.putfield 225, 3) := by decide +kernel
theorem dX5_layRest_5 : decode cX5_layRest 5 = .ok (.iconst 0, 1) := by decide +kernel
theorem dX5_layRest_6 : decode cX5_layRest 6 = .ok (.istore_n 2, 1) := by decide +kernel
theorem dX5_layRest_7 : decode cX5_layRest 7 = .ok (.iload_n 2, 1) := by decide +kernel
theorem dX5_layRest_8 : decode cX5_layRest 8 = .ok (.aload_n 0, 1) := by decide +kernel
theorem dX5_layRest_9 : decode cX5_layRest 9 = .ok (.getfield 7, 3) := by decide +kernel
theorem dX5_layRest_12 : decode cX5_layRest 12 = .ok (.iconst 0, 1) := by decide +kernel
theorem dX5_layRest_13 : decode cX5_layRest 13 = .ok (.iaload, 1) := by decide +kernel
theorem dX5_layRest_14 : decode cX5_layRest 14 = .ok (.if_icmp .ge 38, 3) := by decide +kernel
theorem dX5_layRest_17 : decode cX5_layRest 17 = .ok (.iload_n 1, 1) := by decide +kernel
theorem dX5_layRest_18 : decode cX5_layRest 18 = .ok (.iload_n 2, 1) := by decide +kernel
theorem dX5_layRest_19 : decode cX5_layRest 19 = .ok (.ishr, 1) := by decide +kernel
theorem dX5_layRest_20 : decode cX5_layRest 20 = .ok (.iconst 1, 1) := by decide +kernel
theorem dX5_layRest_21 : decode cX5_layRest 21 = .ok (.iand, 1) := by decide +kernel
theorem dX5_layRest_22 : decode cX5_layRest 22 = .ok (.iconst 1, 1) := by decide +kernel
theorem dX5_layRest_23 : decode cX5_layRest 23 = .ok (.if_icmp .ne 23, 3) := by decide +kernel
theorem dX5_layRest_26 : decode cX5_layRest 26 = .ok (.aload_n 0, 1) := by decide +kernel
theorem dX5_layRest_27 : decode cX5_layRest 27 = .ok (.getfield 41, 3) := by decide +kernel
theorem dX5_layRest_30 : decode cX5_layRest 30 = .ok (.aload_n 0, 1) := by decide +kernel
theorem dX5_layRest_31 : decode cX5_layRest 31 = .ok (.getfield 225, 3) := by decide +kernel
theorem dX5_layRest_34 : decode cX5_layRest 34 = .ok (.iload_n 2, 1) := by decide +kernel
theorem dX5_layRest_35 : decode cX5_layRest 35 = .ok (.iastore, 1) := by decide +kernel
theorem dX5_layRest_36 : decode cX5_layRest 36 = .ok (.aload_n 0, 1) := by decide +kernel
theorem dX5_layRest_37 : decode cX5_layRest 37 = .ok (.dup, 1) := by decide +kernel
theorem dX5_layRest_38 : decode cX5_layRest 38 = .ok (.getfield 225, 3) := by decide +kernel
theorem dX5_layRest_41 : decode cX5_layRest 41 = .ok (.iconst 1, 1) := by decide +kernel
theorem dX5_layRest_42 : decode cX5_layRest 42 = .ok (.iadd, 1) := by decide +kernel
theorem dX5_layRest_43 : decode cX5_layRest 43 = .ok (.putfield 225, 3) := by decide +kernel
theorem dX5_layRest_46 : decode cX5_layRest 46 = .ok (.iinc 2 1, 3) := by decide +kernel
theorem dX5_layRest_49 : decode cX5_layRest 49 = .ok (.goto (-42), 3) := by decide +kernel
theorem dX5_layRest_52 : decode cX5_layRest 52 = .ok (.iconst 1, 1) := by decide +kernel
theorem dX5_layRest_53 : decode cX5_layRest 53 = .ok (.aload_n 0, 1) := by decide +kernel
theorem dX5_layRest_54 : decode cX5_layRest 54 = .ok (.getfield 225, 3) := by decide +kernel
theorem dX5_layRest_57 : decode cX5_layRest 57 = .ok (.ishl, 1) := by decide +kernel
theorem dX5_layRest_58 : decode cX5_layRest 58 = .ok (.iconst 1, 1) := by decide +kernel
theorem dX5_layRest_59 : decode cX5_layRest 59 = .ok (.isub, 1) := by decide +kernel
theorem dX5_layRest_60 : decode cX5_layRest 60 = .ok (.istore_n 2, 1) := by decide +kernel
theorem dX5_layRest_61 : decode cX5_layRest 61 = .ok (.iload_n 2, 1) := by decide +kernel
theorem dX5_layRest_62 : decode cX5_layRest 62 = .ok (.istore_n 3, 1) := by decide +kernel
theorem dX5_layRest_63 : decode cX5_layRest 63 = .ok (.iload_n 3, 1) := by decide +kernel
theorem dX5_layRest_64 : decode cX5_layRest 64 = .ok (.ifCond .lt 162, 3) := by decide +kernel
theorem dX5_layRest_67 : decode cX5_layRest 67 = .ok (.iconst 0, 1) := by decide +kernel
theorem dX5_layRest_68 : decode cX5_layRest 68 = .ok (.istore 4, 2) := by decide +kernel
theorem dX5_layRest_70 : decode cX5_layRest 70 = .ok (.iload 4, 2) := by decide +kernel
theorem dX5_layRest_72 : decode cX5_layRest 72 = .ok (.bipush 9, 2) := by decide +kernel
theorem dX5_layRest_74 : decode cX5_layRest 74 = .ok (.if_icmp .ge 146, 3) := by decide +kernel
theorem dX5_layRest_77 : decode cX5_layRest 77 = .ok (.iload_n 3, 1) := by decide +kernel
theorem dX5_layRest_78 : decode cX5_layRest 78 = .ok (.iload_n 2, 1) := by decide +kernel
theorem dX5_layRest_79 : decode cX5_layRest 79 = .ok (.if_icmp .ne 7, 3) := by decide +kernel
theorem dX5_layRest_82 : decode cX5_layRest 82 = .ok (.iconst 0, 1) := by decide +kernel
theorem dX5_layRest_83 : decode cX5_layRest 83 = .ok (.goto 5, 3) := by decide +kernel
theorem dX5_layRest_86 : decode cX5_layRest 86 = .ok (.ldc 228, 2) := by decide +kernel
theorem dX5_layRest_88 : decode cX5_layRest 88 = .ok (.istore 5, 2) := by decide +kernel
theorem dX5_layRest_90 : decode cX5_layRest 90 = .ok (.iload 4, 2) := by decide +kernel
theorem dX5_layRest_92 : decode cX5_layRest 92 = .ok (.bipush 8, 2) := by decide +kernel
theorem dX5_layRest_94 : decode cX5_layRest 94 = .ok (.if_icmp .ne 15, 3) := by decide +kernel
theorem dX5_layRest_97 : decode cX5_layRest 97 = .ok (.iload_n 3, 1) := by decide +kernel
theorem dX5_layRest_98 : decode cX5_layRest 98 = .ok (.ifCond .ne 7, 3) := by decide +kernel
theorem dX5_layRest_101 : decode cX5_layRest 101 = .ok (.iconst 1, 1) := by decide +kernel
theorem dX5_layRest_102 : decode cX5_layRest 102 = .ok (.goto 31, 3) := by decide +kernel
theorem dX5_layRest_105 : decode cX5_layRest 105 = .ok (.iconst 0, 1) := by decide +kernel
theorem dX5_layRest_106 : decode cX5_layRest 106 = .ok (.goto 27, 3) := by decide +kernel
theorem dX5_layRest_109 : decode cX5_layRest 109 = .ok (.iload 4, 2) := by decide +kernel
theorem dX5_layRest_111 : decode cX5_layRest 111 = .ok (.aload_n 0, 1) := by decide +kernel
theorem dX5_layRest_112 : decode cX5_layRest 112 = .ok (.getfield 225, 3) := by decide +kernel
theorem dX5_layRest_115 : decode cX5_layRest 115 = .ok (.if_icmp .ge 17, 3) := by decide +kernel
theorem dX5_layRest_118 : decode cX5_layRest 118 = .ok (.iload_n 3, 1) := by decide +kernel
theorem dX5_layRest_119 : decode cX5_layRest 119 = .ok (.iload 4, 2) := by decide +kernel
theorem dX5_layRest_121 : decode cX5_layRest 121 = .ok (.ishr, 1) := by decide +kernel
theorem dX5_layRest_122 : decode cX5_layRest 122 = .ok (.iconst 1, 1) := by decide +kernel
theorem dX5_layRest_123 : decode cX5_layRest 123 = .ok (.iand, 1) := by decide +kernel
theorem dX5_layRest_124 : decode cX5_layRest 124 = .ok (.iconst 1, 1) := by decide +kernel
theorem dX5_layRest_125 : decode cX5_layRest 125 = .ok (.if_icmp .ne 7, 3) := by decide +kernel
theorem dX5_layRest_128 : decode cX5_layRest 128 = .ok (.iconst 1, 1) := by decide +kernel
theorem dX5_layRest_129 : decode cX5_layRest 129 = .ok (.goto 4, 3) := by decide +kernel
theorem dX5_layRest_132 : decode cX5_layRest 132 = .ok (.iconst 0, 1) := by decide +kernel
theorem dX5_layRest_133 : decode cX5_layRest 133 = .ok (.istore 6, 2) := by decide +kernel
theorem dX5_layRest_135 : decode cX5_layRest 135 = .ok (.iconst 0, 1) := by decide +kernel
theorem dX5_layRest_136 : decode cX5_layRest 136 = .ok (.istore 7, 2) := by decide +kernel
theorem dX5_layRest_138 : decode cX5_layRest 138 = .ok (.iload 7, 2) := by decide +kernel
theorem dX5_layRest_140 : decode cX5_layRest 140 = .ok (.aload_n 0, 1) := by decide +kernel
theorem dX5_layRest_141 : decode cX5_layRest 141 = .ok (.getfield 225, 3) := by decide +kernel
theorem dX5_layRest_144 : decode cX5_layRest 144 = .ok (.if_icmp .ge 56, 3) := by decide +kernel
theorem dX5_layRest_147 : decode cX5_layRest 147 = .ok (.iload 6, 2) := by decide +kernel
theorem dX5_layRest_149 : decode cX5_layRest 149 = .ok (.ifCond .eq 51, 3) := by decide +kernel
theorem dX5_layRest_152 : decode cX5_layRest 152 = .ok (.iload_n 3, 1) := by decide +kernel
theorem dX5_layRest_153 : decode cX5_layRest 153 = .ok (.iload 7, 2) := by decide +kernel
theorem dX5_layRest_155 : decode cX5_layRest 155 = .ok (.ishr, 1) := by decide +kernel
theorem dX5_layRest_156 : decode cX5_layRest 156 = .ok (.iconst 1, 1) := by decide +kernel
theorem dX5_layRest_157 : decode cX5_layRest 157 = .ok (.iand, 1) := by decide +kernel
theorem dX5_layRest_158 : decode cX5_layRest 158 = .ok (.ifCond .ne 36, 3) := by decide +kernel
theorem dX5_layRest_161 : decode cX5_layRest 161 = .ok (.iload 5, 2) := by decide +kernel
theorem dX5_layRest_163 : decode cX5_layRest 163 = .ok (.aload_n 0, 1) := by decide +kernel
theorem dX5_layRest_164 : decode cX5_layRest 164 = .ok (.iload 4, 2) := by decide +kernel
theorem dX5_layRest_166 : decode cX5_layRest 166 = .ok (.iload 7, 2) := by decide +kernel
theorem dX5_layRest_168 : decode cX5_layRest 168 = .ok (.invokevirtual 229, 3) := by decide +kernel
theorem dX5_layRest_171 : decode cX5_layRest 171 = .ok (.aload_n 0, 1) := by decide +kernel
theorem dX5_layRest_172 : decode cX5_layRest 172 = .ok (.getfield 38, 3) := by decide +kernel
theorem dX5_layRest_175 : decode cX5_layRest 175 = .ok (.bipush 13, 2) := by decide +kernel
theorem dX5_layRest_177 : decode cX5_layRest 177 = .ok (.iload_n 3, 1) := by decide +kernel
theorem dX5_layRest_178 : decode cX5_layRest 178 = .ok (.iconst 1, 1) := by decide +kernel
theorem dX5_layRest_179 : decode cX5_layRest 179 = .ok (.iload 7, 2) := by decide +kernel
theorem dX5_layRest_181 : decode cX5_layRest 181 = .ok (.ishl, 1) := by decide +kernel
theorem dX5_layRest_182 : decode cX5_layRest 182 = .ok (.ior, 1) := by decide +kernel
theorem dX5_layRest_183 : decode cX5_layRest 183 = .ok (.imul, 1) := by decide +kernel
theorem dX5_layRest_184 : decode cX5_layRest 184 = .ok (.iload 7, 2) := by decide +kernel
theorem dX5_layRest_186 : decode cX5_layRest 186 = .ok (.iadd, 1) := by decide +kernel
theorem dX5_layRest_187 : decode cX5_layRest 187 = .ok (.iaload, 1) := by decide +kernel
theorem dX5_layRest_188 : decode cX5_layRest 188 = .ok (.iadd, 1) := by decide +kernel
theorem dX5_layRest_189 : decode cX5_layRest 189 = .ok (.invokestatic 165, 3) := by decide +kernel
theorem dX5_layRest_192 : decode cX5_layRest 192 = .ok (.istore 5, 2) := by decide +kernel
theorem dX5_layRest_194 : decode cX5_layRest 194 = .ok (.iinc 7 1, 3) := by decide +kernel
theorem dX5_layRest_197 : decode cX5_layRest 197 = .ok (.goto (-59), 3) := by decide +kernel
theorem dX5_layRest_200 : decode cX5_layRest 200 = .ok (.aload_n 0, 1) := by decide +kernel
theorem dX5_layRest_201 : decode cX5_layRest 201 = .ok (.getfield 38, 3) := by decide +kernel
theorem dX5_layRest_204 : decode cX5_layRest 204 = .ok (.bipush 13, 2) := by decide +kernel
theorem dX5_layRest_206 : decode cX5_layRest 206 = .ok (.iload_n 3, 1) := by decide +kernel
theorem dX5_layRest_207 : decode cX5_layRest 207 = .ok (.imul, 1) := by decide +kernel
theorem dX5_layRest_208 : decode cX5_layRest 208 = .ok (.iload 4, 2) := by decide +kernel
theorem dX5_layRest_210 : decode cX5_layRest 210 = .ok (.iadd, 1) := by decide +kernel
theorem dX5_layRest_211 : decode cX5_layRest 211 = .ok (.iload 5, 2) := by decide +kernel
theorem dX5_layRest_213 : decode cX5_layRest 213 = .ok (.iastore, 1) := by decide +kernel
theorem dX5_layRest_214 : decode cX5_layRest 214 = .ok (.iinc 4 1, 3) := by decide +kernel
theorem dX5_layRest_217 : decode cX5_layRest 217 = .ok (.goto (-147), 3) := by decide +kernel
theorem dX5_layRest_220 : decode cX5_layRest 220 = .ok (.iinc 3 (-1), 3) := by decide +kernel
theorem dX5_layRest_223 : decode cX5_layRest 223 = .ok (.goto (-160), 3) := by decide +kernel
theorem dX5_layRest_226 : decode cX5_layRest 226 = .ok (.return_, 1) := by decide +kernel
set_option maxRecDepth 20000 in
theorem ggX5_follows_X5_takes : GoodIn wsX5_follows wsX5_takes := goodIn_r _ [7, 8, 9, 10, 11, 12, 13, 6, 14, 15, 16, 17, 18, 19, 20, 21, 22, 23, 24, 25, 26, 27, 28, 29, 30, 31, 32, 33, 34, 35, 36, 37, 38, 39, 40, 41, 42, 43, 44, 45, 46, 47, 48, 49, 50, 51, 52, 53, 54, 55, 56, 57, 58, 59, 60, 61, 62, 63, 64, 65, 66, 67, 68, 69] (by decide +kernel) (by decide +kernel)
set_option maxRecDepth 20000 in
theorem gX5_follows_X5_takes : GoodIn wsX5_follows (wsV RX5 229 RX5 yX5_takes wsX5_takes) := goodIn_app (goodIn_of _ (by decide +kernel)) ggX5_follows_X5_takes
theorem dX5_follows_0 : decode cX5_follows 0 = .ok (.bipush (-4), 2) := by decide +kernel
theorem dX5_follows_2 : decode cX5_follows 2 = .ok (.istore_n 3, 1) := by decide +kernel
theorem dX5_follows_3 : decode cX5_follows 3 = .ok (.aload_n 0, 1) := by decide +kernel
theorem dX5_follows_4 : decode cX5_follows 4 = .ok (.getfield 225, 3) := by decide +kernel
theorem dX5_follows_7 : decode cX5_follows 7 = .ok (.iconst 1, 1) := by decide +kernel
theorem dX5_follows_8 : decode cX5_follows 8 = .ok (.isub, 1) := by decide +kernel
theorem dX5_follows_9 : decode cX5_follows 9 = .ok (.istore 4, 2) := by decide +kernel
theorem dX5_follows_11 : decode cX5_follows 11 = .ok (.iload 4, 2) := by decide +kernel
theorem dX5_follows_13 : decode cX5_follows 13 = .ok (.ifCond .lt 76, 3) := by decide +kernel
theorem dX5_follows_16 : decode cX5_follows 16 = .ok (.iload_n 1, 1) := by decide +kernel
theorem dX5_follows_17 : decode cX5_follows 17 = .ok (.iload 4, 2) := by decide +kernel
theorem dX5_follows_19 : decode cX5_follows 19 = .ok (.ishr, 1) := by decide +kernel
theorem dX5_follows_20 : decode cX5_follows 20 = .ok (.iconst 1, 1) := by decide +kernel
theorem dX5_follows_21 : decode cX5_follows 21 = .ok (.iand, 1) := by decide +kernel
theorem dX5_follows_22 : decode cX5_follows 22 = .ok (.ifCond .ne 46, 3) := by decide +kernel
theorem dX5_follows_25 : decode cX5_follows 25 = .ok (.aload_n 0, 1) := by decide +kernel
theorem dX5_follows_26 : decode cX5_follows 26 = .ok (.iload_n 2, 1) := by decide +kernel
theorem dX5_follows_27 : decode cX5_follows 27 = .ok (.iload 4, 2) := by decide +kernel
theorem dX5_follows_29 : decode cX5_follows 29 = .ok (.invokevirtual 229, 3) := by decide +kernel
theorem dX5_follows_32 : decode cX5_follows 32 = .ok (.aload_n 0, 1) := by decide +kernel
theorem dX5_follows_33 : decode cX5_follows 33 = .ok (.getfield 38, 3) := by decide +kernel
theorem dX5_follows_36 : decode cX5_follows 36 = .ok (.bipush 13, 2) := by decide +kernel
theorem dX5_follows_38 : decode cX5_follows 38 = .ok (.iload_n 1, 1) := by decide +kernel
theorem dX5_follows_39 : decode cX5_follows 39 = .ok (.iconst 1, 1) := by decide +kernel
theorem dX5_follows_40 : decode cX5_follows 40 = .ok (.iload 4, 2) := by decide +kernel
theorem dX5_follows_42 : decode cX5_follows 42 = .ok (.ishl, 1) := by decide +kernel
theorem dX5_follows_43 : decode cX5_follows 43 = .ok (.ior, 1) := by decide +kernel
theorem dX5_follows_44 : decode cX5_follows 44 = .ok (.imul, 1) := by decide +kernel
theorem dX5_follows_45 : decode cX5_follows 45 = .ok (.iload 4, 2) := by decide +kernel
theorem dX5_follows_47 : decode cX5_follows 47 = .ok (.iadd, 1) := by decide +kernel
theorem dX5_follows_48 : decode cX5_follows 48 = .ok (.iaload, 1) := by decide +kernel
theorem dX5_follows_49 : decode cX5_follows 49 = .ok (.iadd, 1) := by decide +kernel
theorem dX5_follows_50 : decode cX5_follows 50 = .ok (.aload_n 0, 1) := by decide +kernel
theorem dX5_follows_51 : decode cX5_follows 51 = .ok (.getfield 38, 3) := by decide +kernel
theorem dX5_follows_54 : decode cX5_follows 54 = .ok (.bipush 13, 2) := by decide +kernel
theorem dX5_follows_56 : decode cX5_follows 56 = .ok (.iload_n 1, 1) := by decide +kernel
theorem dX5_follows_57 : decode cX5_follows 57 = .ok (.imul, 1) := by decide +kernel
theorem dX5_follows_58 : decode cX5_follows 58 = .ok (.iload_n 2, 1) := by decide +kernel
theorem dX5_follows_59 : decode cX5_follows 59 = .ok (.iadd, 1) := by decide +kernel
theorem dX5_follows_60 : decode cX5_follows 60 = .ok (.iaload, 1) := by decide +kernel
theorem dX5_follows_61 : decode cX5_follows 61 = .ok (.if_icmp .ne 7, 3) := by decide +kernel
theorem dX5_follows_64 : decode cX5_follows 64 = .ok (.iconst 1, 1) := by decide +kernel
theorem dX5_follows_65 : decode cX5_follows 65 = .ok (.goto 4, 3) := by decide +kernel
theorem dX5_follows_68 : decode cX5_follows 68 = .ok (.iconst 0, 1) := by decide +kernel
theorem dX5_follows_69 : decode cX5_follows 69 = .ok (.istore 5, 2) := by decide +kernel
theorem dX5_follows_71 : decode cX5_follows 71 = .ok (.iload 5, 2) := by decide +kernel
theorem dX5_follows_73 : decode cX5_follows 73 = .ok (.ifCond .eq 8, 3) := by decide +kernel
theorem dX5_follows_76 : decode cX5_follows 76 = .ok (.iload 4, 2) := by decide +kernel
theorem dX5_follows_78 : decode cX5_follows 78 = .ok (.goto 4, 3) := by decide +kernel
theorem dX5_follows_81 : decode cX5_follows 81 = .ok (.iload_n 3, 1) := by decide +kernel
theorem dX5_follows_82 : decode cX5_follows 82 = .ok (.istore_n 3, 1) := by decide +kernel
theorem dX5_follows_83 : decode cX5_follows 83 = .ok (.iinc 4 (-1), 3) := by decide +kernel
theorem dX5_follows_86 : decode cX5_follows 86 = .ok (.goto (-75), 3) := by decide +kernel
theorem dX5_follows_89 : decode cX5_follows 89 = .ok (.iload_n 3, 1) := by decide +kernel
theorem dX5_follows_90 : decode cX5_follows 90 = .ok (.ireturn, 1) := by decide +kernel
set_option maxRecDepth 20000 in
theorem ggX5_nthOf_X5_follows : GoodIn wsX5_nthOf wsX5_follows := goodIn_r _ [6, 7, 8, 9, 10, 11, 5, 12, 13, 1, 14, 15, 16, 17, 18, 19, 20, 21, 22, 23, 24, 25, 26, 27, 28, 29, 30, 31, 32, 33, 34, 35, 36, 37, 38, 39, 40, 41, 42, 43, 44, 45, 46, 47, 48, 49, 50, 51, 52, 53, 54, 55, 56, 57, 58, 59, 60, 61, 62, 63, 64, 65, 66, 67, 68, 69, 70, 71, 72, 73] (by decide +kernel) (by decide +kernel)
set_option maxRecDepth 20000 in
theorem gX5_nthOf_X5_follows : GoodIn wsX5_nthOf (wsV RX5 232 RX5 yX5_follows wsX5_follows) := goodIn_app (goodIn_of _ (by decide +kernel)) ggX5_nthOf_X5_follows
theorem dX5_nthOf_0 : decode cX5_nthOf 0 = .ok (.iconst 0, 1) := by decide +kernel
theorem dX5_nthOf_1 : decode cX5_nthOf 1 = .ok (.istore_n 2, 1) := by decide +kernel
theorem dX5_nthOf_2 : decode cX5_nthOf 2 = .ok (.bipush 8, 2) := by decide +kernel
theorem dX5_nthOf_4 : decode cX5_nthOf 4 = .ok (.istore_n 3, 1) := by decide +kernel
theorem dX5_nthOf_5 : decode cX5_nthOf 5 = .ok (.iconst 0, 1) := by decide +kernel
theorem dX5_nthOf_6 : decode cX5_nthOf 6 = .ok (.istore 4, 2) := by decide +kernel
theorem dX5_nthOf_8 : decode cX5_nthOf 8 = .ok (.iload 4, 2) := by decide +kernel
theorem dX5_nthOf_10 : decode cX5_nthOf 10 = .ok (.iload_n 1, 1) := by decide +kernel
theorem dX5_nthOf_11 : decode cX5_nthOf 11 = .ok (.if_icmp .gt 22, 3) := by decide +kernel
theorem dX5_nthOf_14 : decode cX5_nthOf 14 = .ok (.aload_n 0, 1) := by decide +kernel
theorem dX5_nthOf_15 : decode cX5_nthOf 15 = .ok (.iload_n 2, 1) := by decide +kernel
theorem dX5_nthOf_16 : decode cX5_nthOf 16 = .ok (.iload_n 3, 1) := by decide +kernel
theorem dX5_nthOf_17 : decode cX5_nthOf 17 = .ok (.invokevirtual 232, 3) := by decide +kernel
theorem dX5_nthOf_20 : decode cX5_nthOf 20 = .ok (.istore_n 3, 1) := by decide +kernel
theorem dX5_nthOf_21 : decode cX5_nthOf 21 = .ok (.iload_n 2, 1) := by decide +kernel
theorem dX5_nthOf_22 : decode cX5_nthOf 22 = .ok (.iconst 1, 1) := by decide +kernel
theorem dX5_nthOf_23 : decode cX5_nthOf 23 = .ok (.iload_n 3, 1) := by decide +kernel
theorem dX5_nthOf_24 : decode cX5_nthOf 24 = .ok (.ishl, 1) := by decide +kernel
theorem dX5_nthOf_25 : decode cX5_nthOf 25 = .ok (.ior, 1) := by decide +kernel
theorem dX5_nthOf_26 : decode cX5_nthOf 26 = .ok (.istore_n 2, 1) := by decide +kernel
theorem dX5_nthOf_27 : decode cX5_nthOf 27 = .ok (.iinc 4 1, 3) := by decide +kernel
theorem dX5_nthOf_30 : decode cX5_nthOf 30 = .ok (.goto (-22), 3) := by decide +kernel
theorem dX5_nthOf_33 : decode cX5_nthOf 33 = .ok (.aload_n 0, 1) := by decide +kernel
theorem dX5_nthOf_34 : decode cX5_nthOf 34 = .ok (.getfield 41, 3) := by decide +kernel
theorem dX5_nthOf_37 : decode cX5_nthOf 37 = .ok (.iload_n 3, 1) := by decide +kernel
theorem dX5_nthOf_38 : decode cX5_nthOf 38 = .ok (.iaload, 1) := by decide +kernel
theorem dX5_nthOf_39 : decode cX5_nthOf 39 = .ok (.ireturn, 1) := by decide +kernel
set_option maxRecDepth 20000 in
theorem ggX5_order_X5_areBlocks : GoodIn wsX5_order wsX5_areBlocks := goodIn_r _ [9, 10, 11, 12, 8, 13, 69, 70, 71, 72, 73, 74, 75, 76, 77, 78, 79, 80, 81, 82, 83, 84, 85, 86, 87, 88, 89, 90, 91, 92, 93, 94] (by decide +kernel) (by decide +kernel)
set_option maxRecDepth 20000 in
theorem gX5_order_X5_areBlocks : GoodIn wsX5_order (wsV RX5 235 RX5 yX5_areBlocks wsX5_areBlocks) := goodIn_app (goodIn_of _ (by decide +kernel)) ggX5_order_X5_areBlocks
set_option maxRecDepth 20000 in
theorem ggX5_order_X5_in : GoodIn wsX5_order wsX5_in := goodIn_r _ [13] (by decide +kernel) (by decide +kernel)
set_option maxRecDepth 20000 in
theorem gX5_order_X5_in : GoodIn wsX5_order (va_wsS RX5 75 yX5_in wsX5_in) := goodIn_app (goodIn_of _ (by decide +kernel)) ggX5_order_X5_in
set_option maxRecDepth 20000 in
theorem ggX5_order_X5_countOf : GoodIn wsX5_order wsX5_countOf := goodIn_r _ [16] (by decide +kernel) (by decide +kernel)
set_option maxRecDepth 20000 in
theorem gX5_order_X5_countOf : GoodIn wsX5_order (va_wsS RX5 242 yX5_countOf wsX5_countOf) := goodIn_app (goodIn_of _ (by decide +kernel)) ggX5_order_X5_countOf
set_option maxRecDepth 20000 in
theorem ggX5_order_X5_layRest : GoodIn wsX5_order wsX5_layRest := goodIn_r _ [20, 4, 10, 21, 22, 3, 23, 24, 25, 8, 26, 27, 28, 29, 30, 31, 32, 33, 34, 35, 36, 37, 38, 39, 40, 41, 42, 43, 44, 45, 46, 47, 48, 49, 50, 51, 52, 53, 54, 55, 56, 57, 58, 59, 60, 69, 70, 71, 72, 73, 74, 75, 76, 77, 78, 79, 80, 81, 82, 83, 84, 85, 86, 87, 88, 89, 90, 91, 92, 93, 94] (by decide +kernel) (by decide +kernel)
set_option maxRecDepth 20000 in
theorem gX5_order_X5_layRest : GoodIn wsX5_order (wsV RX5 245 RX5 yX5_layRest wsX5_layRest) := goodIn_app (goodIn_of _ (by decide +kernel)) ggX5_order_X5_layRest
set_option maxRecDepth 20000 in
theorem ggX5_order_X5_nthOf : GoodIn wsX5_order wsX5_nthOf := goodIn_r _ [64, 21, 65, 66, 67, 8, 68, 4, 3, 23, 24, 25, 26, 10, 27, 28, 29, 30, 31, 32, 33, 34, 35, 36, 37, 38, 39, 40, 41, 42, 43, 44, 45, 46, 47, 48, 49, 50, 51, 52, 53, 54, 55, 56, 57, 58, 59, 60, 69, 70, 71, 72, 73, 74, 75, 76, 77, 78, 79, 80, 81, 82, 83, 84, 85, 86, 87, 88, 89, 90, 91, 92, 93, 94] (by decide +kernel) (by decide +kernel)
set_option maxRecDepth 20000 in
theorem gX5_order_X5_nthOf : GoodIn wsX5_order (wsV RX5 248 RX5 yX5_nthOf wsX5_nthOf) := goodIn_app (goodIn_of _ (by decide +kernel)) ggX5_order_X5_nthOf
theorem dX5_order_0 : decode cX5_order 0 = .ok (.aload_n 0, 1) := by decide +kernel
theorem dX5_order_1 : decode cX5_order 1 = .ok (.iload_n 1, 1) := by decide +kernel
theorem dX5_order_2 : decode cX5_order 2 = .ok (.invokevirtual 235, 3) := by decide +kernel
theorem dX5_order_5 : decode cX5_order 5 = .ok (.ifCond .eq 21, 3) := by decide +kernel
theorem dX5_order_8 : decode cX5_order 8 = .ok (.iload_n 2, 1) := by decide +kernel
theorem dX5_order_9 : decode cX5_order 9 = .ok (.ifCond .eq 19, 3) := by decide +kernel
theorem dX5_order_12 : decode cX5_order 12 = .ok (.iload_n 2, 1) := by decide +kernel
theorem dX5_order_13 : decode cX5_order 13 = .ok (.i2l, 1) := by decide +kernel
theorem dX5_order_14 : decode cX5_order 14 = .ok (.ldc2_w 238, 3) := by decide +kernel
theorem dX5_order_17 : decode cX5_order 17 = .ok (.ldc2_w 240, 3) := by decide +kernel
theorem dX5_order_20 : decode cX5_order 20 = .ok (.invokestatic 75, 3) := by decide +kernel
theorem dX5_order_23 : decode cX5_order 23 = .ok (.ifCond .ne 5, 3) := by decide +kernel
theorem dX5_order_26 : decode cX5_order 26 = .ok (.iconst (-1), 1) := by decide +kernel
theorem dX5_order_27 : decode cX5_order 27 = .ok (.ireturn, 1) := by decide +kernel
theorem dX5_order_28 : decode cX5_order 28 = .ok (.iload_n 1, 1) := by decide +kernel
theorem dX5_order_29 : decode cX5_order 29 = .ok (.invokestatic 242, 3) := by decide +kernel
theorem dX5_order_32 : decode cX5_order 32 = .ok (.bipush 8, 2) := by decide +kernel
theorem dX5_order_34 : decode cX5_order 34 = .ok (.if_icmp .le 6, 3) := by decide +kernel
theorem dX5_order_37 : decode cX5_order 37 = .ok (.bipush (-2), 2) := by decide +kernel
theorem dX5_order_39 : decode cX5_order 39 = .ok (.ireturn, 1) := by decide +kernel
theorem dX5_order_40 : decode cX5_order 40 = .ok (.aload_n 0, 1) := by decide +kernel
theorem dX5_order_41 : decode cX5_order 41 = .ok (.iload_n 1, 1) := by decide +kernel
theorem dX5_order_42 : decode cX5_order 42 = .ok (.invokevirtual 245, 3) := by decide +kernel
theorem dX5_order_45 : decode cX5_order 45 = .ok (.iload_n 2, 1) := by decide +kernel
theorem dX5_order_46 : decode cX5_order 46 = .ok (.ifCond .ne 13, 3) := by decide +kernel
theorem dX5_order_49 : decode cX5_order 49 = .ok (.aload_n 0, 1) := by decide +kernel
theorem dX5_order_50 : decode cX5_order 50 = .ok (.getfield 38, 3) := by decide +kernel
theorem dX5_order_53 : decode cX5_order 53 = .ok (.bipush 8, 2) := by decide +kernel
theorem dX5_order_55 : decode cX5_order 55 = .ok (.iaload, 1) := by decide +kernel
theorem dX5_order_56 : decode cX5_order 56 = .ok (.goto 26, 3) := by decide +kernel
theorem dX5_order_59 : decode cX5_order 59 = .ok (.iload_n 2, 1) := by decide +kernel
theorem dX5_order_60 : decode cX5_order 60 = .ok (.bipush 10, 2) := by decide +kernel
theorem dX5_order_62 : decode cX5_order 62 = .ok (.isub, 1) := by decide +kernel
theorem dX5_order_63 : decode cX5_order 63 = .ok (.aload_n 0, 1) := by decide +kernel
theorem dX5_order_64 : decode cX5_order 64 = .ok (.getfield 225, 3) := by decide +kernel
theorem dX5_order_67 : decode cX5_order 67 = .ok (.if_icmp .ge 14, 3) := by decide +kernel
theorem dX5_order_70 : decode cX5_order 70 = .ok (.aload_n 0, 1) := by decide +kernel
theorem dX5_order_71 : decode cX5_order 71 = .ok (.iload_n 2, 1) := by decide +kernel
theorem dX5_order_72 : decode cX5_order 72 = .ok (.bipush 10, 2) := by decide +kernel
theorem dX5_order_74 : decode cX5_order 74 = .ok (.isub, 1) := by decide +kernel
theorem dX5_order_75 : decode cX5_order 75 = .ok (.invokevirtual 248, 3) := by decide +kernel
theorem dX5_order_78 : decode cX5_order 78 = .ok (.goto 4, 3) := by decide +kernel
theorem dX5_order_81 : decode cX5_order 81 = .ok (.iconst (-1), 1) := by decide +kernel
theorem dX5_order_82 : decode cX5_order 82 = .ok (.ireturn, 1) := by decide +kernel
set_option maxRecDepth 20000 in
theorem ggX5_reads_X5_areBlocks : GoodIn wsX5_reads wsX5_areBlocks := goodIn_r _ [8, 3, 9, 10, 7, 11, 67, 68, 69, 70, 71, 72, 73, 74, 75, 76, 77, 78, 79, 80, 81, 82, 83, 84, 85, 86, 87, 88, 89, 90, 91, 92] (by decide +kernel) (by decide +kernel)
set_option maxRecDepth 20000 in
theorem gX5_reads_X5_areBlocks : GoodIn wsX5_reads (wsV RX5 235 RX5 yX5_areBlocks wsX5_areBlocks) := goodIn_app (goodIn_of _ (by decide +kernel)) ggX5_reads_X5_areBlocks
set_option maxRecDepth 20000 in
theorem ggX5_reads_X5_countOf : GoodIn wsX5_reads wsX5_countOf := goodIn_r _ [14] (by decide +kernel) (by decide +kernel)
set_option maxRecDepth 20000 in
theorem gX5_reads_X5_countOf : GoodIn wsX5_reads (va_wsS RX5 242 yX5_countOf wsX5_countOf) := goodIn_app (goodIn_of _ (by decide +kernel)) ggX5_reads_X5_countOf
set_option maxRecDepth 20000 in
theorem ggX5_reads_X5_layRest : GoodIn wsX5_reads wsX5_layRest := goodIn_r _ [18, 2, 3, 19, 20, 1, 21, 22, 23, 7, 24, 25, 26, 27, 28, 29, 30, 31, 32, 33, 34, 35, 36, 37, 38, 39, 40, 41, 42, 43, 44, 45, 46, 47, 48, 49, 50, 51, 52, 53, 54, 55, 56, 57, 58, 67, 68, 69, 70, 71, 72, 73, 74, 75, 76, 77, 78, 79, 80, 81, 82, 83, 84, 85, 86, 87, 88, 89, 90, 91, 92] (by decide +kernel) (by decide +kernel)
set_option maxRecDepth 20000 in
theorem gX5_reads_X5_layRest : GoodIn wsX5_reads (wsV RX5 245 RX5 yX5_layRest wsX5_layRest) := goodIn_app (goodIn_of _ (by decide +kernel)) ggX5_reads_X5_layRest
set_option maxRecDepth 20000 in
theorem ggX5_reads_X5_nthOf : GoodIn wsX5_reads wsX5_nthOf := goodIn_r _ [62, 19, 63, 64, 65, 7, 66, 2, 1, 21, 22, 23, 24, 3, 25, 26, 27, 28, 29, 30, 31, 32, 33, 34, 35, 36, 37, 38, 39, 40, 41, 42, 43, 44, 45, 46, 47, 48, 49, 50, 51, 52, 53, 54, 55, 56, 57, 58, 67, 68, 69, 70, 71, 72, 73, 74, 75, 76, 77, 78, 79, 80, 81, 82, 83, 84, 85, 86, 87, 88, 89, 90, 91, 92] (by decide +kernel) (by decide +kernel)
set_option maxRecDepth 20000 in
theorem gX5_reads_X5_nthOf : GoodIn wsX5_reads (wsV RX5 248 RX5 yX5_nthOf wsX5_nthOf) := goodIn_app (goodIn_of _ (by decide +kernel)) ggX5_reads_X5_nthOf
set_option maxRecDepth 20000 in
theorem ggX5_reads_X5_endOf : GoodIn wsX5_reads wsX5_endOf := goodIn_r _ [29, 3, 30, 31, 32, 7, 33, 25, 67, 68, 69, 70, 71, 72, 73, 74, 75, 76, 77, 78, 79, 80, 81, 82, 83, 84, 85, 86, 87, 88, 89, 90, 91, 92] (by decide +kernel) (by decide +kernel)
set_option maxRecDepth 20000 in
theorem gX5_reads_X5_endOf : GoodIn wsX5_reads (wsV RX5 179 RX5 yX5_endOf wsX5_endOf) := goodIn_app (goodIn_of _ (by decide +kernel)) ggX5_reads_X5_endOf
theorem dX5_reads_0 : decode cX5_reads 0 = .ok (.aload_n 0, 1) := by decide +kernel
theorem dX5_reads_1 : decode cX5_reads 1 = .ok (.iload_n 1, 1) := by decide +kernel
theorem dX5_reads_2 : decode cX5_reads 2 = .ok (.invokevirtual 235, 3) := by decide +kernel
theorem dX5_reads_5 : decode cX5_reads 5 = .ok (.ifCond .ne 5, 3) := by decide +kernel
theorem dX5_reads_8 : decode cX5_reads 8 = .ok (.iconst (-1), 1) := by decide +kernel
theorem dX5_reads_9 : decode cX5_reads 9 = .ok (.ireturn, 1) := by decide +kernel
theorem dX5_reads_10 : decode cX5_reads 10 = .ok (.iload_n 1, 1) := by decide +kernel
theorem dX5_reads_11 : decode cX5_reads 11 = .ok (.invokestatic 242, 3) := by decide +kernel
theorem dX5_reads_14 : decode cX5_reads 14 = .ok (.bipush 8, 2) := by decide +kernel
theorem dX5_reads_16 : decode cX5_reads 16 = .ok (.if_icmp .le 6, 3) := by decide +kernel
theorem dX5_reads_19 : decode cX5_reads 19 = .ok (.bipush (-2), 2) := by decide +kernel
theorem dX5_reads_21 : decode cX5_reads 21 = .ok (.ireturn, 1) := by decide +kernel
theorem dX5_reads_22 : decode cX5_reads 22 = .ok (.aload_n 0, 1) := by decide +kernel
theorem dX5_reads_23 : decode cX5_reads 23 = .ok (.iload_n 1, 1) := by decide +kernel
theorem dX5_reads_24 : decode cX5_reads 24 = .ok (.invokevirtual 245, 3) := by decide +kernel
theorem dX5_reads_27 : decode cX5_reads 27 = .ok (.aload_n 0, 1) := by decide +kernel
theorem dX5_reads_28 : decode cX5_reads 28 = .ok (.getfield 38, 3) := by decide +kernel
theorem dX5_reads_31 : decode cX5_reads 31 = .ok (.bipush 8, 2) := by decide +kernel
theorem dX5_reads_33 : decode cX5_reads 33 = .ok (.iaload, 1) := by decide +kernel
theorem dX5_reads_34 : decode cX5_reads 34 = .ok (.istore_n 2, 1) := by decide +kernel
theorem dX5_reads_35 : decode cX5_reads 35 = .ok (.aload_n 0, 1) := by decide +kernel
theorem dX5_reads_36 : decode cX5_reads 36 = .ok (.getfield 225, 3) := by decide +kernel
theorem dX5_reads_39 : decode cX5_reads 39 = .ok (.ifCond .ne 14, 3) := by decide +kernel
theorem dX5_reads_42 : decode cX5_reads 42 = .ok (.aload_n 0, 1) := by decide +kernel
theorem dX5_reads_43 : decode cX5_reads 43 = .ok (.getfield 7, 3) := by decide +kernel
theorem dX5_reads_46 : decode cX5_reads 46 = .ok (.sipush 325, 3) := by decide +kernel
theorem dX5_reads_49 : decode cX5_reads 49 = .ok (.iaload, 1) := by decide +kernel
theorem dX5_reads_50 : decode cX5_reads 50 = .ok (.goto 17, 3) := by decide +kernel
theorem dX5_reads_53 : decode cX5_reads 53 = .ok (.aload_n 0, 1) := by decide +kernel
theorem dX5_reads_54 : decode cX5_reads 54 = .ok (.aload_n 0, 1) := by decide +kernel
theorem dX5_reads_55 : decode cX5_reads 55 = .ok (.aload_n 0, 1) := by decide +kernel
theorem dX5_reads_56 : decode cX5_reads 56 = .ok (.getfield 225, 3) := by decide +kernel
theorem dX5_reads_59 : decode cX5_reads 59 = .ok (.iconst 1, 1) := by decide +kernel
theorem dX5_reads_60 : decode cX5_reads 60 = .ok (.isub, 1) := by decide +kernel
theorem dX5_reads_61 : decode cX5_reads 61 = .ok (.invokevirtual 248, 3) := by decide +kernel
theorem dX5_reads_64 : decode cX5_reads 64 = .ok (.invokevirtual 179, 3) := by decide +kernel
theorem dX5_reads_67 : decode cX5_reads 67 = .ok (.istore_n 3, 1) := by decide +kernel
theorem dX5_reads_68 : decode cX5_reads 68 = .ok (.aload_n 0, 1) := by decide +kernel
theorem dX5_reads_69 : decode cX5_reads 69 = .ok (.getfield 7, 3) := by decide +kernel
theorem dX5_reads_72 : decode cX5_reads 72 = .ok (.sipush 326, 3) := by decide +kernel
theorem dX5_reads_75 : decode cX5_reads 75 = .ok (.dup2, 1) := by decide +kernel
theorem dX5_reads_76 : decode cX5_reads 76 = .ok (.iaload, 1) := by decide +kernel
theorem dX5_reads_77 : decode cX5_reads 77 = .ok (.iload_n 2, 1) := by decide +kernel
theorem dX5_reads_78 : decode cX5_reads 78 = .ok (.iadd, 1) := by decide +kernel
theorem dX5_reads_79 : decode cX5_reads 79 = .ok (.iastore, 1) := by decide +kernel
theorem dX5_reads_80 : decode cX5_reads 80 = .ok (.aload_n 0, 1) := by decide +kernel
theorem dX5_reads_81 : decode cX5_reads 81 = .ok (.getfield 7, 3) := by decide +kernel
theorem dX5_reads_84 : decode cX5_reads 84 = .ok (.sipush 325, 3) := by decide +kernel
theorem dX5_reads_87 : decode cX5_reads 87 = .ok (.iload_n 3, 1) := by decide +kernel
theorem dX5_reads_88 : decode cX5_reads 88 = .ok (.iastore, 1) := by decide +kernel
theorem dX5_reads_89 : decode cX5_reads 89 = .ok (.iload_n 2, 1) := by decide +kernel
theorem dX5_reads_90 : decode cX5_reads 90 = .ok (.ireturn, 1) := by decide +kernel
theorem dX5_moves_0 : decode cX5_moves 0 = .ok (.aload_n 0, 1) := by decide +kernel
theorem dX5_moves_1 : decode cX5_moves 1 = .ok (.getfield 7, 3) := by decide +kernel
theorem dX5_moves_4 : decode cX5_moves 4 = .ok (.iconst 1, 1) := by decide +kernel
theorem dX5_moves_5 : decode cX5_moves 5 = .ok (.iload_n 1, 1) := by decide +kernel
theorem dX5_moves_6 : decode cX5_moves 6 = .ok (.iadd, 1) := by decide +kernel
theorem dX5_moves_7 : decode cX5_moves 7 = .ok (.aload_n 0, 1) := by decide +kernel
theorem dX5_moves_8 : decode cX5_moves 8 = .ok (.getfield 7, 3) := by decide +kernel
theorem dX5_moves_11 : decode cX5_moves 11 = .ok (.iconst 1, 1) := by decide +kernel
theorem dX5_moves_12 : decode cX5_moves 12 = .ok (.iload_n 2, 1) := by decide +kernel
theorem dX5_moves_13 : decode cX5_moves 13 = .ok (.iadd, 1) := by decide +kernel
theorem dX5_moves_14 : decode cX5_moves 14 = .ok (.iaload, 1) := by decide +kernel
theorem dX5_moves_15 : decode cX5_moves 15 = .ok (.iload_n 3, 1) := by decide +kernel
theorem dX5_moves_16 : decode cX5_moves 16 = .ok (.isub, 1) := by decide +kernel
theorem dX5_moves_17 : decode cX5_moves 17 = .ok (.iastore, 1) := by decide +kernel
theorem dX5_moves_18 : decode cX5_moves 18 = .ok (.aload_n 0, 1) := by decide +kernel
theorem dX5_moves_19 : decode cX5_moves 19 = .ok (.getfield 7, 3) := by decide +kernel
theorem dX5_moves_22 : decode cX5_moves 22 = .ok (.bipush 13, 2) := by decide +kernel
theorem dX5_moves_24 : decode cX5_moves 24 = .ok (.iload_n 1, 1) := by decide +kernel
theorem dX5_moves_25 : decode cX5_moves 25 = .ok (.iadd, 1) := by decide +kernel
theorem dX5_moves_26 : decode cX5_moves 26 = .ok (.aload_n 0, 1) := by decide +kernel
theorem dX5_moves_27 : decode cX5_moves 27 = .ok (.getfield 7, 3) := by decide +kernel
theorem dX5_moves_30 : decode cX5_moves 30 = .ok (.bipush 13, 2) := by decide +kernel
theorem dX5_moves_32 : decode cX5_moves 32 = .ok (.iload_n 2, 1) := by decide +kernel
theorem dX5_moves_33 : decode cX5_moves 33 = .ok (.iadd, 1) := by decide +kernel
theorem dX5_moves_34 : decode cX5_moves 34 = .ok (.iaload, 1) := by decide +kernel
theorem dX5_moves_35 : decode cX5_moves 35 = .ok (.iastore, 1) := by decide +kernel
theorem dX5_moves_36 : decode cX5_moves 36 = .ok (.iconst 0, 1) := by decide +kernel
theorem dX5_moves_37 : decode cX5_moves 37 = .ok (.istore 4, 2) := by decide +kernel
theorem dX5_moves_39 : decode cX5_moves 39 = .ok (.iload 4, 2) := by decide +kernel
theorem dX5_moves_41 : decode cX5_moves 41 = .ok (.bipush 13, 2) := by decide +kernel
theorem dX5_moves_43 : decode cX5_moves 43 = .ok (.if_icmp .ge 39, 3) := by decide +kernel
theorem dX5_moves_46 : decode cX5_moves 46 = .ok (.aload_n 0, 1) := by decide +kernel
theorem dX5_moves_47 : decode cX5_moves 47 = .ok (.getfield 7, 3) := by decide +kernel
theorem dX5_moves_50 : decode cX5_moves 50 = .ok (.bipush 25, 2) := by decide +kernel
theorem dX5_moves_52 : decode cX5_moves 52 = .ok (.bipush 13, 2) := by decide +kernel
theorem dX5_moves_54 : decode cX5_moves 54 = .ok (.iload_n 1, 1) := by decide +kernel
theorem dX5_moves_55 : decode cX5_moves 55 = .ok (.imul, 1) := by decide +kernel
theorem dX5_moves_56 : decode cX5_moves 56 = .ok (.iadd, 1) := by decide +kernel
theorem dX5_moves_57 : decode cX5_moves 57 = .ok (.iload 4, 2) := by decide +kernel
theorem dX5_moves_59 : decode cX5_moves 59 = .ok (.iadd, 1) := by decide +kernel
theorem dX5_moves_60 : decode cX5_moves 60 = .ok (.aload_n 0, 1) := by decide +kernel
theorem dX5_moves_61 : decode cX5_moves 61 = .ok (.getfield 7, 3) := by decide +kernel
theorem dX5_moves_64 : decode cX5_moves 64 = .ok (.bipush 25, 2) := by decide +kernel
theorem dX5_moves_66 : decode cX5_moves 66 = .ok (.bipush 13, 2) := by decide +kernel
theorem dX5_moves_68 : decode cX5_moves 68 = .ok (.iload_n 2, 1) := by decide +kernel
theorem dX5_moves_69 : decode cX5_moves 69 = .ok (.imul, 1) := by decide +kernel
theorem dX5_moves_70 : decode cX5_moves 70 = .ok (.iadd, 1) := by decide +kernel
theorem dX5_moves_71 : decode cX5_moves 71 = .ok (.iload 4, 2) := by decide +kernel
theorem dX5_moves_73 : decode cX5_moves 73 = .ok (.iadd, 1) := by decide +kernel
theorem dX5_moves_74 : decode cX5_moves 74 = .ok (.iaload, 1) := by decide +kernel
theorem dX5_moves_75 : decode cX5_moves 75 = .ok (.iastore, 1) := by decide +kernel
theorem dX5_moves_76 : decode cX5_moves 76 = .ok (.iinc 4 1, 3) := by decide +kernel
theorem dX5_moves_79 : decode cX5_moves 79 = .ok (.goto (-40), 3) := by decide +kernel
theorem dX5_moves_82 : decode cX5_moves 82 = .ok (.iconst 0, 1) := by decide +kernel
theorem dX5_moves_83 : decode cX5_moves 83 = .ok (.istore 4, 2) := by decide +kernel
theorem dX5_moves_85 : decode cX5_moves 85 = .ok (.iload 4, 2) := by decide +kernel
theorem dX5_moves_87 : decode cX5_moves 87 = .ok (.bipush 12, 2) := by decide +kernel
theorem dX5_moves_89 : decode cX5_moves 89 = .ok (.if_icmp .ge 41, 3) := by decide +kernel
theorem dX5_moves_92 : decode cX5_moves 92 = .ok (.aload_n 0, 1) := by decide +kernel
theorem dX5_moves_93 : decode cX5_moves 93 = .ok (.getfield 7, 3) := by decide +kernel
theorem dX5_moves_96 : decode cX5_moves 96 = .ok (.sipush 181, 3) := by decide +kernel
theorem dX5_moves_99 : decode cX5_moves 99 = .ok (.bipush 12, 2) := by decide +kernel
theorem dX5_moves_101 : decode cX5_moves 101 = .ok (.iload_n 1, 1) := by decide +kernel
theorem dX5_moves_102 : decode cX5_moves 102 = .ok (.imul, 1) := by decide +kernel
theorem dX5_moves_103 : decode cX5_moves 103 = .ok (.iadd, 1) := by decide +kernel
theorem dX5_moves_104 : decode cX5_moves 104 = .ok (.iload 4, 2) := by decide +kernel
theorem dX5_moves_106 : decode cX5_moves 106 = .ok (.iadd, 1) := by decide +kernel
theorem dX5_moves_107 : decode cX5_moves 107 = .ok (.aload_n 0, 1) := by decide +kernel
theorem dX5_moves_108 : decode cX5_moves 108 = .ok (.getfield 7, 3) := by decide +kernel
theorem dX5_moves_111 : decode cX5_moves 111 = .ok (.sipush 181, 3) := by decide +kernel
theorem dX5_moves_114 : decode cX5_moves 114 = .ok (.bipush 12, 2) := by decide +kernel
theorem dX5_moves_116 : decode cX5_moves 116 = .ok (.iload_n 2, 1) := by decide +kernel
theorem dX5_moves_117 : decode cX5_moves 117 = .ok (.imul, 1) := by decide +kernel
theorem dX5_moves_118 : decode cX5_moves 118 = .ok (.iadd, 1) := by decide +kernel
theorem dX5_moves_119 : decode cX5_moves 119 = .ok (.iload 4, 2) := by decide +kernel
theorem dX5_moves_121 : decode cX5_moves 121 = .ok (.iadd, 1) := by decide +kernel
theorem dX5_moves_122 : decode cX5_moves 122 = .ok (.iaload, 1) := by decide +kernel
theorem dX5_moves_123 : decode cX5_moves 123 = .ok (.iastore, 1) := by decide +kernel
theorem dX5_moves_124 : decode cX5_moves 124 = .ok (.iinc 4 1, 3) := by decide +kernel
theorem dX5_moves_127 : decode cX5_moves 127 = .ok (.goto (-42), 3) := by decide +kernel
theorem dX5_moves_130 : decode cX5_moves 130 = .ok (.return_, 1) := by decide +kernel
set_option maxRecDepth 20000 in
theorem ggX5_cut_X5_isPlace : GoodIn wsX5_cut wsX5_isPlace := goodIn_r _ [6, 1, 7, 8, 5, 9, 23, 24, 25, 26, 27, 28, 29, 30, 31, 32, 33, 34, 35, 36, 37, 38, 39, 40, 41, 42, 43, 44, 45, 46, 47, 48] (by decide +kernel) (by decide +kernel)
set_option maxRecDepth 20000 in
theorem gX5_cut_X5_isPlace : GoodIn wsX5_cut (wsV RX5 149 RX5 yX5_isPlace wsX5_isPlace) := goodIn_app (goodIn_of _ (by decide +kernel)) ggX5_cut_X5_isPlace
set_option maxRecDepth 20000 in
theorem ggX5_cut_X5_endOf : GoodIn wsX5_cut wsX5_endOf := goodIn_r _ [13, 1, 14, 15, 16, 5, 17, 18, 23, 24, 25, 26, 27, 28, 29, 30, 31, 32, 33, 34, 35, 36, 37, 38, 39, 40, 41, 42, 43, 44, 45, 46, 47, 48] (by decide +kernel) (by decide +kernel)
set_option maxRecDepth 20000 in
theorem gX5_cut_X5_endOf : GoodIn wsX5_cut (wsV RX5 179 RX5 yX5_endOf wsX5_endOf) := goodIn_app (goodIn_of _ (by decide +kernel)) ggX5_cut_X5_endOf
set_option maxRecDepth 20000 in
theorem ggX5_cut_X5_moves : GoodIn wsX5_cut wsX5_moves := goodIn_r _ [22, 1, 23, 24, 25, 26, 27, 28, 29, 30, 31, 32, 33, 34, 35, 36, 37, 38, 39, 40, 41, 42, 43, 44, 45, 46, 47, 48] (by decide +kernel) (by decide +kernel)
set_option maxRecDepth 20000 in
theorem gX5_cut_X5_moves : GoodIn wsX5_cut (wsV RX5 251 RX5 yX5_moves wsX5_moves) := goodIn_app (goodIn_of _ (by decide +kernel)) ggX5_cut_X5_moves
theorem dX5_cut_0 : decode cX5_cut 0 = .ok (.aload_n 0, 1) := by decide +kernel
theorem dX5_cut_1 : decode cX5_cut 1 = .ok (.iload_n 1, 1) := by decide +kernel
theorem dX5_cut_2 : decode cX5_cut 2 = .ok (.invokevirtual 149, 3) := by decide +kernel
theorem dX5_cut_5 : decode cX5_cut 5 = .ok (.ifCond .eq 16, 3) := by decide +kernel
theorem dX5_cut_8 : decode cX5_cut 8 = .ok (.aload_n 0, 1) := by decide +kernel
theorem dX5_cut_9 : decode cX5_cut 9 = .ok (.iload_n 2, 1) := by decide +kernel
theorem dX5_cut_10 : decode cX5_cut 10 = .ok (.invokevirtual 149, 3) := by decide +kernel
theorem dX5_cut_13 : decode cX5_cut 13 = .ok (.ifCond .eq 8, 3) := by decide +kernel
theorem dX5_cut_16 : decode cX5_cut 16 = .ok (.iload_n 2, 1) := by decide +kernel
theorem dX5_cut_17 : decode cX5_cut 17 = .ok (.iload_n 1, 1) := by decide +kernel
theorem dX5_cut_18 : decode cX5_cut 18 = .ok (.if_icmp .gt 5, 3) := by decide +kernel
theorem dX5_cut_21 : decode cX5_cut 21 = .ok (.iconst (-1), 1) := by decide +kernel
theorem dX5_cut_22 : decode cX5_cut 22 = .ok (.ireturn, 1) := by decide +kernel
theorem dX5_cut_23 : decode cX5_cut 23 = .ok (.aload_n 0, 1) := by decide +kernel
theorem dX5_cut_24 : decode cX5_cut 24 = .ok (.getfield 7, 3) := by decide +kernel
theorem dX5_cut_27 : decode cX5_cut 27 = .ok (.sipush 366, 3) := by decide +kernel
theorem dX5_cut_30 : decode cX5_cut 30 = .ok (.iaload, 1) := by decide +kernel
theorem dX5_cut_31 : decode cX5_cut 31 = .ok (.iload_n 2, 1) := by decide +kernel
theorem dX5_cut_32 : decode cX5_cut 32 = .ok (.iload_n 1, 1) := by decide +kernel
theorem dX5_cut_33 : decode cX5_cut 33 = .ok (.isub, 1) := by decide +kernel
theorem dX5_cut_34 : decode cX5_cut 34 = .ok (.isub, 1) := by decide +kernel
theorem dX5_cut_35 : decode cX5_cut 35 = .ok (.bipush 20, 2) := by decide +kernel
theorem dX5_cut_37 : decode cX5_cut 37 = .ok (.if_icmp .ge 6, 3) := by decide +kernel
theorem dX5_cut_40 : decode cX5_cut 40 = .ok (.bipush (-2), 2) := by decide +kernel
theorem dX5_cut_42 : decode cX5_cut 42 = .ok (.ireturn, 1) := by decide +kernel
theorem dX5_cut_43 : decode cX5_cut 43 = .ok (.iconst 0, 1) := by decide +kernel
theorem dX5_cut_44 : decode cX5_cut 44 = .ok (.istore_n 3, 1) := by decide +kernel
theorem dX5_cut_45 : decode cX5_cut 45 = .ok (.aload_n 0, 1) := by decide +kernel
theorem dX5_cut_46 : decode cX5_cut 46 = .ok (.getfield 7, 3) := by decide +kernel
theorem dX5_cut_49 : decode cX5_cut 49 = .ok (.iconst 0, 1) := by decide +kernel
theorem dX5_cut_50 : decode cX5_cut 50 = .ok (.iaload, 1) := by decide +kernel
theorem dX5_cut_51 : decode cX5_cut 51 = .ok (.istore 4, 2) := by decide +kernel
theorem dX5_cut_53 : decode cX5_cut 53 = .ok (.iconst 0, 1) := by decide +kernel
theorem dX5_cut_54 : decode cX5_cut 54 = .ok (.istore 5, 2) := by decide +kernel
theorem dX5_cut_56 : decode cX5_cut 56 = .ok (.iload 5, 2) := by decide +kernel
theorem dX5_cut_58 : decode cX5_cut 58 = .ok (.iload 4, 2) := by decide +kernel
theorem dX5_cut_60 : decode cX5_cut 60 = .ok (.if_icmp .ge 66, 3) := by decide +kernel
theorem dX5_cut_63 : decode cX5_cut 63 = .ok (.aload_n 0, 1) := by decide +kernel
theorem dX5_cut_64 : decode cX5_cut 64 = .ok (.getfield 7, 3) := by decide +kernel
theorem dX5_cut_67 : decode cX5_cut 67 = .ok (.iconst 1, 1) := by decide +kernel
theorem dX5_cut_68 : decode cX5_cut 68 = .ok (.iload 5, 2) := by decide +kernel
theorem dX5_cut_70 : decode cX5_cut 70 = .ok (.iadd, 1) := by decide +kernel
theorem dX5_cut_71 : decode cX5_cut 71 = .ok (.iaload, 1) := by decide +kernel
theorem dX5_cut_72 : decode cX5_cut 72 = .ok (.iload_n 2, 1) := by decide +kernel
theorem dX5_cut_73 : decode cX5_cut 73 = .ok (.if_icmp .lt 7, 3) := by decide +kernel
theorem dX5_cut_76 : decode cX5_cut 76 = .ok (.iconst 1, 1) := by decide +kernel
theorem dX5_cut_77 : decode cX5_cut 77 = .ok (.goto 4, 3) := by decide +kernel
theorem dX5_cut_80 : decode cX5_cut 80 = .ok (.iconst 0, 1) := by decide +kernel
theorem dX5_cut_81 : decode cX5_cut 81 = .ok (.istore 6, 2) := by decide +kernel
theorem dX5_cut_83 : decode cX5_cut 83 = .ok (.iload 6, 2) := by decide +kernel
theorem dX5_cut_85 : decode cX5_cut 85 = .ok (.ifCond .ne 13, 3) := by decide +kernel
theorem dX5_cut_88 : decode cX5_cut 88 = .ok (.aload_n 0, 1) := by decide +kernel
theorem dX5_cut_89 : decode cX5_cut 89 = .ok (.iload 5, 2) := by decide +kernel
theorem dX5_cut_91 : decode cX5_cut 91 = .ok (.invokevirtual 179, 3) := by decide +kernel
theorem dX5_cut_94 : decode cX5_cut 94 = .ok (.iload_n 1, 1) := by decide +kernel
theorem dX5_cut_95 : decode cX5_cut 95 = .ok (.if_icmp .gt 25, 3) := by decide +kernel
theorem dX5_cut_98 : decode cX5_cut 98 = .ok (.aload_n 0, 1) := by decide +kernel
theorem dX5_cut_99 : decode cX5_cut 99 = .ok (.iload_n 3, 1) := by decide +kernel
theorem dX5_cut_100 : decode cX5_cut 100 = .ok (.iload 5, 2) := by decide +kernel
theorem dX5_cut_102 : decode cX5_cut 102 = .ok (.iload 6, 2) := by decide +kernel
theorem dX5_cut_104 : decode cX5_cut 104 = .ok (.ifCond .eq 9, 3) := by decide +kernel
theorem dX5_cut_107 : decode cX5_cut 107 = .ok (.iload_n 2, 1) := by decide +kernel
theorem dX5_cut_108 : decode cX5_cut 108 = .ok (.iload_n 1, 1) := by decide +kernel
theorem dX5_cut_109 : decode cX5_cut 109 = .ok (.isub, 1) := by decide +kernel
theorem dX5_cut_110 : decode cX5_cut 110 = .ok (.goto 4, 3) := by decide +kernel
theorem dX5_cut_113 : decode cX5_cut 113 = .ok (.iconst 0, 1) := by decide +kernel
theorem dX5_cut_114 : decode cX5_cut 114 = .ok (.invokevirtual 251, 3) := by decide +kernel
theorem dX5_cut_117 : decode cX5_cut 117 = .ok (.iinc 3 1, 3) := by decide +kernel
theorem dX5_cut_120 : decode cX5_cut 120 = .ok (.iinc 5 1, 3) := by decide +kernel
theorem dX5_cut_123 : decode cX5_cut 123 = .ok (.goto (-67), 3) := by decide +kernel
theorem dX5_cut_126 : decode cX5_cut 126 = .ok (.aload_n 0, 1) := by decide +kernel
theorem dX5_cut_127 : decode cX5_cut 127 = .ok (.getfield 7, 3) := by decide +kernel
theorem dX5_cut_130 : decode cX5_cut 130 = .ok (.iconst 0, 1) := by decide +kernel
theorem dX5_cut_131 : decode cX5_cut 131 = .ok (.iload_n 3, 1) := by decide +kernel
theorem dX5_cut_132 : decode cX5_cut 132 = .ok (.iastore, 1) := by decide +kernel
theorem dX5_cut_133 : decode cX5_cut 133 = .ok (.aload_n 0, 1) := by decide +kernel
theorem dX5_cut_134 : decode cX5_cut 134 = .ok (.getfield 7, 3) := by decide +kernel
theorem dX5_cut_137 : decode cX5_cut 137 = .ok (.sipush 325, 3) := by decide +kernel
theorem dX5_cut_140 : decode cX5_cut 140 = .ok (.aload_n 0, 1) := by decide +kernel
theorem dX5_cut_141 : decode cX5_cut 141 = .ok (.getfield 7, 3) := by decide +kernel
theorem dX5_cut_144 : decode cX5_cut 144 = .ok (.sipush 325, 3) := by decide +kernel
theorem dX5_cut_147 : decode cX5_cut 147 = .ok (.iaload, 1) := by decide +kernel
theorem dX5_cut_148 : decode cX5_cut 148 = .ok (.iload_n 2, 1) := by decide +kernel
theorem dX5_cut_149 : decode cX5_cut 149 = .ok (.if_icmp .lt 18, 3) := by decide +kernel
theorem dX5_cut_152 : decode cX5_cut 152 = .ok (.aload_n 0, 1) := by decide +kernel
theorem dX5_cut_153 : decode cX5_cut 153 = .ok (.getfield 7, 3) := by decide +kernel
theorem dX5_cut_156 : decode cX5_cut 156 = .ok (.sipush 325, 3) := by decide +kernel
theorem dX5_cut_159 : decode cX5_cut 159 = .ok (.iaload, 1) := by decide +kernel
theorem dX5_cut_160 : decode cX5_cut 160 = .ok (.iload_n 2, 1) := by decide +kernel
theorem dX5_cut_161 : decode cX5_cut 161 = .ok (.iload_n 1, 1) := by decide +kernel
theorem dX5_cut_162 : decode cX5_cut 162 = .ok (.isub, 1) := by decide +kernel
theorem dX5_cut_163 : decode cX5_cut 163 = .ok (.isub, 1) := by decide +kernel
theorem dX5_cut_164 : decode cX5_cut 164 = .ok (.goto 27, 3) := by decide +kernel
theorem dX5_cut_167 : decode cX5_cut 167 = .ok (.aload_n 0, 1) := by decide +kernel
theorem dX5_cut_168 : decode cX5_cut 168 = .ok (.getfield 7, 3) := by decide +kernel
theorem dX5_cut_171 : decode cX5_cut 171 = .ok (.sipush 325, 3) := by decide +kernel
theorem dX5_cut_174 : decode cX5_cut 174 = .ok (.iaload, 1) := by decide +kernel
theorem dX5_cut_175 : decode cX5_cut 175 = .ok (.iload_n 1, 1) := by decide +kernel
theorem dX5_cut_176 : decode cX5_cut 176 = .ok (.if_icmp .le 7, 3) := by decide +kernel
theorem dX5_cut_179 : decode cX5_cut 179 = .ok (.iload_n 1, 1) := by decide +kernel
theorem dX5_cut_180 : decode cX5_cut 180 = .ok (.goto 11, 3) := by decide +kernel
theorem dX5_cut_183 : decode cX5_cut 183 = .ok (.aload_n 0, 1) := by decide +kernel
theorem dX5_cut_184 : decode cX5_cut 184 = .ok (.getfield 7, 3) := by decide +kernel
theorem dX5_cut_187 : decode cX5_cut 187 = .ok (.sipush 325, 3) := by decide +kernel
theorem dX5_cut_190 : decode cX5_cut 190 = .ok (.iaload, 1) := by decide +kernel
theorem dX5_cut_191 : decode cX5_cut 191 = .ok (.iastore, 1) := by decide +kernel
theorem dX5_cut_192 : decode cX5_cut 192 = .ok (.aload_n 0, 1) := by decide +kernel
theorem dX5_cut_193 : decode cX5_cut 193 = .ok (.getfield 7, 3) := by decide +kernel
theorem dX5_cut_196 : decode cX5_cut 196 = .ok (.sipush 366, 3) := by decide +kernel
theorem dX5_cut_199 : decode cX5_cut 199 = .ok (.dup2, 1) := by decide +kernel
theorem dX5_cut_200 : decode cX5_cut 200 = .ok (.iaload, 1) := by decide +kernel
theorem dX5_cut_201 : decode cX5_cut 201 = .ok (.iload_n 2, 1) := by decide +kernel
theorem dX5_cut_202 : decode cX5_cut 202 = .ok (.iload_n 1, 1) := by decide +kernel
theorem dX5_cut_203 : decode cX5_cut 203 = .ok (.isub, 1) := by decide +kernel
theorem dX5_cut_204 : decode cX5_cut 204 = .ok (.isub, 1) := by decide +kernel
theorem dX5_cut_205 : decode cX5_cut 205 = .ok (.iastore, 1) := by decide +kernel
theorem dX5_cut_206 : decode cX5_cut 206 = .ok (.iload 4, 2) := by decide +kernel
theorem dX5_cut_208 : decode cX5_cut 208 = .ok (.iload_n 3, 1) := by decide +kernel
theorem dX5_cut_209 : decode cX5_cut 209 = .ok (.isub, 1) := by decide +kernel
theorem dX5_cut_210 : decode cX5_cut 210 = .ok (.ireturn, 1) := by decide +kernel
set_option maxRecDepth 20000 in
theorem ggX5_holdsOf_X5_longOf : GoodIn wsX5_holdsOf wsX5_longOf := goodIn_r _ [7, 2, 8, 9, 10, 11, 12, 13, 14, 15, 16, 17, 18, 19, 20, 21, 22, 23, 24, 25, 26, 27, 28, 29, 30, 31, 32, 33] (by decide +kernel) (by decide +kernel)
set_option maxRecDepth 20000 in
theorem gX5_holdsOf_X5_longOf : GoodIn wsX5_holdsOf (wsV RX5 176 RX5 yX5_longOf wsX5_longOf) := goodIn_app (goodIn_of _ (by decide +kernel)) ggX5_holdsOf_X5_longOf
theorem dX5_holdsOf_0 : decode cX5_holdsOf 0 = .ok (.aload_n 0, 1) := by decide +kernel
theorem dX5_holdsOf_1 : decode cX5_holdsOf 1 = .ok (.getfield 7, 3) := by decide +kernel
theorem dX5_holdsOf_4 : decode cX5_holdsOf 4 = .ok (.sipush 366, 3) := by decide +kernel
theorem dX5_holdsOf_7 : decode cX5_holdsOf 7 = .ok (.iaload, 1) := by decide +kernel
theorem dX5_holdsOf_8 : decode cX5_holdsOf 8 = .ok (.aload_n 0, 1) := by decide +kernel
theorem dX5_holdsOf_9 : decode cX5_holdsOf 9 = .ok (.getfield 17, 3) := by decide +kernel
theorem dX5_holdsOf_12 : decode cX5_holdsOf 12 = .ok (.bipush 6, 2) := by decide +kernel
theorem dX5_holdsOf_14 : decode cX5_holdsOf 14 = .ok (.iaload, 1) := by decide +kernel
theorem dX5_holdsOf_15 : decode cX5_holdsOf 15 = .ok (.aload_n 0, 1) := by decide +kernel
theorem dX5_holdsOf_16 : decode cX5_holdsOf 16 = .ok (.iload_n 1, 1) := by decide +kernel
theorem dX5_holdsOf_17 : decode cX5_holdsOf 17 = .ok (.invokevirtual 176, 3) := by decide +kernel
theorem dX5_holdsOf_20 : decode cX5_holdsOf 20 = .ok (.iadd, 1) := by decide +kernel
theorem dX5_holdsOf_21 : decode cX5_holdsOf 21 = .ok (.idiv, 1) := by decide +kernel
theorem dX5_holdsOf_22 : decode cX5_holdsOf 22 = .ok (.ireturn, 1) := by decide +kernel
set_option maxRecDepth 20000 in
theorem ggX5_holds_X5_in : GoodIn wsX5_holds wsX5_in := goodIn_r _ [5] (by decide +kernel) (by decide +kernel)
set_option maxRecDepth 20000 in
theorem gX5_holds_X5_in : GoodIn wsX5_holds (va_wsS RX5 75 yX5_in wsX5_in) := goodIn_app (goodIn_of _ (by decide +kernel)) ggX5_holds_X5_in
set_option maxRecDepth 20000 in
theorem ggX5_holds_X5_holdsOf : GoodIn wsX5_holds wsX5_holdsOf := goodIn_r _ [9, 10, 11, 12, 13, 14, 4, 15, 16, 17, 18, 19, 20, 21, 22, 23, 24, 25, 26, 27, 28, 29, 30, 31, 32, 33, 34, 35, 36, 37, 38, 39, 40, 41] (by decide +kernel) (by decide +kernel)
set_option maxRecDepth 20000 in
theorem gX5_holds_X5_holdsOf : GoodIn wsX5_holds (wsV RX5 257 RX5 yX5_holdsOf wsX5_holdsOf) := goodIn_app (goodIn_of _ (by decide +kernel)) ggX5_holds_X5_holdsOf
theorem dX5_holds_0 : decode cX5_holds 0 = .ok (.iload_n 1, 1) := by decide +kernel
theorem dX5_holds_1 : decode cX5_holds 1 = .ok (.i2l, 1) := by decide +kernel
theorem dX5_holds_2 : decode cX5_holds 2 = .ok (.lconst 1, 1) := by decide +kernel
theorem dX5_holds_3 : decode cX5_holds 3 = .ok (.ldc2_w 255, 3) := by decide +kernel
theorem dX5_holds_6 : decode cX5_holds 6 = .ok (.invokestatic 75, 3) := by decide +kernel
theorem dX5_holds_9 : decode cX5_holds 9 = .ok (.ifCond .eq 11, 3) := by decide +kernel
theorem dX5_holds_12 : decode cX5_holds 12 = .ok (.aload_n 0, 1) := by decide +kernel
theorem dX5_holds_13 : decode cX5_holds 13 = .ok (.iload_n 1, 1) := by decide +kernel
theorem dX5_holds_14 : decode cX5_holds 14 = .ok (.invokevirtual 257, 3) := by decide +kernel
theorem dX5_holds_17 : decode cX5_holds 17 = .ok (.goto 4, 3) := by decide +kernel
theorem dX5_holds_20 : decode cX5_holds 20 = .ok (.iconst (-1), 1) := by decide +kernel
theorem dX5_holds_21 : decode cX5_holds 21 = .ok (.ireturn, 1) := by decide +kernel
set_option maxRecDepth 20000 in
theorem ggX5_most_X5_in : GoodIn wsX5_most wsX5_in := goodIn_r _ [4] (by decide +kernel) (by decide +kernel)
set_option maxRecDepth 20000 in
theorem gX5_most_X5_in : GoodIn wsX5_most (va_wsS RX5 75 yX5_in wsX5_in) := goodIn_app (goodIn_of _ (by decide +kernel)) ggX5_most_X5_in
set_option maxRecDepth 20000 in
theorem ggX5_most_X5_holdsOf : GoodIn wsX5_most wsX5_holdsOf := goodIn_r _ [8, 9, 10, 11, 12, 13, 3, 14, 15, 16, 17, 18, 19, 20, 21, 22, 23, 24, 25, 26, 27, 28, 29, 30, 31, 32, 33, 34, 35, 36, 37, 38, 39, 40] (by decide +kernel) (by decide +kernel)
set_option maxRecDepth 20000 in
theorem gX5_most_X5_holdsOf : GoodIn wsX5_most (wsV RX5 257 RX5 yX5_holdsOf wsX5_holdsOf) := goodIn_app (goodIn_of _ (by decide +kernel)) ggX5_most_X5_holdsOf
theorem dX5_most_0 : decode cX5_most 0 = .ok (.iload_n 1, 1) := by decide +kernel
theorem dX5_most_1 : decode cX5_most 1 = .ok (.i2l, 1) := by decide +kernel
theorem dX5_most_2 : decode cX5_most 2 = .ok (.lconst 0, 1) := by decide +kernel
theorem dX5_most_3 : decode cX5_most 3 = .ok (.lconst 1, 1) := by decide +kernel
theorem dX5_most_4 : decode cX5_most 4 = .ok (.invokestatic 75, 3) := by decide +kernel
theorem dX5_most_7 : decode cX5_most 7 = .ok (.ifCond .ne 5, 3) := by decide +kernel
theorem dX5_most_10 : decode cX5_most 10 = .ok (.iconst (-1), 1) := by decide +kernel
theorem dX5_most_11 : decode cX5_most 11 = .ok (.ireturn, 1) := by decide +kernel
theorem dX5_most_12 : decode cX5_most 12 = .ok (.iconst 1, 1) := by decide +kernel
theorem dX5_most_13 : decode cX5_most 13 = .ok (.istore_n 2, 1) := by decide +kernel
theorem dX5_most_14 : decode cX5_most 14 = .ok (.iconst 2, 1) := by decide +kernel
theorem dX5_most_15 : decode cX5_most 15 = .ok (.istore_n 3, 1) := by decide +kernel
theorem dX5_most_16 : decode cX5_most 16 = .ok (.iload_n 3, 1) := by decide +kernel
theorem dX5_most_17 : decode cX5_most 17 = .ok (.bipush 100, 2) := by decide +kernel
theorem dX5_most_19 : decode cX5_most 19 = .ok (.if_icmp .ge 32, 3) := by decide +kernel
theorem dX5_most_22 : decode cX5_most 22 = .ok (.iload_n 3, 1) := by decide +kernel
theorem dX5_most_23 : decode cX5_most 23 = .ok (.aload_n 0, 1) := by decide +kernel
theorem dX5_most_24 : decode cX5_most 24 = .ok (.iload_n 3, 1) := by decide +kernel
theorem dX5_most_25 : decode cX5_most 25 = .ok (.invokevirtual 257, 3) := by decide +kernel
theorem dX5_most_28 : decode cX5_most 28 = .ok (.imul, 1) := by decide +kernel
theorem dX5_most_29 : decode cX5_most 29 = .ok (.iload_n 2, 1) := by decide +kernel
theorem dX5_most_30 : decode cX5_most 30 = .ok (.aload_n 0, 1) := by decide +kernel
theorem dX5_most_31 : decode cX5_most 31 = .ok (.iload_n 2, 1) := by decide +kernel
theorem dX5_most_32 : decode cX5_most 32 = .ok (.invokevirtual 257, 3) := by decide +kernel
theorem dX5_most_35 : decode cX5_most 35 = .ok (.imul, 1) := by decide +kernel
theorem dX5_most_36 : decode cX5_most 36 = .ok (.if_icmp .le 7, 3) := by decide +kernel
theorem dX5_most_39 : decode cX5_most 39 = .ok (.iload_n 3, 1) := by decide +kernel
theorem dX5_most_40 : decode cX5_most 40 = .ok (.goto 4, 3) := by decide +kernel
theorem dX5_most_43 : decode cX5_most 43 = .ok (.iload_n 2, 1) := by decide +kernel
theorem dX5_most_44 : decode cX5_most 44 = .ok (.istore_n 2, 1) := by decide +kernel
theorem dX5_most_45 : decode cX5_most 45 = .ok (.iinc 3 1, 3) := by decide +kernel
theorem dX5_most_48 : decode cX5_most 48 = .ok (.goto (-32), 3) := by decide +kernel
theorem dX5_most_51 : decode cX5_most 51 = .ok (.iload_n 1, 1) := by decide +kernel
theorem dX5_most_52 : decode cX5_most 52 = .ok (.ifCond .ne 7, 3) := by decide +kernel
theorem dX5_most_55 : decode cX5_most 55 = .ok (.iload_n 2, 1) := by decide +kernel
theorem dX5_most_56 : decode cX5_most 56 = .ok (.goto 10, 3) := by decide +kernel
theorem dX5_most_59 : decode cX5_most 59 = .ok (.iload_n 2, 1) := by decide +kernel
theorem dX5_most_60 : decode cX5_most 60 = .ok (.aload_n 0, 1) := by decide +kernel
theorem dX5_most_61 : decode cX5_most 61 = .ok (.iload_n 2, 1) := by decide +kernel
theorem dX5_most_62 : decode cX5_most 62 = .ok (.invokevirtual 257, 3) := by decide +kernel
theorem dX5_most_65 : decode cX5_most 65 = .ok (.imul, 1) := by decide +kernel
theorem dX5_most_66 : decode cX5_most 66 = .ok (.ireturn, 1) := by decide +kernel
set_option maxRecDepth 20000 in
theorem ggX5_streams_X5_less : GoodIn wsX5_streams wsX5_less := goodIn_r _ [6] (by decide +kernel) (by decide +kernel)
set_option maxRecDepth 20000 in
theorem gX5_streams_X5_less : GoodIn wsX5_streams (va_wsS RX5 165 yX5_less wsX5_less) := goodIn_app (goodIn_of _ (by decide +kernel)) ggX5_streams_X5_less
set_option maxRecDepth 20000 in
theorem ggX5_streams_X5_flag : GoodIn wsX5_streams wsX5_flag := goodIn_r _ [9] (by decide +kernel) (by decide +kernel)
set_option maxRecDepth 20000 in
theorem gX5_streams_X5_flag : GoodIn wsX5_streams (va_wsS RX5 221 yX5_flag wsX5_flag) := goodIn_app (goodIn_of _ (by decide +kernel)) ggX5_streams_X5_flag
theorem dX5_streams_0 : decode cX5_streams 0 = .ok (.iconst 0, 1) := by decide +kernel
theorem dX5_streams_1 : decode cX5_streams 1 = .ok (.istore 5, 2) := by decide +kernel
theorem dX5_streams_3 : decode cX5_streams 3 = .ok (.iconst 0, 1) := by decide +kernel
theorem dX5_streams_4 : decode cX5_streams 4 = .ok (.istore 6, 2) := by decide +kernel
theorem dX5_streams_6 : decode cX5_streams 6 = .ok (.iconst 1, 1) := by decide +kernel
theorem dX5_streams_7 : decode cX5_streams 7 = .ok (.istore 7, 2) := by decide +kernel
theorem dX5_streams_9 : decode cX5_streams 9 = .ok (.aload_n 0, 1) := by decide +kernel
theorem dX5_streams_10 : decode cX5_streams 10 = .ok (.iconst 0, 1) := by decide +kernel
theorem dX5_streams_11 : decode cX5_streams 11 = .ok (.putfield 260, 3) := by decide +kernel
theorem dX5_streams_14 : decode cX5_streams 14 = .ok (.iload 6, 2) := by decide +kernel
theorem dX5_streams_16 : decode cX5_streams 16 = .ok (.iload_n 1, 1) := by decide +kernel
theorem dX5_streams_17 : decode cX5_streams 17 = .ok (.if_icmp .ge 125, 3) := by decide +kernel
theorem dX5_streams_20 : decode cX5_streams 20 = .ok (.iload 6, 2) := by decide +kernel
theorem dX5_streams_22 : decode cX5_streams 22 = .ok (.iload 4, 2) := by decide +kernel
theorem dX5_streams_24 : decode cX5_streams 24 = .ok (.iadd, 1) := by decide +kernel
theorem dX5_streams_25 : decode cX5_streams 25 = .ok (.iload_n 1, 1) := by decide +kernel
theorem dX5_streams_26 : decode cX5_streams 26 = .ok (.invokestatic 165, 3) := by decide +kernel
theorem dX5_streams_29 : decode cX5_streams 29 = .ok (.iconst 1, 1) := by decide +kernel
theorem dX5_streams_30 : decode cX5_streams 30 = .ok (.isub, 1) := by decide +kernel
theorem dX5_streams_31 : decode cX5_streams 31 = .ok (.istore 8, 2) := by decide +kernel
theorem dX5_streams_33 : decode cX5_streams 33 = .ok (.iload 7, 2) := by decide +kernel
theorem dX5_streams_35 : decode cX5_streams 35 = .ok (.ifCond .eq 19, 3) := by decide +kernel
theorem dX5_streams_38 : decode cX5_streams 38 = .ok (.iload 8, 2) := by decide +kernel
theorem dX5_streams_40 : decode cX5_streams 40 = .ok (.iload_n 3, 1) := by decide +kernel
theorem dX5_streams_41 : decode cX5_streams 41 = .ok (.imul, 1) := by decide +kernel
theorem dX5_streams_42 : decode cX5_streams 42 = .ok (.iload 5, 2) := by decide +kernel
theorem dX5_streams_44 : decode cX5_streams 44 = .ok (.if_icmp .le 10, 3) := by decide +kernel
theorem dX5_streams_47 : decode cX5_streams 47 = .ok (.iload 8, 2) := by decide +kernel
theorem dX5_streams_49 : decode cX5_streams 49 = .ok (.iload_n 3, 1) := by decide +kernel
theorem dX5_streams_50 : decode cX5_streams 50 = .ok (.imul, 1) := by decide +kernel
theorem dX5_streams_51 : decode cX5_streams 51 = .ok (.goto 5, 3) := by decide +kernel
theorem dX5_streams_54 : decode cX5_streams 54 = .ok (.iload 5, 2) := by decide +kernel
theorem dX5_streams_56 : decode cX5_streams 56 = .ok (.istore 5, 2) := by decide +kernel
theorem dX5_streams_58 : decode cX5_streams 58 = .ok (.iload 5, 2) := by decide +kernel
theorem dX5_streams_60 : decode cX5_streams 60 = .ok (.aload_n 0, 1) := by decide +kernel
theorem dX5_streams_61 : decode cX5_streams 61 = .ok (.getfield 17, 3) := by decide +kernel
theorem dX5_streams_64 : decode cX5_streams 64 = .ok (.iconst 3, 1) := by decide +kernel
theorem dX5_streams_65 : decode cX5_streams 65 = .ok (.iaload, 1) := by decide +kernel
theorem dX5_streams_66 : decode cX5_streams 66 = .ok (.iload_n 2, 1) := by decide +kernel
theorem dX5_streams_67 : decode cX5_streams 67 = .ok (.aload_n 0, 1) := by decide +kernel
theorem dX5_streams_68 : decode cX5_streams 68 = .ok (.getfield 17, 3) := by decide +kernel
theorem dX5_streams_71 : decode cX5_streams 71 = .ok (.bipush 6, 2) := by decide +kernel
theorem dX5_streams_73 : decode cX5_streams 73 = .ok (.iaload, 1) := by decide +kernel
theorem dX5_streams_74 : decode cX5_streams 74 = .ok (.iadd, 1) := by decide +kernel
theorem dX5_streams_75 : decode cX5_streams 75 = .ok (.imul, 1) := by decide +kernel
theorem dX5_streams_76 : decode cX5_streams 76 = .ok (.iadd, 1) := by decide +kernel
theorem dX5_streams_77 : decode cX5_streams 77 = .ok (.istore 5, 2) := by decide +kernel
theorem dX5_streams_79 : decode cX5_streams 79 = .ok (.iinc 6 1, 3) := by decide +kernel
theorem dX5_streams_82 : decode cX5_streams 82 = .ok (.iload 6, 2) := by decide +kernel
theorem dX5_streams_84 : decode cX5_streams 84 = .ok (.iload_n 1, 1) := by decide +kernel
theorem dX5_streams_85 : decode cX5_streams 85 = .ok (.if_icmp .ge 16, 3) := by decide +kernel
theorem dX5_streams_88 : decode cX5_streams 88 = .ok (.iload 6, 2) := by decide +kernel
theorem dX5_streams_90 : decode cX5_streams 90 = .ok (.iload_n 3, 1) := by decide +kernel
theorem dX5_streams_91 : decode cX5_streams 91 = .ok (.imul, 1) := by decide +kernel
theorem dX5_streams_92 : decode cX5_streams 92 = .ok (.iload 5, 2) := by decide +kernel
theorem dX5_streams_94 : decode cX5_streams 94 = .ok (.if_icmp .le 7, 3) := by decide +kernel
theorem dX5_streams_97 : decode cX5_streams 97 = .ok (.iconst 1, 1) := by decide +kernel
theorem dX5_streams_98 : decode cX5_streams 98 = .ok (.goto 4, 3) := by decide +kernel
theorem dX5_streams_101 : decode cX5_streams 101 = .ok (.iconst 0, 1) := by decide +kernel
theorem dX5_streams_102 : decode cX5_streams 102 = .ok (.istore 7, 2) := by decide +kernel
theorem dX5_streams_104 : decode cX5_streams 104 = .ok (.aload_n 0, 1) := by decide +kernel
theorem dX5_streams_105 : decode cX5_streams 105 = .ok (.dup, 1) := by decide +kernel
theorem dX5_streams_106 : decode cX5_streams 106 = .ok (.getfield 260, 3) := by decide +kernel
theorem dX5_streams_109 : decode cX5_streams 109 = .ok (.iload 7, 2) := by decide +kernel
theorem dX5_streams_111 : decode cX5_streams 111 = .ok (.invokestatic 221, 3) := by decide +kernel
theorem dX5_streams_114 : decode cX5_streams 114 = .ok (.iadd, 1) := by decide +kernel
theorem dX5_streams_115 : decode cX5_streams 115 = .ok (.putfield 260, 3) := by decide +kernel
theorem dX5_streams_118 : decode cX5_streams 118 = .ok (.iload 5, 2) := by decide +kernel
theorem dX5_streams_120 : decode cX5_streams 120 = .ok (.iload 7, 2) := by decide +kernel
theorem dX5_streams_122 : decode cX5_streams 122 = .ok (.ifCond .eq 13, 3) := by decide +kernel
theorem dX5_streams_125 : decode cX5_streams 125 = .ok (.aload_n 0, 1) := by decide +kernel
theorem dX5_streams_126 : decode cX5_streams 126 = .ok (.getfield 17, 3) := by decide +kernel
theorem dX5_streams_129 : decode cX5_streams 129 = .ok (.bipush 8, 2) := by decide +kernel
theorem dX5_streams_131 : decode cX5_streams 131 = .ok (.iaload, 1) := by decide +kernel
theorem dX5_streams_132 : decode cX5_streams 132 = .ok (.goto 4, 3) := by decide +kernel
theorem dX5_streams_135 : decode cX5_streams 135 = .ok (.iconst 0, 1) := by decide +kernel
theorem dX5_streams_136 : decode cX5_streams 136 = .ok (.iadd, 1) := by decide +kernel
theorem dX5_streams_137 : decode cX5_streams 137 = .ok (.istore 5, 2) := by decide +kernel
theorem dX5_streams_139 : decode cX5_streams 139 = .ok (.goto (-125), 3) := by decide +kernel
theorem dX5_streams_142 : decode cX5_streams 142 = .ok (.iload 5, 2) := by decide +kernel
theorem dX5_streams_144 : decode cX5_streams 144 = .ok (.ireturn, 1) := by decide +kernel
set_option maxRecDepth 20000 in
theorem ggX5_isStream_X5_in : GoodIn wsX5_isStream wsX5_in := goodIn_r _ [6] (by decide +kernel) (by decide +kernel)
set_option maxRecDepth 20000 in
theorem gX5_isStream_X5_in : GoodIn wsX5_isStream (va_wsS RX5 75 yX5_in wsX5_in) := goodIn_app (goodIn_of _ (by decide +kernel)) ggX5_isStream_X5_in
theorem dX5_isStream_0 : decode cX5_isStream 0 = .ok (.iload_n 0, 1) := by decide +kernel
theorem dX5_isStream_1 : decode cX5_isStream 1 = .ok (.i2l, 1) := by decide +kernel
theorem dX5_isStream_2 : decode cX5_isStream 2 = .ok (.lconst 1, 1) := by decide +kernel
theorem dX5_isStream_3 : decode cX5_isStream 3 = .ok (.ldc2_w 255, 3) := by decide +kernel
theorem dX5_isStream_6 : decode cX5_isStream 6 = .ok (.invokestatic 75, 3) := by decide +kernel
theorem dX5_isStream_9 : decode cX5_isStream 9 = .ok (.ifCond .eq 31, 3) := by decide +kernel
theorem dX5_isStream_12 : decode cX5_isStream 12 = .ok (.iload_n 1, 1) := by decide +kernel
theorem dX5_isStream_13 : decode cX5_isStream 13 = .ok (.i2l, 1) := by decide +kernel
theorem dX5_isStream_14 : decode cX5_isStream 14 = .ok (.lconst 1, 1) := by decide +kernel
theorem dX5_isStream_15 : decode cX5_isStream 15 = .ok (.ldc2_w 255, 3) := by decide +kernel
theorem dX5_isStream_18 : decode cX5_isStream 18 = .ok (.invokestatic 75, 3) := by decide +kernel
theorem dX5_isStream_21 : decode cX5_isStream 21 = .ok (.ifCond .eq 19, 3) := by decide +kernel
theorem dX5_isStream_24 : decode cX5_isStream 24 = .ok (.iload_n 2, 1) := by decide +kernel
theorem dX5_isStream_25 : decode cX5_isStream 25 = .ok (.i2l, 1) := by decide +kernel
theorem dX5_isStream_26 : decode cX5_isStream 26 = .ok (.lconst 0, 1) := by decide +kernel
theorem dX5_isStream_27 : decode cX5_isStream 27 = .ok (.ldc2_w 263, 3) := by decide +kernel
theorem dX5_isStream_30 : decode cX5_isStream 30 = .ok (.invokestatic 75, 3) := by decide +kernel
theorem dX5_isStream_33 : decode cX5_isStream 33 = .ok (.ifCond .eq 7, 3) := by decide +kernel
theorem dX5_isStream_36 : decode cX5_isStream 36 = .ok (.iconst 1, 1) := by decide +kernel
theorem dX5_isStream_37 : decode cX5_isStream 37 = .ok (.goto 4, 3) := by decide +kernel
theorem dX5_isStream_40 : decode cX5_isStream 40 = .ok (.iconst 0, 1) := by decide +kernel
theorem dX5_isStream_41 : decode cX5_isStream 41 = .ok (.ireturn, 1) := by decide +kernel
set_option maxRecDepth 20000 in
theorem ggX5_stream_X5_isStream : GoodIn wsX5_stream wsX5_isStream := goodIn_r _ [6, 1, 7, 8, 9, 5, 10] (by decide +kernel) (by decide +kernel)
set_option maxRecDepth 20000 in
theorem gX5_stream_X5_isStream : GoodIn wsX5_stream (va_wsS RX5 265 yX5_isStream wsX5_isStream) := goodIn_app (goodIn_of _ (by decide +kernel)) ggX5_stream_X5_isStream
set_option maxRecDepth 20000 in
theorem ggX5_stream_X5_in : GoodIn wsX5_stream wsX5_in := goodIn_r _ [10] (by decide +kernel) (by decide +kernel)
set_option maxRecDepth 20000 in
theorem gX5_stream_X5_in : GoodIn wsX5_stream (va_wsS RX5 75 yX5_in wsX5_in) := goodIn_app (goodIn_of _ (by decide +kernel)) ggX5_stream_X5_in
set_option maxRecDepth 20000 in
theorem ggX5_stream_X5_streams : GoodIn wsX5_stream wsX5_streams := goodIn_r _ [14, 2, 15, 16, 17, 5, 18, 19, 20, 21, 22, 23, 24, 25, 26, 27, 28, 29, 30, 31, 32, 33, 34, 35, 36, 37, 38, 39, 40, 41, 42, 43, 44, 45, 46, 47] (by decide +kernel) (by decide +kernel)
set_option maxRecDepth 20000 in
theorem gX5_stream_X5_streams : GoodIn wsX5_stream (wsV RX5 269 RX5 yX5_streams wsX5_streams) := goodIn_app (goodIn_of _ (by decide +kernel)) ggX5_stream_X5_streams
theorem dX5_stream_0 : decode cX5_stream 0 = .ok (.iload_n 1, 1) := by decide +kernel
theorem dX5_stream_1 : decode cX5_stream 1 = .ok (.iload_n 2, 1) := by decide +kernel
theorem dX5_stream_2 : decode cX5_stream 2 = .ok (.iload_n 3, 1) := by decide +kernel
theorem dX5_stream_3 : decode cX5_stream 3 = .ok (.invokestatic 265, 3) := by decide +kernel
theorem dX5_stream_6 : decode cX5_stream 6 = .ok (.ifCond .eq 27, 3) := by decide +kernel
theorem dX5_stream_9 : decode cX5_stream 9 = .ok (.iload 4, 2) := by decide +kernel
theorem dX5_stream_11 : decode cX5_stream 11 = .ok (.i2l, 1) := by decide +kernel
theorem dX5_stream_12 : decode cX5_stream 12 = .ok (.lconst 1, 1) := by decide +kernel
theorem dX5_stream_13 : decode cX5_stream 13 = .ok (.ldc2_w 255, 3) := by decide +kernel
theorem dX5_stream_16 : decode cX5_stream 16 = .ok (.invokestatic 75, 3) := by decide +kernel
theorem dX5_stream_19 : decode cX5_stream 19 = .ok (.ifCond .eq 14, 3) := by decide +kernel
theorem dX5_stream_22 : decode cX5_stream 22 = .ok (.iload 5, 2) := by decide +kernel
theorem dX5_stream_24 : decode cX5_stream 24 = .ok (.i2l, 1) := by decide +kernel
theorem dX5_stream_25 : decode cX5_stream 25 = .ok (.lconst 0, 1) := by decide +kernel
theorem dX5_stream_26 : decode cX5_stream 26 = .ok (.lconst 1, 1) := by decide +kernel
theorem dX5_stream_27 : decode cX5_stream 27 = .ok (.invokestatic 75, 3) := by decide +kernel
theorem dX5_stream_30 : decode cX5_stream 30 = .ok (.ifCond .ne 5, 3) := by decide +kernel
theorem dX5_stream_33 : decode cX5_stream 33 = .ok (.iconst (-1), 1) := by decide +kernel
theorem dX5_stream_34 : decode cX5_stream 34 = .ok (.ireturn, 1) := by decide +kernel
theorem dX5_stream_35 : decode cX5_stream 35 = .ok (.aload_n 0, 1) := by decide +kernel
theorem dX5_stream_36 : decode cX5_stream 36 = .ok (.iload_n 1, 1) := by decide +kernel
theorem dX5_stream_37 : decode cX5_stream 37 = .ok (.iload_n 2, 1) := by decide +kernel
theorem dX5_stream_38 : decode cX5_stream 38 = .ok (.iload_n 3, 1) := by decide +kernel
theorem dX5_stream_39 : decode cX5_stream 39 = .ok (.iload 4, 2) := by decide +kernel
theorem dX5_stream_41 : decode cX5_stream 41 = .ok (.invokevirtual 269, 3) := by decide +kernel
theorem dX5_stream_44 : decode cX5_stream 44 = .ok (.istore 6, 2) := by decide +kernel
theorem dX5_stream_46 : decode cX5_stream 46 = .ok (.iload 5, 2) := by decide +kernel
theorem dX5_stream_48 : decode cX5_stream 48 = .ok (.ifCond .ne 8, 3) := by decide +kernel
theorem dX5_stream_51 : decode cX5_stream 51 = .ok (.iload 6, 2) := by decide +kernel
theorem dX5_stream_53 : decode cX5_stream 53 = .ok (.goto 7, 3) := by decide +kernel
theorem dX5_stream_56 : decode cX5_stream 56 = .ok (.aload_n 0, 1) := by decide +kernel
theorem dX5_stream_57 : decode cX5_stream 57 = .ok (.getfield 260, 3) := by decide +kernel
theorem dX5_stream_60 : decode cX5_stream 60 = .ok (.ireturn, 1) := by decide +kernel
set_option maxRecDepth 20000 in
theorem ggX5_buffer_X5_isStream : GoodIn wsX5_buffer wsX5_isStream := goodIn_r _ [4, 5, 6, 7, 8, 3, 9] (by decide +kernel) (by decide +kernel)
set_option maxRecDepth 20000 in
theorem gX5_buffer_X5_isStream : GoodIn wsX5_buffer (va_wsS RX5 265 yX5_isStream wsX5_isStream) := goodIn_app (goodIn_of _ (by decide +kernel)) ggX5_buffer_X5_isStream
set_option maxRecDepth 20000 in
theorem ggX5_buffer_X5_in : GoodIn wsX5_buffer wsX5_in := goodIn_r _ [9] (by decide +kernel) (by decide +kernel)
set_option maxRecDepth 20000 in
theorem gX5_buffer_X5_in : GoodIn wsX5_buffer (va_wsS RX5 75 yX5_in wsX5_in) := goodIn_app (goodIn_of _ (by decide +kernel)) ggX5_buffer_X5_in
set_option maxRecDepth 20000 in
theorem ggX5_buffer_X5_streams : GoodIn wsX5_buffer wsX5_streams := goodIn_r _ [13, 14, 15, 16, 17, 3, 18, 19, 20, 21, 22, 23, 24, 25, 26, 27, 28, 29, 30, 31, 32, 33, 34, 35, 36, 37, 38, 39, 40, 41, 42, 43, 44, 45, 46, 47] (by decide +kernel) (by decide +kernel)
set_option maxRecDepth 20000 in
theorem gX5_buffer_X5_streams : GoodIn wsX5_buffer (wsV RX5 269 RX5 yX5_streams wsX5_streams) := goodIn_app (goodIn_of _ (by decide +kernel)) ggX5_buffer_X5_streams
set_option maxRecDepth 20000 in
theorem ggX5_buffer_X5_less : GoodIn wsX5_buffer wsX5_less := goodIn_r _ [18] (by decide +kernel) (by decide +kernel)
set_option maxRecDepth 20000 in
theorem gX5_buffer_X5_less : GoodIn wsX5_buffer (va_wsS RX5 165 yX5_less wsX5_less) := goodIn_app (goodIn_of _ (by decide +kernel)) ggX5_buffer_X5_less
theorem dX5_buffer_0 : decode cX5_buffer 0 = .ok (.iload_n 1, 1) := by decide +kernel
theorem dX5_buffer_1 : decode cX5_buffer 1 = .ok (.iload_n 2, 1) := by decide +kernel
theorem dX5_buffer_2 : decode cX5_buffer 2 = .ok (.iload_n 3, 1) := by decide +kernel
theorem dX5_buffer_3 : decode cX5_buffer 3 = .ok (.invokestatic 265, 3) := by decide +kernel
theorem dX5_buffer_6 : decode cX5_buffer 6 = .ok (.ifCond .eq 14, 3) := by decide +kernel
theorem dX5_buffer_9 : decode cX5_buffer 9 = .ok (.iload 4, 2) := by decide +kernel
theorem dX5_buffer_11 : decode cX5_buffer 11 = .ok (.i2l, 1) := by decide +kernel
theorem dX5_buffer_12 : decode cX5_buffer 12 = .ok (.lconst 0, 1) := by decide +kernel
theorem dX5_buffer_13 : decode cX5_buffer 13 = .ok (.lconst 1, 1) := by decide +kernel
theorem dX5_buffer_14 : decode cX5_buffer 14 = .ok (.invokestatic 75, 3) := by decide +kernel
theorem dX5_buffer_17 : decode cX5_buffer 17 = .ok (.ifCond .ne 5, 3) := by decide +kernel
theorem dX5_buffer_20 : decode cX5_buffer 20 = .ok (.iconst (-1), 1) := by decide +kernel
theorem dX5_buffer_21 : decode cX5_buffer 21 = .ok (.ireturn, 1) := by decide +kernel
theorem dX5_buffer_22 : decode cX5_buffer 22 = .ok (.iconst 1, 1) := by decide +kernel
theorem dX5_buffer_23 : decode cX5_buffer 23 = .ok (.istore 5, 2) := by decide +kernel
theorem dX5_buffer_25 : decode cX5_buffer 25 = .ok (.aload_n 0, 1) := by decide +kernel
theorem dX5_buffer_26 : decode cX5_buffer 26 = .ok (.iload_n 1, 1) := by decide +kernel
theorem dX5_buffer_27 : decode cX5_buffer 27 = .ok (.iload_n 2, 1) := by decide +kernel
theorem dX5_buffer_28 : decode cX5_buffer 28 = .ok (.iload_n 3, 1) := by decide +kernel
theorem dX5_buffer_29 : decode cX5_buffer 29 = .ok (.iconst 1, 1) := by decide +kernel
theorem dX5_buffer_30 : decode cX5_buffer 30 = .ok (.invokevirtual 269, 3) := by decide +kernel
theorem dX5_buffer_33 : decode cX5_buffer 33 = .ok (.istore 6, 2) := by decide +kernel
theorem dX5_buffer_35 : decode cX5_buffer 35 = .ok (.iconst 2, 1) := by decide +kernel
theorem dX5_buffer_36 : decode cX5_buffer 36 = .ok (.istore 7, 2) := by decide +kernel
theorem dX5_buffer_38 : decode cX5_buffer 38 = .ok (.iload 7, 2) := by decide +kernel
theorem dX5_buffer_40 : decode cX5_buffer 40 = .ok (.iload_n 1, 1) := by decide +kernel
theorem dX5_buffer_41 : decode cX5_buffer 41 = .ok (.if_icmp .gt 45, 3) := by decide +kernel
theorem dX5_buffer_44 : decode cX5_buffer 44 = .ok (.aload_n 0, 1) := by decide +kernel
theorem dX5_buffer_45 : decode cX5_buffer 45 = .ok (.iload_n 1, 1) := by decide +kernel
theorem dX5_buffer_46 : decode cX5_buffer 46 = .ok (.iload_n 2, 1) := by decide +kernel
theorem dX5_buffer_47 : decode cX5_buffer 47 = .ok (.iload_n 3, 1) := by decide +kernel
theorem dX5_buffer_48 : decode cX5_buffer 48 = .ok (.iload 7, 2) := by decide +kernel
theorem dX5_buffer_50 : decode cX5_buffer 50 = .ok (.invokevirtual 269, 3) := by decide +kernel
theorem dX5_buffer_53 : decode cX5_buffer 53 = .ok (.istore 8, 2) := by decide +kernel
theorem dX5_buffer_55 : decode cX5_buffer 55 = .ok (.iload 8, 2) := by decide +kernel
theorem dX5_buffer_57 : decode cX5_buffer 57 = .ok (.iload 6, 2) := by decide +kernel
theorem dX5_buffer_59 : decode cX5_buffer 59 = .ok (.if_icmp .ge 8, 3) := by decide +kernel
theorem dX5_buffer_62 : decode cX5_buffer 62 = .ok (.iload 7, 2) := by decide +kernel
theorem dX5_buffer_64 : decode cX5_buffer 64 = .ok (.goto 5, 3) := by decide +kernel
theorem dX5_buffer_67 : decode cX5_buffer 67 = .ok (.iload 5, 2) := by decide +kernel
theorem dX5_buffer_69 : decode cX5_buffer 69 = .ok (.istore 5, 2) := by decide +kernel
theorem dX5_buffer_71 : decode cX5_buffer 71 = .ok (.iload 8, 2) := by decide +kernel
theorem dX5_buffer_73 : decode cX5_buffer 73 = .ok (.iload 6, 2) := by decide +kernel
theorem dX5_buffer_75 : decode cX5_buffer 75 = .ok (.invokestatic 165, 3) := by decide +kernel
theorem dX5_buffer_78 : decode cX5_buffer 78 = .ok (.istore 6, 2) := by decide +kernel
theorem dX5_buffer_80 : decode cX5_buffer 80 = .ok (.iinc 7 1, 3) := by decide +kernel
theorem dX5_buffer_83 : decode cX5_buffer 83 = .ok (.goto (-45), 3) := by decide +kernel
theorem dX5_buffer_86 : decode cX5_buffer 86 = .ok (.iload 4, 2) := by decide +kernel
theorem dX5_buffer_88 : decode cX5_buffer 88 = .ok (.ifCond .ne 8, 3) := by decide +kernel
theorem dX5_buffer_91 : decode cX5_buffer 91 = .ok (.iload 5, 2) := by decide +kernel
theorem dX5_buffer_93 : decode cX5_buffer 93 = .ok (.goto 5, 3) := by decide +kernel
theorem dX5_buffer_96 : decode cX5_buffer 96 = .ok (.iload 6, 2) := by decide +kernel
theorem dX5_buffer_98 : decode cX5_buffer 98 = .ok (.ireturn, 1) := by decide +kernel
set_option maxRecDepth 20000 in
theorem ggX5_saw_X5_in : GoodIn wsX5_saw wsX5_in := goodIn_r _ [7] (by decide +kernel) (by decide +kernel)
set_option maxRecDepth 20000 in
theorem gX5_saw_X5_in : GoodIn wsX5_saw (va_wsS RX5 75 yX5_in wsX5_in) := goodIn_app (goodIn_of _ (by decide +kernel)) ggX5_saw_X5_in
theorem dX5_saw_0 : decode cX5_saw 0 = .ok (.iload_n 1, 1) := by decide +kernel
theorem dX5_saw_1 : decode cX5_saw 1 = .ok (.i2l, 1) := by decide +kernel
theorem dX5_saw_2 : decode cX5_saw 2 = .ok (.lconst 0, 1) := by decide +kernel
theorem dX5_saw_3 : decode cX5_saw 3 = .ok (.ldc2_w 273, 3) := by decide +kernel
theorem dX5_saw_6 : decode cX5_saw 6 = .ok (.invokestatic 75, 3) := by decide +kernel
theorem dX5_saw_9 : decode cX5_saw 9 = .ok (.ifCond .eq 15, 3) := by decide +kernel
theorem dX5_saw_12 : decode cX5_saw 12 = .ok (.iload_n 2, 1) := by decide +kernel
theorem dX5_saw_13 : decode cX5_saw 13 = .ok (.i2l, 1) := by decide +kernel
theorem dX5_saw_14 : decode cX5_saw 14 = .ok (.lconst 0, 1) := by decide +kernel
theorem dX5_saw_15 : decode cX5_saw 15 = .ok (.ldc2_w 263, 3) := by decide +kernel
theorem dX5_saw_18 : decode cX5_saw 18 = .ok (.invokestatic 75, 3) := by decide +kernel
theorem dX5_saw_21 : decode cX5_saw 21 = .ok (.ifCond .ne 5, 3) := by decide +kernel
theorem dX5_saw_24 : decode cX5_saw 24 = .ok (.iconst (-1), 1) := by decide +kernel
theorem dX5_saw_25 : decode cX5_saw 25 = .ok (.ireturn, 1) := by decide +kernel
theorem dX5_saw_26 : decode cX5_saw 26 = .ok (.aload_n 0, 1) := by decide +kernel
theorem dX5_saw_27 : decode cX5_saw 27 = .ok (.getfield 7, 3) := by decide +kernel
theorem dX5_saw_30 : decode cX5_saw 30 = .ok (.sipush 341, 3) := by decide +kernel
theorem dX5_saw_33 : decode cX5_saw 33 = .ok (.iaload, 1) := by decide +kernel
theorem dX5_saw_34 : decode cX5_saw 34 = .ok (.bipush 12, 2) := by decide +kernel
theorem dX5_saw_36 : decode cX5_saw 36 = .ok (.if_icmp .ne 6, 3) := by decide +kernel
theorem dX5_saw_39 : decode cX5_saw 39 = .ok (.bipush (-3), 2) := by decide +kernel
theorem dX5_saw_41 : decode cX5_saw 41 = .ok (.ireturn, 1) := by decide +kernel
theorem dX5_saw_42 : decode cX5_saw 42 = .ok (.aload_n 0, 1) := by decide +kernel
theorem dX5_saw_43 : decode cX5_saw 43 = .ok (.getfield 7, 3) := by decide +kernel
theorem dX5_saw_46 : decode cX5_saw 46 = .ok (.sipush 342, 3) := by decide +kernel
theorem dX5_saw_49 : decode cX5_saw 49 = .ok (.iconst 2, 1) := by decide +kernel
theorem dX5_saw_50 : decode cX5_saw 50 = .ok (.aload_n 0, 1) := by decide +kernel
theorem dX5_saw_51 : decode cX5_saw 51 = .ok (.getfield 7, 3) := by decide +kernel
theorem dX5_saw_54 : decode cX5_saw 54 = .ok (.sipush 341, 3) := by decide +kernel
theorem dX5_saw_57 : decode cX5_saw 57 = .ok (.iaload, 1) := by decide +kernel
theorem dX5_saw_58 : decode cX5_saw 58 = .ok (.imul, 1) := by decide +kernel
theorem dX5_saw_59 : decode cX5_saw 59 = .ok (.iadd, 1) := by decide +kernel
theorem dX5_saw_60 : decode cX5_saw 60 = .ok (.iload_n 1, 1) := by decide +kernel
theorem dX5_saw_61 : decode cX5_saw 61 = .ok (.iastore, 1) := by decide +kernel
theorem dX5_saw_62 : decode cX5_saw 62 = .ok (.aload_n 0, 1) := by decide +kernel
theorem dX5_saw_63 : decode cX5_saw 63 = .ok (.getfield 7, 3) := by decide +kernel
theorem dX5_saw_66 : decode cX5_saw 66 = .ok (.sipush 342, 3) := by decide +kernel
theorem dX5_saw_69 : decode cX5_saw 69 = .ok (.iconst 2, 1) := by decide +kernel
theorem dX5_saw_70 : decode cX5_saw 70 = .ok (.aload_n 0, 1) := by decide +kernel
theorem dX5_saw_71 : decode cX5_saw 71 = .ok (.getfield 7, 3) := by decide +kernel
theorem dX5_saw_74 : decode cX5_saw 74 = .ok (.sipush 341, 3) := by decide +kernel
theorem dX5_saw_77 : decode cX5_saw 77 = .ok (.iaload, 1) := by decide +kernel
theorem dX5_saw_78 : decode cX5_saw 78 = .ok (.imul, 1) := by decide +kernel
theorem dX5_saw_79 : decode cX5_saw 79 = .ok (.iadd, 1) := by decide +kernel
theorem dX5_saw_80 : decode cX5_saw 80 = .ok (.iconst 1, 1) := by decide +kernel
theorem dX5_saw_81 : decode cX5_saw 81 = .ok (.iadd, 1) := by decide +kernel
theorem dX5_saw_82 : decode cX5_saw 82 = .ok (.iload_n 2, 1) := by decide +kernel
theorem dX5_saw_83 : decode cX5_saw 83 = .ok (.iastore, 1) := by decide +kernel
theorem dX5_saw_84 : decode cX5_saw 84 = .ok (.aload_n 0, 1) := by decide +kernel
theorem dX5_saw_85 : decode cX5_saw 85 = .ok (.getfield 7, 3) := by decide +kernel
theorem dX5_saw_88 : decode cX5_saw 88 = .ok (.sipush 341, 3) := by decide +kernel
theorem dX5_saw_91 : decode cX5_saw 91 = .ok (.dup2, 1) := by decide +kernel
theorem dX5_saw_92 : decode cX5_saw 92 = .ok (.iaload, 1) := by decide +kernel
theorem dX5_saw_93 : decode cX5_saw 93 = .ok (.iconst 1, 1) := by decide +kernel
theorem dX5_saw_94 : decode cX5_saw 94 = .ok (.iadd, 1) := by decide +kernel
theorem dX5_saw_95 : decode cX5_saw 95 = .ok (.iastore, 1) := by decide +kernel
theorem dX5_saw_96 : decode cX5_saw 96 = .ok (.aload_n 0, 1) := by decide +kernel
theorem dX5_saw_97 : decode cX5_saw 97 = .ok (.getfield 7, 3) := by decide +kernel
theorem dX5_saw_100 : decode cX5_saw 100 = .ok (.sipush 341, 3) := by decide +kernel
theorem dX5_saw_103 : decode cX5_saw 103 = .ok (.iaload, 1) := by decide +kernel
theorem dX5_saw_104 : decode cX5_saw 104 = .ok (.ireturn, 1) := by decide +kernel
theorem dX5_forget_0 : decode cX5_forget 0 = .ok (.aload_n 0, 1) := by decide +kernel
theorem dX5_forget_1 : decode cX5_forget 1 = .ok (.getfield 7, 3) := by decide +kernel
theorem dX5_forget_4 : decode cX5_forget 4 = .ok (.sipush 341, 3) := by decide +kernel
theorem dX5_forget_7 : decode cX5_forget 7 = .ok (.iaload, 1) := by decide +kernel
theorem dX5_forget_8 : decode cX5_forget 8 = .ok (.istore_n 1, 1) := by decide +kernel
theorem dX5_forget_9 : decode cX5_forget 9 = .ok (.aload_n 0, 1) := by decide +kernel
theorem dX5_forget_10 : decode cX5_forget 10 = .ok (.getfield 7, 3) := by decide +kernel
theorem dX5_forget_13 : decode cX5_forget 13 = .ok (.sipush 341, 3) := by decide +kernel
theorem dX5_forget_16 : decode cX5_forget 16 = .ok (.iconst 0, 1) := by decide +kernel
theorem dX5_forget_17 : decode cX5_forget 17 = .ok (.iastore, 1) := by decide +kernel
theorem dX5_forget_18 : decode cX5_forget 18 = .ok (.iload_n 1, 1) := by decide +kernel
theorem dX5_forget_19 : decode cX5_forget 19 = .ok (.ireturn, 1) := by decide +kernel
set_option maxRecDepth 20000 in
theorem ggX5_canBe_X5_turnsOf : GoodIn wsX5_canBe wsX5_turnsOf := goodIn_r _ [5] (by decide +kernel) (by decide +kernel)
set_option maxRecDepth 20000 in
theorem gX5_canBe_X5_turnsOf : GoodIn wsX5_canBe (va_wsS RX5 145 yX5_turnsOf wsX5_turnsOf) := goodIn_app (goodIn_of _ (by decide +kernel)) ggX5_canBe_X5_turnsOf
theorem dX5_canBe_0 : decode cX5_canBe 0 = .ok (.iconst 0, 1) := by decide +kernel
theorem dX5_canBe_1 : decode cX5_canBe 1 = .ok (.istore_n 3, 1) := by decide +kernel
theorem dX5_canBe_2 : decode cX5_canBe 2 = .ok (.iload_n 3, 1) := by decide +kernel
theorem dX5_canBe_3 : decode cX5_canBe 3 = .ok (.aload_n 0, 1) := by decide +kernel
theorem dX5_canBe_4 : decode cX5_canBe 4 = .ok (.getfield 7, 3) := by decide +kernel
theorem dX5_canBe_7 : decode cX5_canBe 7 = .ok (.sipush 341, 3) := by decide +kernel
theorem dX5_canBe_10 : decode cX5_canBe 10 = .ok (.iaload, 1) := by decide +kernel
theorem dX5_canBe_11 : decode cX5_canBe 11 = .ok (.if_icmp .ge 45, 3) := by decide +kernel
theorem dX5_canBe_14 : decode cX5_canBe 14 = .ok (.aload_n 0, 1) := by decide +kernel
theorem dX5_canBe_15 : decode cX5_canBe 15 = .ok (.getfield 7, 3) := by decide +kernel
theorem dX5_canBe_18 : decode cX5_canBe 18 = .ok (.sipush 342, 3) := by decide +kernel
theorem dX5_canBe_21 : decode cX5_canBe 21 = .ok (.iconst 2, 1) := by decide +kernel
theorem dX5_canBe_22 : decode cX5_canBe 22 = .ok (.iload_n 3, 1) := by decide +kernel
theorem dX5_canBe_23 : decode cX5_canBe 23 = .ok (.imul, 1) := by decide +kernel
theorem dX5_canBe_24 : decode cX5_canBe 24 = .ok (.iadd, 1) := by decide +kernel
theorem dX5_canBe_25 : decode cX5_canBe 25 = .ok (.iconst 1, 1) := by decide +kernel
theorem dX5_canBe_26 : decode cX5_canBe 26 = .ok (.iadd, 1) := by decide +kernel
theorem dX5_canBe_27 : decode cX5_canBe 27 = .ok (.iaload, 1) := by decide +kernel
theorem dX5_canBe_28 : decode cX5_canBe 28 = .ok (.iload_n 1, 1) := by decide +kernel
theorem dX5_canBe_29 : decode cX5_canBe 29 = .ok (.iload_n 2, 1) := by decide +kernel
theorem dX5_canBe_30 : decode cX5_canBe 30 = .ok (.invokestatic 145, 3) := by decide +kernel
theorem dX5_canBe_33 : decode cX5_canBe 33 = .ok (.aload_n 0, 1) := by decide +kernel
theorem dX5_canBe_34 : decode cX5_canBe 34 = .ok (.getfield 7, 3) := by decide +kernel
theorem dX5_canBe_37 : decode cX5_canBe 37 = .ok (.sipush 342, 3) := by decide +kernel
theorem dX5_canBe_40 : decode cX5_canBe 40 = .ok (.iconst 2, 1) := by decide +kernel
theorem dX5_canBe_41 : decode cX5_canBe 41 = .ok (.iload_n 3, 1) := by decide +kernel
theorem dX5_canBe_42 : decode cX5_canBe 42 = .ok (.imul, 1) := by decide +kernel
theorem dX5_canBe_43 : decode cX5_canBe 43 = .ok (.iadd, 1) := by decide +kernel
theorem dX5_canBe_44 : decode cX5_canBe 44 = .ok (.iaload, 1) := by decide +kernel
theorem dX5_canBe_45 : decode cX5_canBe 45 = .ok (.if_icmp .eq 5, 3) := by decide +kernel
theorem dX5_canBe_48 : decode cX5_canBe 48 = .ok (.iconst 0, 1) := by decide +kernel
theorem dX5_canBe_49 : decode cX5_canBe 49 = .ok (.ireturn, 1) := by decide +kernel
theorem dX5_canBe_50 : decode cX5_canBe 50 = .ok (.iinc 3 1, 3) := by decide +kernel
theorem dX5_canBe_53 : decode cX5_canBe 53 = .ok (.goto (-51), 3) := by decide +kernel
theorem dX5_canBe_56 : decode cX5_canBe 56 = .ok (.iconst 1, 1) := by decide +kernel
theorem dX5_canBe_57 : decode cX5_canBe 57 = .ok (.ireturn, 1) := by decide +kernel
set_option maxRecDepth 20000 in
theorem ggX5_fits_X5_in : GoodIn wsX5_fits wsX5_in := goodIn_r _ [5] (by decide +kernel) (by decide +kernel)
set_option maxRecDepth 20000 in
theorem gX5_fits_X5_in : GoodIn wsX5_fits (va_wsS RX5 75 yX5_in wsX5_in) := goodIn_app (goodIn_of _ (by decide +kernel)) ggX5_fits_X5_in
set_option maxRecDepth 20000 in
theorem ggX5_fits_X5_canBe : GoodIn wsX5_fits wsX5_canBe := goodIn_r _ [9, 10, 11, 12, 4, 13, 14, 15, 16, 17, 18, 19, 20, 21, 22, 23, 24, 25, 26, 27, 28, 29, 30, 31, 32, 33, 34, 35, 36, 37, 38, 39] (by decide +kernel) (by decide +kernel)
set_option maxRecDepth 20000 in
theorem gX5_fits_X5_canBe : GoodIn wsX5_fits (wsV RX5 275 RX5 yX5_canBe wsX5_canBe) := goodIn_app (goodIn_of _ (by decide +kernel)) ggX5_fits_X5_canBe
theorem dX5_fits_0 : decode cX5_fits 0 = .ok (.iload_n 1, 1) := by decide +kernel
theorem dX5_fits_1 : decode cX5_fits 1 = .ok (.i2l, 1) := by decide +kernel
theorem dX5_fits_2 : decode cX5_fits 2 = .ok (.lconst 0, 1) := by decide +kernel
theorem dX5_fits_3 : decode cX5_fits 3 = .ok (.ldc2_w 168, 3) := by decide +kernel
theorem dX5_fits_6 : decode cX5_fits 6 = .ok (.invokestatic 75, 3) := by decide +kernel
theorem dX5_fits_9 : decode cX5_fits 9 = .ok (.ifCond .ne 5, 3) := by decide +kernel
theorem dX5_fits_12 : decode cX5_fits 12 = .ok (.iconst (-1), 1) := by decide +kernel
theorem dX5_fits_13 : decode cX5_fits 13 = .ok (.ireturn, 1) := by decide +kernel
theorem dX5_fits_14 : decode cX5_fits 14 = .ok (.iconst 0, 1) := by decide +kernel
theorem dX5_fits_15 : decode cX5_fits 15 = .ok (.istore_n 2, 1) := by decide +kernel
theorem dX5_fits_16 : decode cX5_fits 16 = .ok (.bipush (-4), 2) := by decide +kernel
theorem dX5_fits_18 : decode cX5_fits 18 = .ok (.istore_n 3, 1) := by decide +kernel
theorem dX5_fits_19 : decode cX5_fits 19 = .ok (.iconst 5, 1) := by decide +kernel
theorem dX5_fits_20 : decode cX5_fits 20 = .ok (.istore 4, 2) := by decide +kernel
theorem dX5_fits_22 : decode cX5_fits 22 = .ok (.iload 4, 2) := by decide +kernel
theorem dX5_fits_24 : decode cX5_fits 24 = .ok (.bipush 100, 2) := by decide +kernel
theorem dX5_fits_26 : decode cX5_fits 26 = .ok (.if_icmp .ge 58, 3) := by decide +kernel
theorem dX5_fits_29 : decode cX5_fits 29 = .ok (.iconst 1, 1) := by decide +kernel
theorem dX5_fits_30 : decode cX5_fits 30 = .ok (.istore 5, 2) := by decide +kernel
theorem dX5_fits_32 : decode cX5_fits 32 = .ok (.iload 5, 2) := by decide +kernel
theorem dX5_fits_34 : decode cX5_fits 34 = .ok (.bipush 10, 2) := by decide +kernel
theorem dX5_fits_36 : decode cX5_fits 36 = .ok (.if_icmp .ge 42, 3) := by decide +kernel
theorem dX5_fits_39 : decode cX5_fits 39 = .ok (.aload_n 0, 1) := by decide +kernel
theorem dX5_fits_40 : decode cX5_fits 40 = .ok (.iload 4, 2) := by decide +kernel
theorem dX5_fits_42 : decode cX5_fits 42 = .ok (.iload 5, 2) := by decide +kernel
theorem dX5_fits_44 : decode cX5_fits 44 = .ok (.invokevirtual 275, 3) := by decide +kernel
theorem dX5_fits_47 : decode cX5_fits 47 = .ok (.ifCond .eq 25, 3) := by decide +kernel
theorem dX5_fits_50 : decode cX5_fits 50 = .ok (.iload_n 3, 1) := by decide +kernel
theorem dX5_fits_51 : decode cX5_fits 51 = .ok (.bipush (-4), 2) := by decide +kernel
theorem dX5_fits_53 : decode cX5_fits 53 = .ok (.if_icmp .ne 14, 3) := by decide +kernel
theorem dX5_fits_56 : decode cX5_fits 56 = .ok (.bipush 10, 2) := by decide +kernel
theorem dX5_fits_58 : decode cX5_fits 58 = .ok (.iload 4, 2) := by decide +kernel
theorem dX5_fits_60 : decode cX5_fits 60 = .ok (.imul, 1) := by decide +kernel
theorem dX5_fits_61 : decode cX5_fits 61 = .ok (.iload 5, 2) := by decide +kernel
theorem dX5_fits_63 : decode cX5_fits 63 = .ok (.iadd, 1) := by decide +kernel
theorem dX5_fits_64 : decode cX5_fits 64 = .ok (.goto 4, 3) := by decide +kernel
theorem dX5_fits_67 : decode cX5_fits 67 = .ok (.iload_n 3, 1) := by decide +kernel
theorem dX5_fits_68 : decode cX5_fits 68 = .ok (.istore_n 3, 1) := by decide +kernel
theorem dX5_fits_69 : decode cX5_fits 69 = .ok (.iinc 2 1, 3) := by decide +kernel
theorem dX5_fits_72 : decode cX5_fits 72 = .ok (.iinc 5 1, 3) := by decide +kernel
theorem dX5_fits_75 : decode cX5_fits 75 = .ok (.goto (-43), 3) := by decide +kernel
theorem dX5_fits_78 : decode cX5_fits 78 = .ok (.iinc 4 1, 3) := by decide +kernel
theorem dX5_fits_81 : decode cX5_fits 81 = .ok (.goto (-59), 3) := by decide +kernel
theorem dX5_fits_84 : decode cX5_fits 84 = .ok (.iload_n 1, 1) := by decide +kernel
theorem dX5_fits_85 : decode cX5_fits 85 = .ok (.ifCond .ne 7, 3) := by decide +kernel
theorem dX5_fits_88 : decode cX5_fits 88 = .ok (.iload_n 2, 1) := by decide +kernel
theorem dX5_fits_89 : decode cX5_fits 89 = .ok (.goto 30, 3) := by decide +kernel
theorem dX5_fits_92 : decode cX5_fits 92 = .ok (.iload_n 3, 1) := by decide +kernel
theorem dX5_fits_93 : decode cX5_fits 93 = .ok (.bipush (-4), 2) := by decide +kernel
theorem dX5_fits_95 : decode cX5_fits 95 = .ok (.if_icmp .ne 8, 3) := by decide +kernel
theorem dX5_fits_98 : decode cX5_fits 98 = .ok (.bipush (-4), 2) := by decide +kernel
theorem dX5_fits_100 : decode cX5_fits 100 = .ok (.goto 19, 3) := by decide +kernel
theorem dX5_fits_103 : decode cX5_fits 103 = .ok (.iload_n 1, 1) := by decide +kernel
theorem dX5_fits_104 : decode cX5_fits 104 = .ok (.iconst 1, 1) := by decide +kernel
theorem dX5_fits_105 : decode cX5_fits 105 = .ok (.if_icmp .ne 10, 3) := by decide +kernel
theorem dX5_fits_108 : decode cX5_fits 108 = .ok (.iload_n 3, 1) := by decide +kernel
theorem dX5_fits_109 : decode cX5_fits 109 = .ok (.bipush 10, 2) := by decide +kernel
theorem dX5_fits_111 : decode cX5_fits 111 = .ok (.idiv, 1) := by decide +kernel
theorem dX5_fits_112 : decode cX5_fits 112 = .ok (.goto 7, 3) := by decide +kernel
theorem dX5_fits_115 : decode cX5_fits 115 = .ok (.iload_n 3, 1) := by decide +kernel
theorem dX5_fits_116 : decode cX5_fits 116 = .ok (.bipush 10, 2) := by decide +kernel
theorem dX5_fits_118 : decode cX5_fits 118 = .ok (.irem, 1) := by decide +kernel
theorem dX5_fits_119 : decode cX5_fits 119 = .ok (.ireturn, 1) := by decide +kernel
theorem dX5_copies_0 : decode cX5_copies 0 = .ok (.iconst 0, 1) := by decide +kernel
theorem dX5_copies_1 : decode cX5_copies 1 = .ok (.istore_n 3, 1) := by decide +kernel
theorem dX5_copies_2 : decode cX5_copies 2 = .ok (.iload_n 3, 1) := by decide +kernel
theorem dX5_copies_3 : decode cX5_copies 3 = .ok (.sipush 400, 3) := by decide +kernel
theorem dX5_copies_6 : decode cX5_copies 6 = .ok (.if_icmp .ge 25, 3) := by decide +kernel
theorem dX5_copies_9 : decode cX5_copies 9 = .ok (.aload_n 0, 1) := by decide +kernel
theorem dX5_copies_10 : decode cX5_copies 10 = .ok (.getfield 7, 3) := by decide +kernel
theorem dX5_copies_13 : decode cX5_copies 13 = .ok (.iload_n 1, 1) := by decide +kernel
theorem dX5_copies_14 : decode cX5_copies 14 = .ok (.iload_n 3, 1) := by decide +kernel
theorem dX5_copies_15 : decode cX5_copies 15 = .ok (.iadd, 1) := by decide +kernel
theorem dX5_copies_16 : decode cX5_copies 16 = .ok (.aload_n 0, 1) := by decide +kernel
theorem dX5_copies_17 : decode cX5_copies 17 = .ok (.getfield 7, 3) := by decide +kernel
theorem dX5_copies_20 : decode cX5_copies 20 = .ok (.iload_n 2, 1) := by decide +kernel
theorem dX5_copies_21 : decode cX5_copies 21 = .ok (.iload_n 3, 1) := by decide +kernel
theorem dX5_copies_22 : decode cX5_copies 22 = .ok (.iadd, 1) := by decide +kernel
theorem dX5_copies_23 : decode cX5_copies 23 = .ok (.iaload, 1) := by decide +kernel
theorem dX5_copies_24 : decode cX5_copies 24 = .ok (.iastore, 1) := by decide +kernel
theorem dX5_copies_25 : decode cX5_copies 25 = .ok (.iinc 3 1, 3) := by decide +kernel
theorem dX5_copies_28 : decode cX5_copies 28 = .ok (.goto (-26), 3) := by decide +kernel
theorem dX5_copies_31 : decode cX5_copies 31 = .ok (.return_, 1) := by decide +kernel
set_option maxRecDepth 20000 in
theorem ggX5_keep_X5_in : GoodIn wsX5_keep wsX5_in := goodIn_r _ [5] (by decide +kernel) (by decide +kernel)
set_option maxRecDepth 20000 in
theorem gX5_keep_X5_in : GoodIn wsX5_keep (va_wsS RX5 75 yX5_in wsX5_in) := goodIn_app (goodIn_of _ (by decide +kernel)) ggX5_keep_X5_in
set_option maxRecDepth 20000 in
theorem ggX5_keep_X5_flag : GoodIn wsX5_keep wsX5_flag := goodIn_r _ [8] (by decide +kernel) (by decide +kernel)
set_option maxRecDepth 20000 in
theorem gX5_keep_X5_flag : GoodIn wsX5_keep (va_wsS RX5 221 yX5_flag wsX5_flag) := goodIn_app (goodIn_of _ (by decide +kernel)) ggX5_keep_X5_flag
set_option maxRecDepth 20000 in
theorem ggX5_keep_X5_copies : GoodIn wsX5_keep wsX5_copies := goodIn_r _ [12, 13, 14, 15, 16, 17, 18, 19, 20, 21, 22, 23, 24, 25, 26, 27, 28, 29, 30, 31, 32, 33, 34, 35, 36, 37, 38, 39] (by decide +kernel) (by decide +kernel)
set_option maxRecDepth 20000 in
theorem gX5_keep_X5_copies : GoodIn wsX5_keep (wsV RX5 278 RX5 yX5_copies wsX5_copies) := goodIn_app (goodIn_of _ (by decide +kernel)) ggX5_keep_X5_copies
theorem dX5_keep_0 : decode cX5_keep 0 = .ok (.iload_n 1, 1) := by decide +kernel
theorem dX5_keep_1 : decode cX5_keep 1 = .ok (.i2l, 1) := by decide +kernel
theorem dX5_keep_2 : decode cX5_keep 2 = .ok (.lconst 0, 1) := by decide +kernel
theorem dX5_keep_3 : decode cX5_keep 3 = .ok (.lconst 1, 1) := by decide +kernel
theorem dX5_keep_4 : decode cX5_keep 4 = .ok (.invokestatic 75, 3) := by decide +kernel
theorem dX5_keep_7 : decode cX5_keep 7 = .ok (.ifCond .ne 5, 3) := by decide +kernel
theorem dX5_keep_10 : decode cX5_keep 10 = .ok (.iconst (-1), 1) := by decide +kernel
theorem dX5_keep_11 : decode cX5_keep 11 = .ok (.ireturn, 1) := by decide +kernel
theorem dX5_keep_12 : decode cX5_keep 12 = .ok (.aload_n 0, 1) := by decide +kernel
theorem dX5_keep_13 : decode cX5_keep 13 = .ok (.getfield 13, 3) := by decide +kernel
theorem dX5_keep_16 : decode cX5_keep 16 = .ok (.iload_n 1, 1) := by decide +kernel
theorem dX5_keep_17 : decode cX5_keep 17 = .ok (.baload, 1) := by decide +kernel
theorem dX5_keep_18 : decode cX5_keep 18 = .ok (.invokestatic 221, 3) := by decide +kernel
theorem dX5_keep_21 : decode cX5_keep 21 = .ok (.istore_n 2, 1) := by decide +kernel
theorem dX5_keep_22 : decode cX5_keep 22 = .ok (.aload_n 0, 1) := by decide +kernel
theorem dX5_keep_23 : decode cX5_keep 23 = .ok (.getfield 13, 3) := by decide +kernel
theorem dX5_keep_26 : decode cX5_keep 26 = .ok (.iload_n 1, 1) := by decide +kernel
theorem dX5_keep_27 : decode cX5_keep 27 = .ok (.iconst 1, 1) := by decide +kernel
theorem dX5_keep_28 : decode cX5_keep 28 = .ok (.bastore, 1) := by decide +kernel
theorem dX5_keep_29 : decode cX5_keep 29 = .ok (.aload_n 0, 1) := by decide +kernel
theorem dX5_keep_30 : decode cX5_keep 30 = .ok (.sipush 400, 3) := by decide +kernel
theorem dX5_keep_33 : decode cX5_keep 33 = .ok (.iload_n 1, 1) := by decide +kernel
theorem dX5_keep_34 : decode cX5_keep 34 = .ok (.iconst 1, 1) := by decide +kernel
theorem dX5_keep_35 : decode cX5_keep 35 = .ok (.iadd, 1) := by decide +kernel
theorem dX5_keep_36 : decode cX5_keep 36 = .ok (.imul, 1) := by decide +kernel
theorem dX5_keep_37 : decode cX5_keep 37 = .ok (.iconst 0, 1) := by decide +kernel
theorem dX5_keep_38 : decode cX5_keep 38 = .ok (.invokevirtual 278, 3) := by decide +kernel
theorem dX5_keep_41 : decode cX5_keep 41 = .ok (.iload_n 2, 1) := by decide +kernel
theorem dX5_keep_42 : decode cX5_keep 42 = .ok (.ireturn, 1) := by decide +kernel
set_option maxRecDepth 20000 in
theorem ggX5_back_X5_in : GoodIn wsX5_back wsX5_in := goodIn_r _ [6] (by decide +kernel) (by decide +kernel)
set_option maxRecDepth 20000 in
theorem gX5_back_X5_in : GoodIn wsX5_back (va_wsS RX5 75 yX5_in wsX5_in) := goodIn_app (goodIn_of _ (by decide +kernel)) ggX5_back_X5_in
set_option maxRecDepth 20000 in
theorem ggX5_back_X5_copies : GoodIn wsX5_back wsX5_copies := goodIn_r _ [10, 2, 11, 12, 13, 14, 15, 16, 17, 18, 19, 20, 21, 22, 23, 24, 25, 26, 27, 28, 29, 30, 31, 32, 33, 34, 35, 36] (by decide +kernel) (by decide +kernel)
set_option maxRecDepth 20000 in
theorem gX5_back_X5_copies : GoodIn wsX5_back (wsV RX5 278 RX5 yX5_copies wsX5_copies) := goodIn_app (goodIn_of _ (by decide +kernel)) ggX5_back_X5_copies
theorem dX5_back_0 : decode cX5_back 0 = .ok (.iload_n 1, 1) := by decide +kernel
theorem dX5_back_1 : decode cX5_back 1 = .ok (.i2l, 1) := by decide +kernel
theorem dX5_back_2 : decode cX5_back 2 = .ok (.lconst 0, 1) := by decide +kernel
theorem dX5_back_3 : decode cX5_back 3 = .ok (.lconst 1, 1) := by decide +kernel
theorem dX5_back_4 : decode cX5_back 4 = .ok (.invokestatic 75, 3) := by decide +kernel
theorem dX5_back_7 : decode cX5_back 7 = .ok (.ifCond .ne 5, 3) := by decide +kernel
theorem dX5_back_10 : decode cX5_back 10 = .ok (.iconst (-1), 1) := by decide +kernel
theorem dX5_back_11 : decode cX5_back 11 = .ok (.ireturn, 1) := by decide +kernel
theorem dX5_back_12 : decode cX5_back 12 = .ok (.aload_n 0, 1) := by decide +kernel
theorem dX5_back_13 : decode cX5_back 13 = .ok (.getfield 13, 3) := by decide +kernel
theorem dX5_back_16 : decode cX5_back 16 = .ok (.iload_n 1, 1) := by decide +kernel
theorem dX5_back_17 : decode cX5_back 17 = .ok (.baload, 1) := by decide +kernel
theorem dX5_back_18 : decode cX5_back 18 = .ok (.ifCond .ne 6, 3) := by decide +kernel
theorem dX5_back_21 : decode cX5_back 21 = .ok (.bipush (-2), 2) := by decide +kernel
theorem dX5_back_23 : decode cX5_back 23 = .ok (.ireturn, 1) := by decide +kernel
theorem dX5_back_24 : decode cX5_back 24 = .ok (.aload_n 0, 1) := by decide +kernel
theorem dX5_back_25 : decode cX5_back 25 = .ok (.iconst 0, 1) := by decide +kernel
theorem dX5_back_26 : decode cX5_back 26 = .ok (.sipush 400, 3) := by decide +kernel
theorem dX5_back_29 : decode cX5_back 29 = .ok (.iload_n 1, 1) := by decide +kernel
theorem dX5_back_30 : decode cX5_back 30 = .ok (.iconst 1, 1) := by decide +kernel
theorem dX5_back_31 : decode cX5_back 31 = .ok (.iadd, 1) := by decide +kernel
theorem dX5_back_32 : decode cX5_back 32 = .ok (.imul, 1) := by decide +kernel
theorem dX5_back_33 : decode cX5_back 33 = .ok (.invokevirtual 278, 3) := by decide +kernel
theorem dX5_back_36 : decode cX5_back 36 = .ok (.aload_n 0, 1) := by decide +kernel
theorem dX5_back_37 : decode cX5_back 37 = .ok (.getfield 7, 3) := by decide +kernel
theorem dX5_back_40 : decode cX5_back 40 = .ok (.iconst 0, 1) := by decide +kernel
theorem dX5_back_41 : decode cX5_back 41 = .ok (.iaload, 1) := by decide +kernel
theorem dX5_back_42 : decode cX5_back 42 = .ok (.ireturn, 1) := by decide +kernel
set_option maxRecDepth 20000 in
theorem ggX5_isSheet_X5_in : GoodIn wsX5_isSheet wsX5_in := goodIn_r _ [6] (by decide +kernel) (by decide +kernel)
set_option maxRecDepth 20000 in
theorem gX5_isSheet_X5_in : GoodIn wsX5_isSheet (va_wsS RX5 75 yX5_in wsX5_in) := goodIn_app (goodIn_of _ (by decide +kernel)) ggX5_isSheet_X5_in
theorem dX5_isSheet_0 : decode cX5_isSheet 0 = .ok (.iload_n 0, 1) := by decide +kernel
theorem dX5_isSheet_1 : decode cX5_isSheet 1 = .ok (.i2l, 1) := by decide +kernel
theorem dX5_isSheet_2 : decode cX5_isSheet 2 = .ok (.lconst 0, 1) := by decide +kernel
theorem dX5_isSheet_3 : decode cX5_isSheet 3 = .ok (.ldc2_w 282, 3) := by decide +kernel
theorem dX5_isSheet_6 : decode cX5_isSheet 6 = .ok (.invokestatic 75, 3) := by decide +kernel
theorem dX5_isSheet_9 : decode cX5_isSheet 9 = .ok (.ifCond .eq 19, 3) := by decide +kernel
theorem dX5_isSheet_12 : decode cX5_isSheet 12 = .ok (.iload_n 1, 1) := by decide +kernel
theorem dX5_isSheet_13 : decode cX5_isSheet 13 = .ok (.i2l, 1) := by decide +kernel
theorem dX5_isSheet_14 : decode cX5_isSheet 14 = .ok (.lconst 0, 1) := by decide +kernel
theorem dX5_isSheet_15 : decode cX5_isSheet 15 = .ok (.ldc2_w 168, 3) := by decide +kernel
theorem dX5_isSheet_18 : decode cX5_isSheet 18 = .ok (.invokestatic 75, 3) := by decide +kernel
theorem dX5_isSheet_21 : decode cX5_isSheet 21 = .ok (.ifCond .eq 7, 3) := by decide +kernel
theorem dX5_isSheet_24 : decode cX5_isSheet 24 = .ok (.iconst 1, 1) := by decide +kernel
theorem dX5_isSheet_25 : decode cX5_isSheet 25 = .ok (.goto 4, 3) := by decide +kernel
theorem dX5_isSheet_28 : decode cX5_isSheet 28 = .ok (.iconst 0, 1) := by decide +kernel
theorem dX5_isSheet_29 : decode cX5_isSheet 29 = .ok (.ireturn, 1) := by decide +kernel
set_option maxRecDepth 20000 in
theorem ggX5_sheet_X5_isSheet : GoodIn wsX5_sheet wsX5_isSheet := goodIn_r _ [7, 8, 9, 10, 11, 6, 12] (by decide +kernel) (by decide +kernel)
set_option maxRecDepth 20000 in
theorem gX5_sheet_X5_isSheet : GoodIn wsX5_sheet (va_wsS RX5 284 yX5_isSheet wsX5_isSheet) := goodIn_app (goodIn_of _ (by decide +kernel)) ggX5_sheet_X5_isSheet
theorem dX5_sheet_0 : decode cX5_sheet 0 = .ok (.iload_n 1, 1) := by decide +kernel
theorem dX5_sheet_1 : decode cX5_sheet 1 = .ok (.iload_n 2, 1) := by decide +kernel
theorem dX5_sheet_2 : decode cX5_sheet 2 = .ok (.invokestatic 284, 3) := by decide +kernel
theorem dX5_sheet_5 : decode cX5_sheet 5 = .ok (.ifCond .eq 9, 3) := by decide +kernel
theorem dX5_sheet_8 : decode cX5_sheet 8 = .ok (.iload_n 3, 1) := by decide +kernel
theorem dX5_sheet_9 : decode cX5_sheet 9 = .ok (.bipush 40, 2) := by decide +kernel
theorem dX5_sheet_11 : decode cX5_sheet 11 = .ok (.if_icmp .le 5, 3) := by decide +kernel
theorem dX5_sheet_14 : decode cX5_sheet 14 = .ok (.iconst (-1), 1) := by decide +kernel
theorem dX5_sheet_15 : decode cX5_sheet 15 = .ok (.ireturn, 1) := by decide +kernel
theorem dX5_sheet_16 : decode cX5_sheet 16 = .ok (.iload_n 3, 1) := by decide +kernel
theorem dX5_sheet_17 : decode cX5_sheet 17 = .ok (.ifCond .ge 6, 3) := by decide +kernel
theorem dX5_sheet_20 : decode cX5_sheet 20 = .ok (.bipush (-14), 2) := by decide +kernel
theorem dX5_sheet_22 : decode cX5_sheet 22 = .ok (.ireturn, 1) := by decide +kernel
theorem dX5_sheet_23 : decode cX5_sheet 23 = .ok (.aload_n 0, 1) := by decide +kernel
theorem dX5_sheet_24 : decode cX5_sheet 24 = .ok (.getfield 44, 3) := by decide +kernel
theorem dX5_sheet_27 : decode cX5_sheet 27 = .ok (.iload_n 1, 1) := by decide +kernel
theorem dX5_sheet_28 : decode cX5_sheet 28 = .ok (.iload_n 2, 1) := by decide +kernel
theorem dX5_sheet_29 : decode cX5_sheet 29 = .ok (.iastore, 1) := by decide +kernel
theorem dX5_sheet_30 : decode cX5_sheet 30 = .ok (.aload_n 0, 1) := by decide +kernel
theorem dX5_sheet_31 : decode cX5_sheet 31 = .ok (.getfield 47, 3) := by decide +kernel
theorem dX5_sheet_34 : decode cX5_sheet 34 = .ok (.iload_n 1, 1) := by decide +kernel
theorem dX5_sheet_35 : decode cX5_sheet 35 = .ok (.iload_n 3, 1) := by decide +kernel
theorem dX5_sheet_36 : decode cX5_sheet 36 = .ok (.iastore, 1) := by decide +kernel
theorem dX5_sheet_37 : decode cX5_sheet 37 = .ok (.iconst 0, 1) := by decide +kernel
theorem dX5_sheet_38 : decode cX5_sheet 38 = .ok (.istore 4, 2) := by decide +kernel
theorem dX5_sheet_40 : decode cX5_sheet 40 = .ok (.iload 4, 2) := by decide +kernel
theorem dX5_sheet_42 : decode cX5_sheet 42 = .ok (.bipush 40, 2) := by decide +kernel
theorem dX5_sheet_44 : decode cX5_sheet 44 = .ok (.if_icmp .ge 22, 3) := by decide +kernel
theorem dX5_sheet_47 : decode cX5_sheet 47 = .ok (.aload_n 0, 1) := by decide +kernel
theorem dX5_sheet_48 : decode cX5_sheet 48 = .ok (.getfield 50, 3) := by decide +kernel
theorem dX5_sheet_51 : decode cX5_sheet 51 = .ok (.bipush 40, 2) := by decide +kernel
theorem dX5_sheet_53 : decode cX5_sheet 53 = .ok (.iload_n 1, 1) := by decide +kernel
theorem dX5_sheet_54 : decode cX5_sheet 54 = .ok (.imul, 1) := by decide +kernel
theorem dX5_sheet_55 : decode cX5_sheet 55 = .ok (.iload 4, 2) := by decide +kernel
theorem dX5_sheet_57 : decode cX5_sheet 57 = .ok (.iadd, 1) := by decide +kernel
theorem dX5_sheet_58 : decode cX5_sheet 58 = .ok (.iconst 0, 1) := by decide +kernel
theorem dX5_sheet_59 : decode cX5_sheet 59 = .ok (.iastore, 1) := by decide +kernel
theorem dX5_sheet_60 : decode cX5_sheet 60 = .ok (.iinc 4 1, 3) := by decide +kernel
theorem dX5_sheet_63 : decode cX5_sheet 63 = .ok (.goto (-23), 3) := by decide +kernel
theorem dX5_sheet_66 : decode cX5_sheet 66 = .ok (.iconst 1, 1) := by decide +kernel
theorem dX5_sheet_67 : decode cX5_sheet 67 = .ok (.ireturn, 1) := by decide +kernel
set_option maxRecDepth 20000 in
theorem ggX5_lay_X5_isSheet : GoodIn wsX5_lay wsX5_isSheet := goodIn_r _ [7, 8, 9, 10, 11, 6, 12] (by decide +kernel) (by decide +kernel)
set_option maxRecDepth 20000 in
theorem gX5_lay_X5_isSheet : GoodIn wsX5_lay (va_wsS RX5 284 yX5_isSheet wsX5_isSheet) := goodIn_app (goodIn_of _ (by decide +kernel)) ggX5_lay_X5_isSheet
set_option maxRecDepth 20000 in
theorem ggX5_lay_X5_in : GoodIn wsX5_lay wsX5_in := goodIn_r _ [12] (by decide +kernel) (by decide +kernel)
set_option maxRecDepth 20000 in
theorem gX5_lay_X5_in : GoodIn wsX5_lay (va_wsS RX5 75 yX5_in wsX5_in) := goodIn_app (goodIn_of _ (by decide +kernel)) ggX5_lay_X5_in
theorem dX5_lay_0 : decode cX5_lay 0 = .ok (.iload_n 1, 1) := by decide +kernel
theorem dX5_lay_1 : decode cX5_lay 1 = .ok (.iconst 0, 1) := by decide +kernel
theorem dX5_lay_2 : decode cX5_lay 2 = .ok (.invokestatic 284, 3) := by decide +kernel
theorem dX5_lay_5 : decode cX5_lay 5 = .ok (.ifCond .ne 5, 3) := by decide +kernel
theorem dX5_lay_8 : decode cX5_lay 8 = .ok (.iconst (-1), 1) := by decide +kernel
theorem dX5_lay_9 : decode cX5_lay 9 = .ok (.ireturn, 1) := by decide +kernel
theorem dX5_lay_10 : decode cX5_lay 10 = .ok (.aload_n 0, 1) := by decide +kernel
theorem dX5_lay_11 : decode cX5_lay 11 = .ok (.getfield 44, 3) := by decide +kernel
theorem dX5_lay_14 : decode cX5_lay 14 = .ok (.iload_n 1, 1) := by decide +kernel
theorem dX5_lay_15 : decode cX5_lay 15 = .ok (.iaload, 1) := by decide +kernel
theorem dX5_lay_16 : decode cX5_lay 16 = .ok (.bipush (-4), 2) := by decide +kernel
theorem dX5_lay_18 : decode cX5_lay 18 = .ok (.if_icmp .ne 6, 3) := by decide +kernel
theorem dX5_lay_21 : decode cX5_lay 21 = .ok (.bipush (-11), 2) := by decide +kernel
theorem dX5_lay_23 : decode cX5_lay 23 = .ok (.ireturn, 1) := by decide +kernel
theorem dX5_lay_24 : decode cX5_lay 24 = .ok (.iload_n 2, 1) := by decide +kernel
theorem dX5_lay_25 : decode cX5_lay 25 = .ok (.i2l, 1) := by decide +kernel
theorem dX5_lay_26 : decode cX5_lay 26 = .ok (.lconst 0, 1) := by decide +kernel
theorem dX5_lay_27 : decode cX5_lay 27 = .ok (.aload_n 0, 1) := by decide +kernel
theorem dX5_lay_28 : decode cX5_lay 28 = .ok (.getfield 47, 3) := by decide +kernel
theorem dX5_lay_31 : decode cX5_lay 31 = .ok (.iload_n 1, 1) := by decide +kernel
theorem dX5_lay_32 : decode cX5_lay 32 = .ok (.iaload, 1) := by decide +kernel
theorem dX5_lay_33 : decode cX5_lay 33 = .ok (.iconst 1, 1) := by decide +kernel
theorem dX5_lay_34 : decode cX5_lay 34 = .ok (.isub, 1) := by decide +kernel
theorem dX5_lay_35 : decode cX5_lay 35 = .ok (.i2l, 1) := by decide +kernel
theorem dX5_lay_36 : decode cX5_lay 36 = .ok (.invokestatic 75, 3) := by decide +kernel
theorem dX5_lay_39 : decode cX5_lay 39 = .ok (.ifCond .ne 6, 3) := by decide +kernel
theorem dX5_lay_42 : decode cX5_lay 42 = .ok (.bipush (-12), 2) := by decide +kernel
theorem dX5_lay_44 : decode cX5_lay 44 = .ok (.ireturn, 1) := by decide +kernel
theorem dX5_lay_45 : decode cX5_lay 45 = .ok (.aload_n 0, 1) := by decide +kernel
theorem dX5_lay_46 : decode cX5_lay 46 = .ok (.getfield 50, 3) := by decide +kernel
theorem dX5_lay_49 : decode cX5_lay 49 = .ok (.bipush 40, 2) := by decide +kernel
theorem dX5_lay_51 : decode cX5_lay 51 = .ok (.iload_n 1, 1) := by decide +kernel
theorem dX5_lay_52 : decode cX5_lay 52 = .ok (.imul, 1) := by decide +kernel
theorem dX5_lay_53 : decode cX5_lay 53 = .ok (.iload_n 2, 1) := by decide +kernel
theorem dX5_lay_54 : decode cX5_lay 54 = .ok (.iadd, 1) := by decide +kernel
theorem dX5_lay_55 : decode cX5_lay 55 = .ok (.aload_n 0, 1) := by decide +kernel
theorem dX5_lay_56 : decode cX5_lay 56 = .ok (.getfield 44, 3) := by decide +kernel
theorem dX5_lay_59 : decode cX5_lay 59 = .ok (.iload_n 1, 1) := by decide +kernel
theorem dX5_lay_60 : decode cX5_lay 60 = .ok (.iaload, 1) := by decide +kernel
theorem dX5_lay_61 : decode cX5_lay 61 = .ok (.ifCond .ne 8, 3) := by decide +kernel
theorem dX5_lay_64 : decode cX5_lay 64 = .ok (.iload_n 3, 1) := by decide +kernel
theorem dX5_lay_65 : decode cX5_lay 65 = .ok (.i2b, 1) := by decide +kernel
theorem dX5_lay_66 : decode cX5_lay 66 = .ok (.goto 19, 3) := by decide +kernel
theorem dX5_lay_69 : decode cX5_lay 69 = .ok (.aload_n 0, 1) := by decide +kernel
theorem dX5_lay_70 : decode cX5_lay 70 = .ok (.getfield 44, 3) := by decide +kernel
theorem dX5_lay_73 : decode cX5_lay 73 = .ok (.iload_n 1, 1) := by decide +kernel
theorem dX5_lay_74 : decode cX5_lay 74 = .ok (.iaload, 1) := by decide +kernel
theorem dX5_lay_75 : decode cX5_lay 75 = .ok (.iconst 1, 1) := by decide +kernel
theorem dX5_lay_76 : decode cX5_lay 76 = .ok (.if_icmp .ne 8, 3) := by decide +kernel
theorem dX5_lay_79 : decode cX5_lay 79 = .ok (.iload_n 3, 1) := by decide +kernel
theorem dX5_lay_80 : decode cX5_lay 80 = .ok (.i2s, 1) := by decide +kernel
theorem dX5_lay_81 : decode cX5_lay 81 = .ok (.goto 4, 3) := by decide +kernel
theorem dX5_lay_84 : decode cX5_lay 84 = .ok (.iload_n 3, 1) := by decide +kernel
theorem dX5_lay_85 : decode cX5_lay 85 = .ok (.iastore, 1) := by decide +kernel
theorem dX5_lay_86 : decode cX5_lay 86 = .ok (.iconst 1, 1) := by decide +kernel
theorem dX5_lay_87 : decode cX5_lay 87 = .ok (.ireturn, 1) := by decide +kernel
set_option maxRecDepth 20000 in
theorem ggX5_read_X5_isSheet : GoodIn wsX5_read wsX5_isSheet := goodIn_r _ [11, 12, 13, 14, 15, 10, 16] (by decide +kernel) (by decide +kernel)
set_option maxRecDepth 20000 in
theorem gX5_read_X5_isSheet : GoodIn wsX5_read (va_wsS RX5 284 yX5_isSheet wsX5_isSheet) := goodIn_app (goodIn_of _ (by decide +kernel)) ggX5_read_X5_isSheet
set_option maxRecDepth 20000 in
theorem ggX5_read_X5_in : GoodIn wsX5_read wsX5_in := goodIn_r _ [16] (by decide +kernel) (by decide +kernel)
set_option maxRecDepth 20000 in
theorem gX5_read_X5_in : GoodIn wsX5_read (va_wsS RX5 75 yX5_in wsX5_in) := goodIn_app (goodIn_of _ (by decide +kernel)) ggX5_read_X5_in
set_option maxRecDepth 20000 in
theorem ggX5_read_X5_type : GoodIn wsX5_read wsX5_type := goodIn_r _ [20, 5, 6, 14, 15, 10, 16, 21, 22, 23, 24, 25, 26, 27, 28, 29, 30, 31, 32, 33, 34, 35, 36, 37, 38, 39, 40, 41, 42, 43, 44, 45, 46] (by decide +kernel) (by decide +kernel)
set_option maxRecDepth 20000 in
theorem gX5_read_X5_type : GoodIn wsX5_read (wsV RX5 292 RX5 yX5_type wsX5_type) := goodIn_app (goodIn_of _ (by decide +kernel)) ggX5_read_X5_type
theorem dX5_read_0 : decode cX5_read 0 = .ok (.iload_n 1, 1) := by decide +kernel
theorem dX5_read_1 : decode cX5_read 1 = .ok (.iload_n 2, 1) := by decide +kernel
theorem dX5_read_2 : decode cX5_read 2 = .ok (.invokestatic 284, 3) := by decide +kernel
theorem dX5_read_5 : decode cX5_read 5 = .ok (.ifCond .eq 16, 3) := by decide +kernel
theorem dX5_read_8 : decode cX5_read 8 = .ok (.iload 4, 2) := by decide +kernel
theorem dX5_read_10 : decode cX5_read 10 = .ok (.i2l, 1) := by decide +kernel
theorem dX5_read_11 : decode cX5_read 11 = .ok (.lconst 0, 1) := by decide +kernel
theorem dX5_read_12 : decode cX5_read 12 = .ok (.ldc2_w 287, 3) := by decide +kernel
theorem dX5_read_15 : decode cX5_read 15 = .ok (.invokestatic 75, 3) := by decide +kernel
theorem dX5_read_18 : decode cX5_read 18 = .ok (.ifCond .ne 5, 3) := by decide +kernel
theorem dX5_read_21 : decode cX5_read 21 = .ok (.iconst (-1), 1) := by decide +kernel
theorem dX5_read_22 : decode cX5_read 22 = .ok (.ireturn, 1) := by decide +kernel
theorem dX5_read_23 : decode cX5_read 23 = .ok (.iconst 0, 1) := by decide +kernel
theorem dX5_read_24 : decode cX5_read 24 = .ok (.istore 5, 2) := by decide +kernel
theorem dX5_read_26 : decode cX5_read 26 = .ok (.iconst 0, 1) := by decide +kernel
theorem dX5_read_27 : decode cX5_read 27 = .ok (.istore 6, 2) := by decide +kernel
theorem dX5_read_29 : decode cX5_read 29 = .ok (.iconst 0, 1) := by decide +kernel
theorem dX5_read_30 : decode cX5_read 30 = .ok (.istore 7, 2) := by decide +kernel
theorem dX5_read_32 : decode cX5_read 32 = .ok (.iload 7, 2) := by decide +kernel
theorem dX5_read_34 : decode cX5_read 34 = .ok (.iload 4, 2) := by decide +kernel
theorem dX5_read_36 : decode cX5_read 36 = .ok (.if_icmp .ge 136, 3) := by decide +kernel
theorem dX5_read_39 : decode cX5_read 39 = .ok (.iload 5, 2) := by decide +kernel
theorem dX5_read_41 : decode cX5_read 41 = .ok (.ifCond .ne 131, 3) := by decide +kernel
theorem dX5_read_44 : decode cX5_read 44 = .ok (.iload_n 3, 1) := by decide +kernel
theorem dX5_read_45 : decode cX5_read 45 = .ok (.i2l, 1) := by decide +kernel
theorem dX5_read_46 : decode cX5_read 46 = .ok (.iload 7, 2) := by decide +kernel
theorem dX5_read_48 : decode cX5_read 48 = .ok (.i2l, 1) := by decide +kernel
theorem dX5_read_49 : decode cX5_read 49 = .ok (.ladd, 1) := by decide +kernel
theorem dX5_read_50 : decode cX5_read 50 = .ok (.lstore 8, 2) := by decide +kernel
theorem dX5_read_52 : decode cX5_read 52 = .ok (.aload_n 0, 1) := by decide +kernel
theorem dX5_read_53 : decode cX5_read 53 = .ok (.getfield 44, 3) := by decide +kernel
theorem dX5_read_56 : decode cX5_read 56 = .ok (.iload_n 1, 1) := by decide +kernel
theorem dX5_read_57 : decode cX5_read 57 = .ok (.iaload, 1) := by decide +kernel
theorem dX5_read_58 : decode cX5_read 58 = .ok (.bipush (-4), 2) := by decide +kernel
theorem dX5_read_60 : decode cX5_read 60 = .ok (.if_icmp .ne 7, 3) := by decide +kernel
theorem dX5_read_63 : decode cX5_read 63 = .ok (.iconst 1, 1) := by decide +kernel
theorem dX5_read_64 : decode cX5_read 64 = .ok (.goto 42, 3) := by decide +kernel
theorem dX5_read_67 : decode cX5_read 67 = .ok (.aload_n 0, 1) := by decide +kernel
theorem dX5_read_68 : decode cX5_read 68 = .ok (.getfield 44, 3) := by decide +kernel
theorem dX5_read_71 : decode cX5_read 71 = .ok (.iload_n 1, 1) := by decide +kernel
theorem dX5_read_72 : decode cX5_read 72 = .ok (.iaload, 1) := by decide +kernel
theorem dX5_read_73 : decode cX5_read 73 = .ok (.iload_n 2, 1) := by decide +kernel
theorem dX5_read_74 : decode cX5_read 74 = .ok (.if_icmp .eq 7, 3) := by decide +kernel
theorem dX5_read_77 : decode cX5_read 77 = .ok (.iconst 3, 1) := by decide +kernel
theorem dX5_read_78 : decode cX5_read 78 = .ok (.goto 28, 3) := by decide +kernel
theorem dX5_read_81 : decode cX5_read 81 = .ok (.lload 8, 2) := by decide +kernel
theorem dX5_read_83 : decode cX5_read 83 = .ok (.lconst 0, 1) := by decide +kernel
theorem dX5_read_84 : decode cX5_read 84 = .ok (.lcmp, 1) := by decide +kernel
theorem dX5_read_85 : decode cX5_read 85 = .ok (.ifCond .lt 16, 3) := by decide +kernel
theorem dX5_read_88 : decode cX5_read 88 = .ok (.lload 8, 2) := by decide +kernel
theorem dX5_read_90 : decode cX5_read 90 = .ok (.aload_n 0, 1) := by decide +kernel
theorem dX5_read_91 : decode cX5_read 91 = .ok (.getfield 47, 3) := by decide +kernel
theorem dX5_read_94 : decode cX5_read 94 = .ok (.iload_n 1, 1) := by decide +kernel
theorem dX5_read_95 : decode cX5_read 95 = .ok (.iaload, 1) := by decide +kernel
theorem dX5_read_96 : decode cX5_read 96 = .ok (.i2l, 1) := by decide +kernel
theorem dX5_read_97 : decode cX5_read 97 = .ok (.lcmp, 1) := by decide +kernel
theorem dX5_read_98 : decode cX5_read 98 = .ok (.ifCond .lt 7, 3) := by decide +kernel
theorem dX5_read_101 : decode cX5_read 101 = .ok (.iconst 2, 1) := by decide +kernel
theorem dX5_read_102 : decode cX5_read 102 = .ok (.goto 4, 3) := by decide +kernel
theorem dX5_read_105 : decode cX5_read 105 = .ok (.iconst 0, 1) := by decide +kernel
theorem dX5_read_106 : decode cX5_read 106 = .ok (.istore 5, 2) := by decide +kernel
theorem dX5_read_108 : decode cX5_read 108 = .ok (.iload 5, 2) := by decide +kernel
theorem dX5_read_110 : decode cX5_read 110 = .ok (.ifCond .ne 56, 3) := by decide +kernel
theorem dX5_read_113 : decode cX5_read 113 = .ok (.aload_n 0, 1) := by decide +kernel
theorem dX5_read_114 : decode cX5_read 114 = .ok (.getfield 50, 3) := by decide +kernel
theorem dX5_read_117 : decode cX5_read 117 = .ok (.bipush 40, 2) := by decide +kernel
theorem dX5_read_119 : decode cX5_read 119 = .ok (.iload_n 1, 1) := by decide +kernel
theorem dX5_read_120 : decode cX5_read 120 = .ok (.imul, 1) := by decide +kernel
theorem dX5_read_121 : decode cX5_read 121 = .ok (.iload_n 3, 1) := by decide +kernel
theorem dX5_read_122 : decode cX5_read 122 = .ok (.iadd, 1) := by decide +kernel
theorem dX5_read_123 : decode cX5_read 123 = .ok (.iload 7, 2) := by decide +kernel
theorem dX5_read_125 : decode cX5_read 125 = .ok (.iadd, 1) := by decide +kernel
theorem dX5_read_126 : decode cX5_read 126 = .ok (.iaload, 1) := by decide +kernel
theorem dX5_read_127 : decode cX5_read 127 = .ok (.i2l, 1) := by decide +kernel
theorem dX5_read_128 : decode cX5_read 128 = .ok (.lconst 0, 1) := by decide +kernel
theorem dX5_read_129 : decode cX5_read 129 = .ok (.ldc2_w 73, 3) := by decide +kernel
theorem dX5_read_132 : decode cX5_read 132 = .ok (.invokestatic 75, 3) := by decide +kernel
theorem dX5_read_135 : decode cX5_read 135 = .ok (.ifCond .ne 9, 3) := by decide +kernel
theorem dX5_read_138 : decode cX5_read 138 = .ok (.bipush (-20), 2) := by decide +kernel
theorem dX5_read_140 : decode cX5_read 140 = .ok (.iload 7, 2) := by decide +kernel
theorem dX5_read_142 : decode cX5_read 142 = .ok (.isub, 1) := by decide +kernel
theorem dX5_read_143 : decode cX5_read 143 = .ok (.ireturn, 1) := by decide +kernel
theorem dX5_read_144 : decode cX5_read 144 = .ok (.aload_n 0, 1) := by decide +kernel
theorem dX5_read_145 : decode cX5_read 145 = .ok (.getfield 7, 3) := by decide +kernel
theorem dX5_read_148 : decode cX5_read 148 = .ok (.sipush 327, 3) := by decide +kernel
theorem dX5_read_151 : decode cX5_read 151 = .ok (.iaload, 1) := by decide +kernel
theorem dX5_read_152 : decode cX5_read 152 = .ok (.iload 6, 2) := by decide +kernel
theorem dX5_read_154 : decode cX5_read 154 = .ok (.iadd, 1) := by decide +kernel
theorem dX5_read_155 : decode cX5_read 155 = .ok (.bipush 12, 2) := by decide +kernel
theorem dX5_read_157 : decode cX5_read 157 = .ok (.if_icmp .ne 6, 3) := by decide +kernel
theorem dX5_read_160 : decode cX5_read 160 = .ok (.bipush (-3), 2) := by decide +kernel
theorem dX5_read_162 : decode cX5_read 162 = .ok (.ireturn, 1) := by decide +kernel
theorem dX5_read_163 : decode cX5_read 163 = .ok (.iinc 6 1, 3) := by decide +kernel
theorem dX5_read_166 : decode cX5_read 166 = .ok (.iinc 7 1, 3) := by decide +kernel
theorem dX5_read_169 : decode cX5_read 169 = .ok (.goto (-137), 3) := by decide +kernel
theorem dX5_read_172 : decode cX5_read 172 = .ok (.aload_n 0, 1) := by decide +kernel
theorem dX5_read_173 : decode cX5_read 173 = .ok (.iload 5, 2) := by decide +kernel
theorem dX5_read_175 : decode cX5_read 175 = .ok (.putfield 289, 3) := by decide +kernel
theorem dX5_read_178 : decode cX5_read 178 = .ok (.iconst 0, 1) := by decide +kernel
theorem dX5_read_179 : decode cX5_read 179 = .ok (.istore 7, 2) := by decide +kernel
theorem dX5_read_181 : decode cX5_read 181 = .ok (.iload 7, 2) := by decide +kernel
theorem dX5_read_183 : decode cX5_read 183 = .ok (.iload 6, 2) := by decide +kernel
theorem dX5_read_185 : decode cX5_read 185 = .ok (.if_icmp .ge 28, 3) := by decide +kernel
theorem dX5_read_188 : decode cX5_read 188 = .ok (.aload_n 0, 1) := by decide +kernel
theorem dX5_read_189 : decode cX5_read 189 = .ok (.aload_n 0, 1) := by decide +kernel
theorem dX5_read_190 : decode cX5_read 190 = .ok (.getfield 50, 3) := by decide +kernel
theorem dX5_read_193 : decode cX5_read 193 = .ok (.bipush 40, 2) := by decide +kernel
theorem dX5_read_195 : decode cX5_read 195 = .ok (.iload_n 1, 1) := by decide +kernel
theorem dX5_read_196 : decode cX5_read 196 = .ok (.imul, 1) := by decide +kernel
theorem dX5_read_197 : decode cX5_read 197 = .ok (.iload_n 3, 1) := by decide +kernel
theorem dX5_read_198 : decode cX5_read 198 = .ok (.iadd, 1) := by decide +kernel
theorem dX5_read_199 : decode cX5_read 199 = .ok (.iload 7, 2) := by decide +kernel
theorem dX5_read_201 : decode cX5_read 201 = .ok (.iadd, 1) := by decide +kernel
theorem dX5_read_202 : decode cX5_read 202 = .ok (.iaload, 1) := by decide +kernel
theorem dX5_read_203 : decode cX5_read 203 = .ok (.invokevirtual 292, 3) := by decide +kernel
theorem dX5_read_206 : decode cX5_read 206 = .ok (.pop, 1) := by decide +kernel
theorem dX5_read_207 : decode cX5_read 207 = .ok (.iinc 7 1, 3) := by decide +kernel
theorem dX5_read_210 : decode cX5_read 210 = .ok (.goto (-29), 3) := by decide +kernel
theorem dX5_read_213 : decode cX5_read 213 = .ok (.iload 6, 2) := by decide +kernel
theorem dX5_read_215 : decode cX5_read 215 = .ok (.ireturn, 1) := by decide +kernel
theorem dX5_torn_0 : decode cX5_torn 0 = .ok (.aload_n 0, 1) := by decide +kernel
theorem dX5_torn_1 : decode cX5_torn 1 = .ok (.getfield 289, 3) := by decide +kernel
theorem dX5_torn_4 : decode cX5_torn 4 = .ok (.ireturn, 1) := by decide +kernel
set_option maxRecDepth 20000 in
theorem ggX5_count_X5_flag : GoodIn wsX5_count wsX5_flag := goodIn_r _ [9] (by decide +kernel) (by decide +kernel)
set_option maxRecDepth 20000 in
theorem gX5_count_X5_flag : GoodIn wsX5_count (va_wsS RX5 221 yX5_flag wsX5_flag) := goodIn_app (goodIn_of _ (by decide +kernel)) ggX5_count_X5_flag
theorem dX5_count_0 : decode cX5_count 0 = .ok (.iconst 0, 1) := by decide +kernel
theorem dX5_count_1 : decode cX5_count 1 = .ok (.istore_n 2, 1) := by decide +kernel
theorem dX5_count_2 : decode cX5_count 2 = .ok (.iconst 0, 1) := by decide +kernel
theorem dX5_count_3 : decode cX5_count 3 = .ok (.istore_n 3, 1) := by decide +kernel
theorem dX5_count_4 : decode cX5_count 4 = .ok (.iconst 0, 1) := by decide +kernel
theorem dX5_count_5 : decode cX5_count 5 = .ok (.istore 4, 2) := by decide +kernel
theorem dX5_count_7 : decode cX5_count 7 = .ok (.iload 4, 2) := by decide +kernel
theorem dX5_count_9 : decode cX5_count 9 = .ok (.aload_n 0, 1) := by decide +kernel
theorem dX5_count_10 : decode cX5_count 10 = .ok (.getfield 7, 3) := by decide +kernel
theorem dX5_count_13 : decode cX5_count 13 = .ok (.iconst 0, 1) := by decide +kernel
theorem dX5_count_14 : decode cX5_count 14 = .ok (.iaload, 1) := by decide +kernel
theorem dX5_count_15 : decode cX5_count 15 = .ok (.if_icmp .ge 46, 3) := by decide +kernel
theorem dX5_count_18 : decode cX5_count 18 = .ok (.iload_n 2, 1) := by decide +kernel
theorem dX5_count_19 : decode cX5_count 19 = .ok (.aload_n 0, 1) := by decide +kernel
theorem dX5_count_20 : decode cX5_count 20 = .ok (.getfield 7, 3) := by decide +kernel
theorem dX5_count_23 : decode cX5_count 23 = .ok (.bipush 13, 2) := by decide +kernel
theorem dX5_count_25 : decode cX5_count 25 = .ok (.iload 4, 2) := by decide +kernel
theorem dX5_count_27 : decode cX5_count 27 = .ok (.iadd, 1) := by decide +kernel
theorem dX5_count_28 : decode cX5_count 28 = .ok (.iaload, 1) := by decide +kernel
theorem dX5_count_29 : decode cX5_count 29 = .ok (.ifCond .ne 7, 3) := by decide +kernel
theorem dX5_count_32 : decode cX5_count 32 = .ok (.iconst 1, 1) := by decide +kernel
theorem dX5_count_33 : decode cX5_count 33 = .ok (.goto 4, 3) := by decide +kernel
theorem dX5_count_36 : decode cX5_count 36 = .ok (.iconst 0, 1) := by decide +kernel
theorem dX5_count_37 : decode cX5_count 37 = .ok (.invokestatic 221, 3) := by decide +kernel
theorem dX5_count_40 : decode cX5_count 40 = .ok (.iadd, 1) := by decide +kernel
theorem dX5_count_41 : decode cX5_count 41 = .ok (.istore_n 2, 1) := by decide +kernel
theorem dX5_count_42 : decode cX5_count 42 = .ok (.iload_n 3, 1) := by decide +kernel
theorem dX5_count_43 : decode cX5_count 43 = .ok (.aload_n 0, 1) := by decide +kernel
theorem dX5_count_44 : decode cX5_count 44 = .ok (.getfield 7, 3) := by decide +kernel
theorem dX5_count_47 : decode cX5_count 47 = .ok (.bipush 13, 2) := by decide +kernel
theorem dX5_count_49 : decode cX5_count 49 = .ok (.iload 4, 2) := by decide +kernel
theorem dX5_count_51 : decode cX5_count 51 = .ok (.iadd, 1) := by decide +kernel
theorem dX5_count_52 : decode cX5_count 52 = .ok (.iaload, 1) := by decide +kernel
theorem dX5_count_53 : decode cX5_count 53 = .ok (.iadd, 1) := by decide +kernel
theorem dX5_count_54 : decode cX5_count 54 = .ok (.istore_n 3, 1) := by decide +kernel
theorem dX5_count_55 : decode cX5_count 55 = .ok (.iinc 4 1, 3) := by decide +kernel
theorem dX5_count_58 : decode cX5_count 58 = .ok (.goto (-51), 3) := by decide +kernel
theorem dX5_count_61 : decode cX5_count 61 = .ok (.iload_n 1, 1) := by decide +kernel
theorem dX5_count_62 : decode cX5_count 62 = .ok (.tableswitch 110 0 6 #[42, 49, 51, 53, 62, 82, 87], 42) := by decide +kernel
theorem dX5_count_104 : decode cX5_count 104 = .ok (.aload_n 0, 1) := by decide +kernel
theorem dX5_count_105 : decode cX5_count 105 = .ok (.getfield 7, 3) := by decide +kernel
theorem dX5_count_108 : decode cX5_count 108 = .ok (.iconst 0, 1) := by decide +kernel
theorem dX5_count_109 : decode cX5_count 109 = .ok (.iaload, 1) := by decide +kernel
theorem dX5_count_110 : decode cX5_count 110 = .ok (.ireturn, 1) := by decide +kernel
theorem dX5_count_111 : decode cX5_count 111 = .ok (.iload_n 2, 1) := by decide +kernel
theorem dX5_count_112 : decode cX5_count 112 = .ok (.ireturn, 1) := by decide +kernel
theorem dX5_count_113 : decode cX5_count 113 = .ok (.iload_n 3, 1) := by decide +kernel
theorem dX5_count_114 : decode cX5_count 114 = .ok (.ireturn, 1) := by decide +kernel
theorem dX5_count_115 : decode cX5_count 115 = .ok (.aload_n 0, 1) := by decide +kernel
theorem dX5_count_116 : decode cX5_count 116 = .ok (.getfield 7, 3) := by decide +kernel
theorem dX5_count_119 : decode cX5_count 119 = .ok (.sipush 341, 3) := by decide +kernel
theorem dX5_count_122 : decode cX5_count 122 = .ok (.iaload, 1) := by decide +kernel
theorem dX5_count_123 : decode cX5_count 123 = .ok (.ireturn, 1) := by decide +kernel
theorem dX5_count_124 : decode cX5_count 124 = .ok (.aload_n 0, 1) := by decide +kernel
theorem dX5_count_125 : decode cX5_count 125 = .ok (.getfield 13, 3) := by decide +kernel
theorem dX5_count_128 : decode cX5_count 128 = .ok (.iconst 0, 1) := by decide +kernel
theorem dX5_count_129 : decode cX5_count 129 = .ok (.baload, 1) := by decide +kernel
theorem dX5_count_130 : decode cX5_count 130 = .ok (.invokestatic 221, 3) := by decide +kernel
theorem dX5_count_133 : decode cX5_count 133 = .ok (.aload_n 0, 1) := by decide +kernel
theorem dX5_count_134 : decode cX5_count 134 = .ok (.getfield 13, 3) := by decide +kernel
theorem dX5_count_137 : decode cX5_count 137 = .ok (.iconst 1, 1) := by decide +kernel
theorem dX5_count_138 : decode cX5_count 138 = .ok (.baload, 1) := by decide +kernel
theorem dX5_count_139 : decode cX5_count 139 = .ok (.invokestatic 221, 3) := by decide +kernel
theorem dX5_count_142 : decode cX5_count 142 = .ok (.iadd, 1) := by decide +kernel
theorem dX5_count_143 : decode cX5_count 143 = .ok (.ireturn, 1) := by decide +kernel
theorem dX5_count_144 : decode cX5_count 144 = .ok (.aload_n 0, 1) := by decide +kernel
theorem dX5_count_145 : decode cX5_count 145 = .ok (.getfield 70, 3) := by decide +kernel
theorem dX5_count_148 : decode cX5_count 148 = .ok (.ireturn, 1) := by decide +kernel
theorem dX5_count_149 : decode cX5_count 149 = .ok (.aload_n 0, 1) := by decide +kernel
theorem dX5_count_150 : decode cX5_count 150 = .ok (.getfield 44, 3) := by decide +kernel
theorem dX5_count_153 : decode cX5_count 153 = .ok (.iconst 0, 1) := by decide +kernel
theorem dX5_count_154 : decode cX5_count 154 = .ok (.iaload, 1) := by decide +kernel
theorem dX5_count_155 : decode cX5_count 155 = .ok (.bipush (-4), 2) := by decide +kernel
theorem dX5_count_157 : decode cX5_count 157 = .ok (.if_icmp .ne 8, 3) := by decide +kernel
theorem dX5_count_160 : decode cX5_count 160 = .ok (.bipush (-4), 2) := by decide +kernel
theorem dX5_count_162 : decode cX5_count 162 = .ok (.goto 9, 3) := by decide +kernel
theorem dX5_count_165 : decode cX5_count 165 = .ok (.aload_n 0, 1) := by decide +kernel
theorem dX5_count_166 : decode cX5_count 166 = .ok (.getfield 47, 3) := by decide +kernel
theorem dX5_count_169 : decode cX5_count 169 = .ok (.iconst 0, 1) := by decide +kernel
theorem dX5_count_170 : decode cX5_count 170 = .ok (.iaload, 1) := by decide +kernel
theorem dX5_count_171 : decode cX5_count 171 = .ok (.ireturn, 1) := by decide +kernel
theorem dX5_count_172 : decode cX5_count 172 = .ok (.iconst (-1), 1) := by decide +kernel
theorem dX5_count_173 : decode cX5_count 173 = .ok (.ireturn, 1) := by decide +kernel
