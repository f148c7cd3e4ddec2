theorem dX0_init_0 : decode cX0_init 0 = .ok (.aload_n 0, 1) := by decide +kernel
theorem dX0_init_1 : decode cX0_init 1 = .ok (.invokespecial 3, 3) := by decide +kernel
theorem dX0_init_4 : decode cX0_init 4 = .ok (.aload_n 0, 1) := by decide +kernel
theorem dX0_init_5 : decode cX0_init 5 = .ok (.bipush 72, 2) := by decide +kernel
theorem dX0_init_7 : decode cX0_init 7 = .ok (.newarray .int, 2) := by decide +kernel
theorem dX0_init_9 : decode cX0_init 9 = .ok (.putfield 9, 3) := by decide +kernel
theorem dX0_init_12 : decode cX0_init 12 = .ok (.aload_n 0, 1) := by decide +kernel
theorem dX0_init_13 : decode cX0_init 13 = .ok (.sipush 2048, 3) := by decide +kernel
theorem dX0_init_16 : decode cX0_init 16 = .ok (.newarray .int, 2) := by decide +kernel
theorem dX0_init_18 : decode cX0_init 18 = .ok (.putfield 15, 3) := by decide +kernel
theorem dX0_init_21 : decode cX0_init 21 = .ok (.aload_n 0, 1) := by decide +kernel
theorem dX0_init_22 : decode cX0_init 22 = .ok (.bipush 8, 2) := by decide +kernel
theorem dX0_init_24 : decode cX0_init 24 = .ok (.newarray .int, 2) := by decide +kernel
theorem dX0_init_26 : decode cX0_init 26 = .ok (.putfield 18, 3) := by decide +kernel
theorem dX0_init_29 : decode cX0_init 29 = .ok (.aload_n 0, 1) := by decide +kernel
theorem dX0_init_30 : decode cX0_init 30 = .ok (.bipush 8, 2) := by decide +kernel
theorem dX0_init_32 : decode cX0_init 32 = .ok (.newarray .int, 2) := by decide +kernel
theorem dX0_init_34 : decode cX0_init 34 = .ok (.putfield 21, 3) := by decide +kernel
theorem dX0_init_37 : decode cX0_init 37 = .ok (.return_, 1) := by decide +kernel
set_option maxRecDepth 20000 in
theorem ggX0_plan_X0_choose : GoodIn wsX0_plan wsX0_choose := goodIn_r _ [7, 1, 8, 9, 10, 11, 108, 109, 110, 111, 112, 113] (by decide +kernel) (by decide +kernel)
set_option maxRecDepth 20000 in
theorem gX0_plan_X0_choose : GoodIn wsX0_plan (wsV RX0 24 RX0 yX0_choose wsX0_choose) := goodIn_app (goodIn_of _ (by decide +kernel)) ggX0_plan_X0_choose
set_option maxRecDepth 20000 in
theorem ggX0_plan_X0_measureHops : GoodIn wsX0_plan wsX0_measureHops := goodIn_r _ [15, 1, 16, 8, 17, 18, 10, 19, 20, 21, 22, 23, 24, 25, 26, 27, 28, 29, 30, 31, 32, 33, 34, 35, 36, 37, 38, 39, 40, 41, 42, 43, 44, 45, 46, 47, 48, 49, 50, 51, 52, 53, 54, 55, 56, 57, 58, 59, 60, 61, 62, 63, 64, 65, 66, 67, 68, 69, 70, 71, 72, 73, 74, 75, 76, 77, 78, 79, 80, 81, 82, 83, 84, 85, 86, 87, 9, 11, 108, 109, 110, 111, 112, 113, 114, 115, 116, 117, 118, 119, 120, 121, 122, 123, 124, 125, 126, 127] (by decide +kernel) (by decide +kernel)
set_option maxRecDepth 20000 in
theorem gX0_plan_X0_measureHops : GoodIn wsX0_plan (wsV RX0 28 RX0 yX0_measureHops wsX0_measureHops) := goodIn_app (goodIn_of _ (by decide +kernel)) ggX0_plan_X0_measureHops
set_option maxRecDepth 20000 in
theorem ggX0_plan_X0_fewestFrom : GoodIn wsX0_plan wsX0_fewestFrom := goodIn_r _ [91, 92, 1, 93, 59, 60, 61, 94, 95, 96, 6, 97, 17, 2, 18, 10, 19, 108, 109, 110, 111, 112, 113] (by decide +kernel) (by decide +kernel)
set_option maxRecDepth 20000 in
theorem gX0_plan_X0_fewestFrom : GoodIn wsX0_plan (wsV RX0 36 RX0 yX0_fewestFrom wsX0_fewestFrom) := goodIn_app (goodIn_of _ (by decide +kernel)) ggX0_plan_X0_fewestFrom
set_option maxRecDepth 20000 in
theorem ggX0_plan_X4_setCell : GoodIn wsX0_plan wsX4_setCell := goodIn_r _ [11] (by decide +kernel) (by decide +kernel)
set_option maxRecDepth 20000 in
theorem gX0_plan_X4_setCell_n40 : GoodIn wsX0_plan (wsX4_setCell) := ggX0_plan_X4_setCell
set_option maxRecDepth 20000 in
theorem ggX0_plan_X0_followFirst : GoodIn wsX0_plan wsX0_followFirst := goodIn_r _ [101, 1, 102, 103, 8, 88, 89, 90, 6, 91, 92, 93, 59, 60, 61, 94, 95, 96, 97, 17, 2, 18, 10, 19, 104, 105, 106, 107, 9, 11, 108, 109, 110, 111, 112, 113] (by decide +kernel) (by decide +kernel)
set_option maxRecDepth 20000 in
theorem gX0_plan_X0_followFirst : GoodIn wsX0_plan (wsV RX0 44 RX0 yX0_followFirst wsX0_followFirst) := goodIn_app (goodIn_of _ (by decide +kernel)) ggX0_plan_X0_followFirst
theorem dX0_plan_0 : decode cX0_plan 0 = .ok (.aload_n 1, 1) := by decide +kernel
theorem dX0_plan_1 : decode cX0_plan 1 = .ok (.ifnonnull 4, 3) := by decide +kernel
theorem dX0_plan_4 : decode cX0_plan 4 = .ok (.return_, 1) := by decide +kernel
theorem dX0_plan_5 : decode cX0_plan 5 = .ok (.aload_n 0, 1) := by decide +kernel
theorem dX0_plan_6 : decode cX0_plan 6 = .ok (.iload_n 2, 1) := by decide +kernel
theorem dX0_plan_7 : decode cX0_plan 7 = .ok (.invokevirtual 24, 3) := by decide +kernel
theorem dX0_plan_10 : decode cX0_plan 10 = .ok (.aload_n 0, 1) := by decide +kernel
theorem dX0_plan_11 : decode cX0_plan 11 = .ok (.aload_n 1, 1) := by decide +kernel
theorem dX0_plan_12 : decode cX0_plan 12 = .ok (.invokevirtual 28, 3) := by decide +kernel
theorem dX0_plan_15 : decode cX0_plan 15 = .ok (.iconst 0, 1) := by decide +kernel
theorem dX0_plan_16 : decode cX0_plan 16 = .ok (.istore_n 3, 1) := by decide +kernel
theorem dX0_plan_17 : decode cX0_plan 17 = .ok (.iload_n 3, 1) := by decide +kernel
theorem dX0_plan_18 : decode cX0_plan 18 = .ok (.iconst 1, 1) := by decide +kernel
theorem dX0_plan_19 : decode cX0_plan 19 = .ok (.aload_n 0, 1) := by decide +kernel
theorem dX0_plan_20 : decode cX0_plan 20 = .ok (.getfield 32, 3) := by decide +kernel
theorem dX0_plan_23 : decode cX0_plan 23 = .ok (.ishl, 1) := by decide +kernel
theorem dX0_plan_24 : decode cX0_plan 24 = .ok (.if_icmp .ge 56, 3) := by decide +kernel
theorem dX0_plan_27 : decode cX0_plan 27 = .ok (.iconst 0, 1) := by decide +kernel
theorem dX0_plan_28 : decode cX0_plan 28 = .ok (.istore 4, 2) := by decide +kernel
theorem dX0_plan_30 : decode cX0_plan 30 = .ok (.iload 4, 2) := by decide +kernel
theorem dX0_plan_32 : decode cX0_plan 32 = .ok (.aload_n 0, 1) := by decide +kernel
theorem dX0_plan_33 : decode cX0_plan 33 = .ok (.getfield 32, 3) := by decide +kernel
theorem dX0_plan_36 : decode cX0_plan 36 = .ok (.if_icmp .ge 38, 3) := by decide +kernel
theorem dX0_plan_39 : decode cX0_plan 39 = .ok (.aload_n 0, 1) := by decide +kernel
theorem dX0_plan_40 : decode cX0_plan 40 = .ok (.getfield 15, 3) := by decide +kernel
theorem dX0_plan_43 : decode cX0_plan 43 = .ok (.iload_n 3, 1) := by decide +kernel
theorem dX0_plan_44 : decode cX0_plan 44 = .ok (.bipush 8, 2) := by decide +kernel
theorem dX0_plan_46 : decode cX0_plan 46 = .ok (.imul, 1) := by decide +kernel
theorem dX0_plan_47 : decode cX0_plan 47 = .ok (.iload 4, 2) := by decide +kernel
theorem dX0_plan_49 : decode cX0_plan 49 = .ok (.iadd, 1) := by decide +kernel
theorem dX0_plan_50 : decode cX0_plan 50 = .ok (.iload_n 3, 1) := by decide +kernel
theorem dX0_plan_51 : decode cX0_plan 51 = .ok (.ifCond .ne 7, 3) := by decide +kernel
theorem dX0_plan_54 : decode cX0_plan 54 = .ok (.iconst 0, 1) := by decide +kernel
theorem dX0_plan_55 : decode cX0_plan 55 = .ok (.goto 10, 3) := by decide +kernel
theorem dX0_plan_58 : decode cX0_plan 58 = .ok (.aload_n 0, 1) := by decide +kernel
theorem dX0_plan_59 : decode cX0_plan 59 = .ok (.iload 4, 2) := by decide +kernel
theorem dX0_plan_61 : decode cX0_plan 61 = .ok (.iload_n 3, 1) := by decide +kernel
theorem dX0_plan_62 : decode cX0_plan 62 = .ok (.invokevirtual 36, 3) := by decide +kernel
theorem dX0_plan_65 : decode cX0_plan 65 = .ok (.invokestatic 40, 3) := by decide +kernel
theorem dX0_plan_68 : decode cX0_plan 68 = .ok (.iinc 4 1, 3) := by decide +kernel
theorem dX0_plan_71 : decode cX0_plan 71 = .ok (.goto (-41), 3) := by decide +kernel
theorem dX0_plan_74 : decode cX0_plan 74 = .ok (.iinc 3 1, 3) := by decide +kernel
theorem dX0_plan_77 : decode cX0_plan 77 = .ok (.goto (-60), 3) := by decide +kernel
theorem dX0_plan_80 : decode cX0_plan 80 = .ok (.aload_n 0, 1) := by decide +kernel
theorem dX0_plan_81 : decode cX0_plan 81 = .ok (.invokevirtual 44, 3) := by decide +kernel
theorem dX0_plan_84 : decode cX0_plan 84 = .ok (.return_, 1) := by decide +kernel
set_option maxRecDepth 20000 in
theorem ggX0_stopAt_X4_cell : GoodIn wsX0_stopAt wsX4_cell := goodIn_r _ [4] (by decide +kernel) (by decide +kernel)
set_option maxRecDepth 20000 in
theorem gX0_stopAt_X4_cell_n47 : GoodIn wsX0_stopAt (wsX4_cell) := ggX0_stopAt_X4_cell
theorem dX0_stopAt_0 : decode cX0_stopAt 0 = .ok (.aload_n 0, 1) := by decide +kernel
theorem dX0_stopAt_1 : decode cX0_stopAt 1 = .ok (.getfield 21, 3) := by decide +kernel
theorem dX0_stopAt_4 : decode cX0_stopAt 4 = .ok (.iload_n 1, 1) := by decide +kernel
theorem dX0_stopAt_5 : decode cX0_stopAt 5 = .ok (.invokestatic 47, 3) := by decide +kernel
theorem dX0_stopAt_8 : decode cX0_stopAt 8 = .ok (.ireturn, 1) := by decide +kernel
set_option maxRecDepth 20000 in
theorem ggX0_choose_X4_setCell : GoodIn wsX0_choose wsX4_setCell := goodIn_r _ [5] (by decide +kernel) (by decide +kernel)
set_option maxRecDepth 20000 in
theorem gX0_choose_X4_setCell_n40 : GoodIn wsX0_choose (wsX4_setCell) := ggX0_choose_X4_setCell
theorem dX0_choose_0 : decode cX0_choose 0 = .ok (.aload_n 0, 1) := by decide +kernel
theorem dX0_choose_1 : decode cX0_choose 1 = .ok (.iconst 0, 1) := by decide +kernel
theorem dX0_choose_2 : decode cX0_choose 2 = .ok (.putfield 32, 3) := by decide +kernel
theorem dX0_choose_5 : decode cX0_choose 5 = .ok (.iconst 0, 1) := by decide +kernel
theorem dX0_choose_6 : decode cX0_choose 6 = .ok (.istore_n 2, 1) := by decide +kernel
theorem dX0_choose_7 : decode cX0_choose 7 = .ok (.iload_n 2, 1) := by decide +kernel
theorem dX0_choose_8 : decode cX0_choose 8 = .ok (.bipush 12, 2) := by decide +kernel
theorem dX0_choose_10 : decode cX0_choose 10 = .ok (.if_icmp .ge 49, 3) := by decide +kernel
theorem dX0_choose_13 : decode cX0_choose 13 = .ok (.iload_n 1, 1) := by decide +kernel
theorem dX0_choose_14 : decode cX0_choose 14 = .ok (.iload_n 2, 1) := by decide +kernel
theorem dX0_choose_15 : decode cX0_choose 15 = .ok (.ishr, 1) := by decide +kernel
theorem dX0_choose_16 : decode cX0_choose 16 = .ok (.iconst 1, 1) := by decide +kernel
theorem dX0_choose_17 : decode cX0_choose 17 = .ok (.iand, 1) := by decide +kernel
theorem dX0_choose_18 : decode cX0_choose 18 = .ok (.iconst 1, 1) := by decide +kernel
theorem dX0_choose_19 : decode cX0_choose 19 = .ok (.if_icmp .ne 34, 3) := by decide +kernel
theorem dX0_choose_22 : decode cX0_choose 22 = .ok (.aload_n 0, 1) := by decide +kernel
theorem dX0_choose_23 : decode cX0_choose 23 = .ok (.getfield 32, 3) := by decide +kernel
theorem dX0_choose_26 : decode cX0_choose 26 = .ok (.bipush 8, 2) := by decide +kernel
theorem dX0_choose_28 : decode cX0_choose 28 = .ok (.if_icmp .ge 25, 3) := by decide +kernel
theorem dX0_choose_31 : decode cX0_choose 31 = .ok (.aload_n 0, 1) := by decide +kernel
theorem dX0_choose_32 : decode cX0_choose 32 = .ok (.getfield 18, 3) := by decide +kernel
theorem dX0_choose_35 : decode cX0_choose 35 = .ok (.aload_n 0, 1) := by decide +kernel
theorem dX0_choose_36 : decode cX0_choose 36 = .ok (.getfield 32, 3) := by decide +kernel
theorem dX0_choose_39 : decode cX0_choose 39 = .ok (.iload_n 2, 1) := by decide +kernel
theorem dX0_choose_40 : decode cX0_choose 40 = .ok (.invokestatic 40, 3) := by decide +kernel
theorem dX0_choose_43 : decode cX0_choose 43 = .ok (.aload_n 0, 1) := by decide +kernel
theorem dX0_choose_44 : decode cX0_choose 44 = .ok (.dup, 1) := by decide +kernel
theorem dX0_choose_45 : decode cX0_choose 45 = .ok (.getfield 32, 3) := by decide +kernel
theorem dX0_choose_48 : decode cX0_choose 48 = .ok (.iconst 1, 1) := by decide +kernel
theorem dX0_choose_49 : decode cX0_choose 49 = .ok (.iadd, 1) := by decide +kernel
theorem dX0_choose_50 : decode cX0_choose 50 = .ok (.putfield 32, 3) := by decide +kernel
theorem dX0_choose_53 : decode cX0_choose 53 = .ok (.iinc 2 1, 3) := by decide +kernel
theorem dX0_choose_56 : decode cX0_choose 56 = .ok (.goto (-49), 3) := by decide +kernel
theorem dX0_choose_59 : decode cX0_choose 59 = .ok (.return_, 1) := by decide +kernel
set_option maxRecDepth 20000 in
theorem ggX0_measureHops_X4_cell : GoodIn wsX0_measureHops wsX4_cell := goodIn_r _ [7] (by decide +kernel) (by decide +kernel)
set_option maxRecDepth 20000 in
theorem gX0_measureHops_X4_cell_n47 : GoodIn wsX0_measureHops (wsX4_cell) := ggX0_measureHops_X4_cell
set_option maxRecDepth 20000 in
theorem ggX0_measureHops_X2_endOf : GoodIn wsX0_measureHops wsX2_endOf := goodIn_r _ [12, 13, 14, 15, 11, 16, 17, 18, 6, 19, 20, 21, 22, 23, 24, 5, 7, 25, 26, 27, 28, 29, 30, 31, 32, 33, 34, 35, 36, 37, 38, 39, 40, 84, 85, 86, 87, 88, 89, 90, 91, 92, 93, 94, 95, 96, 97] (by decide +kernel) (by decide +kernel)
set_option maxRecDepth 20000 in
theorem gX0_measureHops_X2_endOf : GoodIn wsX0_measureHops (wsV RX0 56 RX2 yX2_endOf wsX2_endOf) := goodIn_app (goodIn_of _ (by decide +kernel)) ggX0_measureHops_X2_endOf
set_option maxRecDepth 20000 in
theorem ggX0_measureHops_X2_beginOf : GoodIn wsX0_measureHops wsX2_beginOf := goodIn_r _ [23, 24, 5, 6, 7, 84, 85, 86, 87, 88, 89, 90, 91, 92, 93, 94, 95, 96, 97] (by decide +kernel) (by decide +kernel)
set_option maxRecDepth 20000 in
theorem gX0_measureHops_X2_beginOf : GoodIn wsX0_measureHops (wsV RX0 60 RX2 yX2_beginOf wsX2_beginOf) := goodIn_app (goodIn_of _ (by decide +kernel)) ggX0_measureHops_X2_beginOf
set_option maxRecDepth 20000 in
theorem ggX0_measureHops_X2_sooner : GoodIn wsX0_measureHops wsX2_sooner := goodIn_r _ [45, 46, 47, 48, 49, 50, 51, 52, 11, 53, 54, 55, 56, 34, 35, 36, 37, 38, 57, 58, 59, 60, 61, 62, 63, 64, 65, 66, 67, 68, 69, 6, 70, 84, 85, 86, 87, 88, 89, 90, 91, 92, 93, 94, 95, 96, 97] (by decide +kernel) (by decide +kernel)
set_option maxRecDepth 20000 in
theorem gX0_measureHops_X2_sooner : GoodIn wsX0_measureHops (wsV RX0 63 RX2 yX2_sooner wsX2_sooner) := goodIn_app (goodIn_of _ (by decide +kernel)) ggX0_measureHops_X2_sooner
set_option maxRecDepth 20000 in
theorem ggX0_measureHops_X2_longOf : GoodIn wsX0_measureHops wsX2_longOf := goodIn_r _ [74, 25, 26, 27, 11, 28, 29, 5, 6, 7, 30, 31, 32, 33, 34, 35, 36, 37, 38, 39, 40, 84, 85, 86, 87, 88, 89, 90, 91, 92, 93, 94, 95, 96, 97] (by decide +kernel) (by decide +kernel)
set_option maxRecDepth 20000 in
theorem gX0_measureHops_X2_longOf : GoodIn wsX0_measureHops (wsV RX0 66 RX2 yX2_longOf wsX2_longOf) := goodIn_app (goodIn_of _ (by decide +kernel)) ggX0_measureHops_X2_longOf
set_option maxRecDepth 20000 in
theorem ggX0_measureHops_X2_playedThrough : GoodIn wsX0_measureHops wsX2_playedThrough := goodIn_r _ [60, 34, 35, 36, 11, 37, 38, 84, 85, 86, 87, 88, 89, 90, 91, 92, 93, 94, 95, 96, 97] (by decide +kernel) (by decide +kernel)
set_option maxRecDepth 20000 in
theorem gX0_measureHops_X2_playedThrough : GoodIn wsX0_measureHops (wsV RX0 69 RX2 yX2_playedThrough wsX2_playedThrough) := goodIn_app (goodIn_of _ (by decide +kernel)) ggX0_measureHops_X2_playedThrough
set_option maxRecDepth 20000 in
theorem ggX0_measureHops_X4_setCell : GoodIn wsX0_measureHops wsX4_setCell := goodIn_r _ [77] (by decide +kernel) (by decide +kernel)
set_option maxRecDepth 20000 in
theorem gX0_measureHops_X4_setCell_n40 : GoodIn wsX0_measureHops (wsX4_setCell) := ggX0_measureHops_X4_setCell
theorem dX0_measureHops_0 : decode cX0_measureHops 0 = .ok (.iconst 0, 1) := by decide +kernel
theorem dX0_measureHops_1 : decode cX0_measureHops 1 = .ok (.istore_n 2, 1) := by decide +kernel
theorem dX0_measureHops_2 : decode cX0_measureHops 2 = .ok (.iload_n 2, 1) := by decide +kernel
theorem dX0_measureHops_3 : decode cX0_measureHops 3 = .ok (.aload_n 0, 1) := by decide +kernel
theorem dX0_measureHops_4 : decode cX0_measureHops 4 = .ok (.getfield 32, 3) := by decide +kernel
theorem dX0_measureHops_7 : decode cX0_measureHops 7 = .ok (.if_icmp .gt 106, 3) := by decide +kernel
theorem dX0_measureHops_10 : decode cX0_measureHops 10 = .ok (.iload_n 2, 1) := by decide +kernel
theorem dX0_measureHops_11 : decode cX0_measureHops 11 = .ok (.aload_n 0, 1) := by decide +kernel
theorem dX0_measureHops_12 : decode cX0_measureHops 12 = .ok (.getfield 32, 3) := by decide +kernel
theorem dX0_measureHops_15 : decode cX0_measureHops 15 = .ok (.if_icmp .ne 10, 3) := by decide +kernel
theorem dX0_measureHops_18 : decode cX0_measureHops 18 = .ok (.aload_n 1, 1) := by decide +kernel
theorem dX0_measureHops_19 : decode cX0_measureHops 19 = .ok (.getfield 51, 3) := by decide +kernel
theorem dX0_measureHops_22 : decode cX0_measureHops 22 = .ok (.goto 15, 3) := by decide +kernel
theorem dX0_measureHops_25 : decode cX0_measureHops 25 = .ok (.aload_n 1, 1) := by decide +kernel
theorem dX0_measureHops_26 : decode cX0_measureHops 26 = .ok (.aload_n 0, 1) := by decide +kernel
theorem dX0_measureHops_27 : decode cX0_measureHops 27 = .ok (.getfield 18, 3) := by decide +kernel
theorem dX0_measureHops_30 : decode cX0_measureHops 30 = .ok (.iload_n 2, 1) := by decide +kernel
theorem dX0_measureHops_31 : decode cX0_measureHops 31 = .ok (.invokestatic 47, 3) := by decide +kernel
theorem dX0_measureHops_34 : decode cX0_measureHops 34 = .ok (.invokevirtual 56, 3) := by decide +kernel
theorem dX0_measureHops_37 : decode cX0_measureHops 37 = .ok (.istore_n 3, 1) := by decide +kernel
theorem dX0_measureHops_38 : decode cX0_measureHops 38 = .ok (.iconst 0, 1) := by decide +kernel
theorem dX0_measureHops_39 : decode cX0_measureHops 39 = .ok (.istore 4, 2) := by decide +kernel
theorem dX0_measureHops_41 : decode cX0_measureHops 41 = .ok (.iload 4, 2) := by decide +kernel
theorem dX0_measureHops_43 : decode cX0_measureHops 43 = .ok (.aload_n 0, 1) := by decide +kernel
theorem dX0_measureHops_44 : decode cX0_measureHops 44 = .ok (.getfield 32, 3) := by decide +kernel
theorem dX0_measureHops_47 : decode cX0_measureHops 47 = .ok (.if_icmp .ge 60, 3) := by decide +kernel
theorem dX0_measureHops_50 : decode cX0_measureHops 50 = .ok (.aload_n 0, 1) := by decide +kernel
theorem dX0_measureHops_51 : decode cX0_measureHops 51 = .ok (.getfield 18, 3) := by decide +kernel
theorem dX0_measureHops_54 : decode cX0_measureHops 54 = .ok (.iload 4, 2) := by decide +kernel
theorem dX0_measureHops_56 : decode cX0_measureHops 56 = .ok (.invokestatic 47, 3) := by decide +kernel
theorem dX0_measureHops_59 : decode cX0_measureHops 59 = .ok (.istore 5, 2) := by decide +kernel
theorem dX0_measureHops_61 : decode cX0_measureHops 61 = .ok (.aload_n 1, 1) := by decide +kernel
theorem dX0_measureHops_62 : decode cX0_measureHops 62 = .ok (.iload_n 3, 1) := by decide +kernel
theorem dX0_measureHops_63 : decode cX0_measureHops 63 = .ok (.aload_n 1, 1) := by decide +kernel
theorem dX0_measureHops_64 : decode cX0_measureHops 64 = .ok (.iload 5, 2) := by decide +kernel
theorem dX0_measureHops_66 : decode cX0_measureHops 66 = .ok (.invokevirtual 60, 3) := by decide +kernel
theorem dX0_measureHops_69 : decode cX0_measureHops 69 = .ok (.invokevirtual 63, 3) := by decide +kernel
theorem dX0_measureHops_72 : decode cX0_measureHops 72 = .ok (.aload_n 1, 1) := by decide +kernel
theorem dX0_measureHops_73 : decode cX0_measureHops 73 = .ok (.aload_n 1, 1) := by decide +kernel
theorem dX0_measureHops_74 : decode cX0_measureHops 74 = .ok (.iload 5, 2) := by decide +kernel
theorem dX0_measureHops_76 : decode cX0_measureHops 76 = .ok (.invokevirtual 66, 3) := by decide +kernel
theorem dX0_measureHops_79 : decode cX0_measureHops 79 = .ok (.invokevirtual 69, 3) := by decide +kernel
theorem dX0_measureHops_82 : decode cX0_measureHops 82 = .ok (.iadd, 1) := by decide +kernel
theorem dX0_measureHops_83 : decode cX0_measureHops 83 = .ok (.istore 6, 2) := by decide +kernel
theorem dX0_measureHops_85 : decode cX0_measureHops 85 = .ok (.aload_n 0, 1) := by decide +kernel
theorem dX0_measureHops_86 : decode cX0_measureHops 86 = .ok (.getfield 9, 3) := by decide +kernel
theorem dX0_measureHops_89 : decode cX0_measureHops 89 = .ok (.iload_n 2, 1) := by decide +kernel
theorem dX0_measureHops_90 : decode cX0_measureHops 90 = .ok (.bipush 8, 2) := by decide +kernel
theorem dX0_measureHops_92 : decode cX0_measureHops 92 = .ok (.imul, 1) := by decide +kernel
theorem dX0_measureHops_93 : decode cX0_measureHops 93 = .ok (.iload 4, 2) := by decide +kernel
theorem dX0_measureHops_95 : decode cX0_measureHops 95 = .ok (.iadd, 1) := by decide +kernel
theorem dX0_measureHops_96 : decode cX0_measureHops 96 = .ok (.iload 6, 2) := by decide +kernel
theorem dX0_measureHops_98 : decode cX0_measureHops 98 = .ok (.invokestatic 40, 3) := by decide +kernel
theorem dX0_measureHops_101 : decode cX0_measureHops 101 = .ok (.iinc 4 1, 3) := by decide +kernel
theorem dX0_measureHops_104 : decode cX0_measureHops 104 = .ok (.goto (-63), 3) := by decide +kernel
theorem dX0_measureHops_107 : decode cX0_measureHops 107 = .ok (.iinc 2 1, 3) := by decide +kernel
theorem dX0_measureHops_110 : decode cX0_measureHops 110 = .ok (.goto (-108), 3) := by decide +kernel
theorem dX0_measureHops_113 : decode cX0_measureHops 113 = .ok (.return_, 1) := by decide +kernel
set_option maxRecDepth 20000 in
theorem ggX0_ticksBy_X4_cell : GoodIn wsX0_ticksBy wsX4_cell := goodIn_r _ [5] (by decide +kernel) (by decide +kernel)
set_option maxRecDepth 20000 in
theorem gX0_ticksBy_X4_cell_n47 : GoodIn wsX0_ticksBy (wsX4_cell) := ggX0_ticksBy_X4_cell
theorem dX0_ticksBy_0 : decode cX0_ticksBy 0 = .ok (.aload_n 0, 1) := by decide +kernel
theorem dX0_ticksBy_1 : decode cX0_ticksBy 1 = .ok (.getfield 9, 3) := by decide +kernel
theorem dX0_ticksBy_4 : decode cX0_ticksBy 4 = .ok (.iload_n 1, 1) := by decide +kernel
theorem dX0_ticksBy_5 : decode cX0_ticksBy 5 = .ok (.bipush 8, 2) := by decide +kernel
theorem dX0_ticksBy_7 : decode cX0_ticksBy 7 = .ok (.imul, 1) := by decide +kernel
theorem dX0_ticksBy_8 : decode cX0_ticksBy 8 = .ok (.iload_n 2, 1) := by decide +kernel
theorem dX0_ticksBy_9 : decode cX0_ticksBy 9 = .ok (.iadd, 1) := by decide +kernel
theorem dX0_ticksBy_10 : decode cX0_ticksBy 10 = .ok (.invokestatic 47, 3) := by decide +kernel
theorem dX0_ticksBy_13 : decode cX0_ticksBy 13 = .ok (.aload_n 0, 1) := by decide +kernel
theorem dX0_ticksBy_14 : decode cX0_ticksBy 14 = .ok (.getfield 15, 3) := by decide +kernel
theorem dX0_ticksBy_17 : decode cX0_ticksBy 17 = .ok (.iload_n 3, 1) := by decide +kernel
theorem dX0_ticksBy_18 : decode cX0_ticksBy 18 = .ok (.iconst 1, 1) := by decide +kernel
theorem dX0_ticksBy_19 : decode cX0_ticksBy 19 = .ok (.iload_n 2, 1) := by decide +kernel
theorem dX0_ticksBy_20 : decode cX0_ticksBy 20 = .ok (.ishl, 1) := by decide +kernel
theorem dX0_ticksBy_21 : decode cX0_ticksBy 21 = .ok (.ixor, 1) := by decide +kernel
theorem dX0_ticksBy_22 : decode cX0_ticksBy 22 = .ok (.bipush 8, 2) := by decide +kernel
theorem dX0_ticksBy_24 : decode cX0_ticksBy 24 = .ok (.imul, 1) := by decide +kernel
theorem dX0_ticksBy_25 : decode cX0_ticksBy 25 = .ok (.iload_n 2, 1) := by decide +kernel
theorem dX0_ticksBy_26 : decode cX0_ticksBy 26 = .ok (.iadd, 1) := by decide +kernel
theorem dX0_ticksBy_27 : decode cX0_ticksBy 27 = .ok (.invokestatic 47, 3) := by decide +kernel
theorem dX0_ticksBy_30 : decode cX0_ticksBy 30 = .ok (.iadd, 1) := by decide +kernel
theorem dX0_ticksBy_31 : decode cX0_ticksBy 31 = .ok (.ireturn, 1) := by decide +kernel
set_option maxRecDepth 20000 in
theorem ggX0_fewestFrom_X0_ticksBy : GoodIn wsX0_fewestFrom wsX0_ticksBy := goodIn_r _ [11, 12, 13, 14, 15, 16, 17, 18, 19, 20, 21, 22] (by decide +kernel) (by decide +kernel)
set_option maxRecDepth 20000 in
theorem gX0_fewestFrom_X0_ticksBy : GoodIn wsX0_fewestFrom (wsV RX0 73 RX0 yX0_ticksBy wsX0_ticksBy) := goodIn_app (goodIn_of _ (by decide +kernel)) ggX0_fewestFrom_X0_ticksBy
theorem dX0_fewestFrom_0 : decode cX0_fewestFrom 0 = .ok (.ldc 72, 2) := by decide +kernel
theorem dX0_fewestFrom_2 : decode cX0_fewestFrom 2 = .ok (.istore_n 3, 1) := by decide +kernel
theorem dX0_fewestFrom_3 : decode cX0_fewestFrom 3 = .ok (.iconst 0, 1) := by decide +kernel
theorem dX0_fewestFrom_4 : decode cX0_fewestFrom 4 = .ok (.istore 4, 2) := by decide +kernel
theorem dX0_fewestFrom_6 : decode cX0_fewestFrom 6 = .ok (.iload 4, 2) := by decide +kernel
theorem dX0_fewestFrom_8 : decode cX0_fewestFrom 8 = .ok (.aload_n 0, 1) := by decide +kernel
theorem dX0_fewestFrom_9 : decode cX0_fewestFrom 9 = .ok (.getfield 32, 3) := by decide +kernel
theorem dX0_fewestFrom_12 : decode cX0_fewestFrom 12 = .ok (.if_icmp .ge 32, 3) := by decide +kernel
theorem dX0_fewestFrom_15 : decode cX0_fewestFrom 15 = .ok (.iload_n 2, 1) := by decide +kernel
theorem dX0_fewestFrom_16 : decode cX0_fewestFrom 16 = .ok (.iload 4, 2) := by decide +kernel
theorem dX0_fewestFrom_18 : decode cX0_fewestFrom 18 = .ok (.ishr, 1) := by decide +kernel
theorem dX0_fewestFrom_19 : decode cX0_fewestFrom 19 = .ok (.iconst 1, 1) := by decide +kernel
theorem dX0_fewestFrom_20 : decode cX0_fewestFrom 20 = .ok (.iand, 1) := by decide +kernel
theorem dX0_fewestFrom_21 : decode cX0_fewestFrom 21 = .ok (.iconst 1, 1) := by decide +kernel
theorem dX0_fewestFrom_22 : decode cX0_fewestFrom 22 = .ok (.if_icmp .ne 16, 3) := by decide +kernel
theorem dX0_fewestFrom_25 : decode cX0_fewestFrom 25 = .ok (.iload_n 3, 1) := by decide +kernel
theorem dX0_fewestFrom_26 : decode cX0_fewestFrom 26 = .ok (.aload_n 0, 1) := by decide +kernel
theorem dX0_fewestFrom_27 : decode cX0_fewestFrom 27 = .ok (.iload_n 1, 1) := by decide +kernel
theorem dX0_fewestFrom_28 : decode cX0_fewestFrom 28 = .ok (.iload 4, 2) := by decide +kernel
theorem dX0_fewestFrom_30 : decode cX0_fewestFrom 30 = .ok (.iload_n 2, 1) := by decide +kernel
theorem dX0_fewestFrom_31 : decode cX0_fewestFrom 31 = .ok (.invokevirtual 73, 3) := by decide +kernel
theorem dX0_fewestFrom_34 : decode cX0_fewestFrom 34 = .ok (.invokestatic 77, 3) := by decide +kernel
theorem dX0_fewestFrom_37 : decode cX0_fewestFrom 37 = .ok (.istore_n 3, 1) := by decide +kernel
theorem dX0_fewestFrom_38 : decode cX0_fewestFrom 38 = .ok (.iinc 4 1, 3) := by decide +kernel
theorem dX0_fewestFrom_41 : decode cX0_fewestFrom 41 = .ok (.goto (-35), 3) := by decide +kernel
theorem dX0_fewestFrom_44 : decode cX0_fewestFrom 44 = .ok (.iload_n 3, 1) := by decide +kernel
theorem dX0_fewestFrom_45 : decode cX0_fewestFrom 45 = .ok (.ireturn, 1) := by decide +kernel
set_option maxRecDepth 20000 in
theorem ggX0_followFirst_X0_fewestFrom : GoodIn wsX0_followFirst wsX0_fewestFrom := goodIn_r _ [9, 10, 1, 11, 12, 13, 14, 15, 16, 17, 8, 18, 19, 20, 21, 22, 23, 30, 31, 32, 33, 34, 35] (by decide +kernel) (by decide +kernel)
set_option maxRecDepth 20000 in
theorem gX0_followFirst_X0_fewestFrom : GoodIn wsX0_followFirst (wsV RX0 36 RX0 yX0_fewestFrom wsX0_fewestFrom) := goodIn_app (goodIn_of _ (by decide +kernel)) ggX0_followFirst_X0_fewestFrom
set_option maxRecDepth 20000 in
theorem ggX0_followFirst_X0_firstOfFewest : GoodIn wsX0_followFirst wsX0_firstOfFewest := goodIn_r _ [27, 1, 5, 6, 7, 8, 9, 10, 11, 12, 13, 14, 15, 16, 17, 18, 19, 20, 21, 22, 23, 30, 31, 32, 33, 34, 35] (by decide +kernel) (by decide +kernel)
set_option maxRecDepth 20000 in
theorem gX0_followFirst_X0_firstOfFewest : GoodIn wsX0_followFirst (wsV RX0 85 RX0 yX0_firstOfFewest wsX0_firstOfFewest) := goodIn_app (goodIn_of _ (by decide +kernel)) ggX0_followFirst_X0_firstOfFewest
set_option maxRecDepth 20000 in
theorem ggX0_followFirst_X4_cell : GoodIn wsX0_followFirst wsX4_cell := goodIn_r _ [23] (by decide +kernel) (by decide +kernel)
set_option maxRecDepth 20000 in
theorem gX0_followFirst_X4_cell_n47 : GoodIn wsX0_followFirst (wsX4_cell) := ggX0_followFirst_X4_cell
set_option maxRecDepth 20000 in
theorem ggX0_followFirst_X4_setCell : GoodIn wsX0_followFirst wsX4_setCell := goodIn_r _ [29] (by decide +kernel) (by decide +kernel)
set_option maxRecDepth 20000 in
theorem gX0_followFirst_X4_setCell_n40 : GoodIn wsX0_followFirst (wsX4_setCell) := ggX0_followFirst_X4_setCell
theorem dX0_followFirst_0 : decode cX0_followFirst 0 = .ok (.iconst 1, 1) := by decide +kernel
theorem dX0_followFirst_1 : decode cX0_followFirst 1 = .ok (.aload_n 0, 1) := by decide +kernel
theorem dX0_followFirst_2 : decode cX0_followFirst 2 = .ok (.getfield 32, 3) := by decide +kernel
theorem dX0_followFirst_5 : decode cX0_followFirst 5 = .ok (.ishl, 1) := by decide +kernel
theorem dX0_followFirst_6 : decode cX0_followFirst 6 = .ok (.iconst 1, 1) := by decide +kernel
theorem dX0_followFirst_7 : decode cX0_followFirst 7 = .ok (.isub, 1) := by decide +kernel
theorem dX0_followFirst_8 : decode cX0_followFirst 8 = .ok (.istore_n 1, 1) := by decide +kernel
theorem dX0_followFirst_9 : decode cX0_followFirst 9 = .ok (.aload_n 0, 1) := by decide +kernel
theorem dX0_followFirst_10 : decode cX0_followFirst 10 = .ok (.getfield 32, 3) := by decide +kernel
theorem dX0_followFirst_13 : decode cX0_followFirst 13 = .ok (.istore_n 2, 1) := by decide +kernel
theorem dX0_followFirst_14 : decode cX0_followFirst 14 = .ok (.aload_n 0, 1) := by decide +kernel
theorem dX0_followFirst_15 : decode cX0_followFirst 15 = .ok (.iload_n 1, 1) := by decide +kernel
theorem dX0_followFirst_16 : decode cX0_followFirst 16 = .ok (.ifCond .ne 7, 3) := by decide +kernel
theorem dX0_followFirst_19 : decode cX0_followFirst 19 = .ok (.iconst 0, 1) := by decide +kernel
theorem dX0_followFirst_20 : decode cX0_followFirst 20 = .ok (.goto 9, 3) := by decide +kernel
theorem dX0_followFirst_23 : decode cX0_followFirst 23 = .ok (.aload_n 0, 1) := by decide +kernel
theorem dX0_followFirst_24 : decode cX0_followFirst 24 = .ok (.iload_n 2, 1) := by decide +kernel
theorem dX0_followFirst_25 : decode cX0_followFirst 25 = .ok (.iload_n 1, 1) := by decide +kernel
theorem dX0_followFirst_26 : decode cX0_followFirst 26 = .ok (.invokevirtual 36, 3) := by decide +kernel
theorem dX0_followFirst_29 : decode cX0_followFirst 29 = .ok (.putfield 82, 3) := by decide +kernel
theorem dX0_followFirst_32 : decode cX0_followFirst 32 = .ok (.iconst 0, 1) := by decide +kernel
theorem dX0_followFirst_33 : decode cX0_followFirst 33 = .ok (.istore_n 3, 1) := by decide +kernel
theorem dX0_followFirst_34 : decode cX0_followFirst 34 = .ok (.iload_n 3, 1) := by decide +kernel
theorem dX0_followFirst_35 : decode cX0_followFirst 35 = .ok (.aload_n 0, 1) := by decide +kernel
theorem dX0_followFirst_36 : decode cX0_followFirst 36 = .ok (.getfield 32, 3) := by decide +kernel
theorem dX0_followFirst_39 : decode cX0_followFirst 39 = .ok (.if_icmp .ge 44, 3) := by decide +kernel
theorem dX0_followFirst_42 : decode cX0_followFirst 42 = .ok (.aload_n 0, 1) := by decide +kernel
theorem dX0_followFirst_43 : decode cX0_followFirst 43 = .ok (.iload_n 2, 1) := by decide +kernel
theorem dX0_followFirst_44 : decode cX0_followFirst 44 = .ok (.iload_n 1, 1) := by decide +kernel
theorem dX0_followFirst_45 : decode cX0_followFirst 45 = .ok (.invokevirtual 85, 3) := by decide +kernel
theorem dX0_followFirst_48 : decode cX0_followFirst 48 = .ok (.istore 4, 2) := by decide +kernel
theorem dX0_followFirst_50 : decode cX0_followFirst 50 = .ok (.aload_n 0, 1) := by decide +kernel
theorem dX0_followFirst_51 : decode cX0_followFirst 51 = .ok (.getfield 21, 3) := by decide +kernel
theorem dX0_followFirst_54 : decode cX0_followFirst 54 = .ok (.iload_n 3, 1) := by decide +kernel
theorem dX0_followFirst_55 : decode cX0_followFirst 55 = .ok (.aload_n 0, 1) := by decide +kernel
theorem dX0_followFirst_56 : decode cX0_followFirst 56 = .ok (.getfield 18, 3) := by decide +kernel
theorem dX0_followFirst_59 : decode cX0_followFirst 59 = .ok (.iload 4, 2) := by decide +kernel
theorem dX0_followFirst_61 : decode cX0_followFirst 61 = .ok (.invokestatic 47, 3) := by decide +kernel
theorem dX0_followFirst_64 : decode cX0_followFirst 64 = .ok (.invokestatic 40, 3) := by decide +kernel
theorem dX0_followFirst_67 : decode cX0_followFirst 67 = .ok (.iload_n 1, 1) := by decide +kernel
theorem dX0_followFirst_68 : decode cX0_followFirst 68 = .ok (.iconst 1, 1) := by decide +kernel
theorem dX0_followFirst_69 : decode cX0_followFirst 69 = .ok (.iload 4, 2) := by decide +kernel
theorem dX0_followFirst_71 : decode cX0_followFirst 71 = .ok (.ishl, 1) := by decide +kernel
theorem dX0_followFirst_72 : decode cX0_followFirst 72 = .ok (.ixor, 1) := by decide +kernel
theorem dX0_followFirst_73 : decode cX0_followFirst 73 = .ok (.istore_n 1, 1) := by decide +kernel
theorem dX0_followFirst_74 : decode cX0_followFirst 74 = .ok (.iload 4, 2) := by decide +kernel
theorem dX0_followFirst_76 : decode cX0_followFirst 76 = .ok (.istore_n 2, 1) := by decide +kernel
theorem dX0_followFirst_77 : decode cX0_followFirst 77 = .ok (.iinc 3 1, 3) := by decide +kernel
theorem dX0_followFirst_80 : decode cX0_followFirst 80 = .ok (.goto (-46), 3) := by decide +kernel
theorem dX0_followFirst_83 : decode cX0_followFirst 83 = .ok (.return_, 1) := by decide +kernel
set_option maxRecDepth 20000 in
theorem ggX0_firstOfFewest_X0_fewestFrom : GoodIn wsX0_firstOfFewest wsX0_fewestFrom := goodIn_r _ [6, 7, 1, 8, 9, 10, 11, 12, 13, 14, 5, 15, 16, 17, 18, 19, 20, 21, 22, 23, 24, 25, 26] (by decide +kernel) (by decide +kernel)
set_option maxRecDepth 20000 in
theorem gX0_firstOfFewest_X0_fewestFrom : GoodIn wsX0_firstOfFewest (wsV RX0 36 RX0 yX0_fewestFrom wsX0_fewestFrom) := goodIn_app (goodIn_of _ (by decide +kernel)) ggX0_firstOfFewest_X0_fewestFrom
set_option maxRecDepth 20000 in
theorem ggX0_firstOfFewest_X0_ticksBy : GoodIn wsX0_firstOfFewest wsX0_ticksBy := goodIn_r _ [15, 16, 17, 18, 19, 20, 21, 22, 23, 24, 25, 26] (by decide +kernel) (by decide +kernel)
set_option maxRecDepth 20000 in
theorem gX0_firstOfFewest_X0_ticksBy : GoodIn wsX0_firstOfFewest (wsV RX0 73 RX0 yX0_ticksBy wsX0_ticksBy) := goodIn_app (goodIn_of _ (by decide +kernel)) ggX0_firstOfFewest_X0_ticksBy
theorem dX0_firstOfFewest_0 : decode cX0_firstOfFewest 0 = .ok (.aload_n 0, 1) := by decide +kernel
theorem dX0_firstOfFewest_1 : decode cX0_firstOfFewest 1 = .ok (.iload_n 1, 1) := by decide +kernel
theorem dX0_firstOfFewest_2 : decode cX0_firstOfFewest 2 = .ok (.iload_n 2, 1) := by decide +kernel
theorem dX0_firstOfFewest_3 : decode cX0_firstOfFewest 3 = .ok (.invokevirtual 36, 3) := by decide +kernel
theorem dX0_firstOfFewest_6 : decode cX0_firstOfFewest 6 = .ok (.istore_n 3, 1) := by decide +kernel
theorem dX0_firstOfFewest_7 : decode cX0_firstOfFewest 7 = .ok (.iconst 0, 1) := by decide +kernel
theorem dX0_firstOfFewest_8 : decode cX0_firstOfFewest 8 = .ok (.istore 4, 2) := by decide +kernel
theorem dX0_firstOfFewest_10 : decode cX0_firstOfFewest 10 = .ok (.iload 4, 2) := by decide +kernel
theorem dX0_firstOfFewest_12 : decode cX0_firstOfFewest 12 = .ok (.aload_n 0, 1) := by decide +kernel
theorem dX0_firstOfFewest_13 : decode cX0_firstOfFewest 13 = .ok (.getfield 32, 3) := by decide +kernel
theorem dX0_firstOfFewest_16 : decode cX0_firstOfFewest 16 = .ok (.if_icmp .ge 34, 3) := by decide +kernel
theorem dX0_firstOfFewest_19 : decode cX0_firstOfFewest 19 = .ok (.iload_n 2, 1) := by decide +kernel
theorem dX0_firstOfFewest_20 : decode cX0_firstOfFewest 20 = .ok (.iload 4, 2) := by decide +kernel
theorem dX0_firstOfFewest_22 : decode cX0_firstOfFewest 22 = .ok (.ishr, 1) := by decide +kernel
theorem dX0_firstOfFewest_23 : decode cX0_firstOfFewest 23 = .ok (.iconst 1, 1) := by decide +kernel
theorem dX0_firstOfFewest_24 : decode cX0_firstOfFewest 24 = .ok (.iand, 1) := by decide +kernel
theorem dX0_firstOfFewest_25 : decode cX0_firstOfFewest 25 = .ok (.iconst 1, 1) := by decide +kernel
theorem dX0_firstOfFewest_26 : decode cX0_firstOfFewest 26 = .ok (.if_icmp .ne 18, 3) := by decide +kernel
theorem dX0_firstOfFewest_29 : decode cX0_firstOfFewest 29 = .ok (.aload_n 0, 1) := by decide +kernel
theorem dX0_firstOfFewest_30 : decode cX0_firstOfFewest 30 = .ok (.iload_n 1, 1) := by decide +kernel
theorem dX0_firstOfFewest_31 : decode cX0_firstOfFewest 31 = .ok (.iload 4, 2) := by decide +kernel
theorem dX0_firstOfFewest_33 : decode cX0_firstOfFewest 33 = .ok (.iload_n 2, 1) := by decide +kernel
theorem dX0_firstOfFewest_34 : decode cX0_firstOfFewest 34 = .ok (.invokevirtual 73, 3) := by decide +kernel
theorem dX0_firstOfFewest_37 : decode cX0_firstOfFewest 37 = .ok (.iload_n 3, 1) := by decide +kernel
theorem dX0_firstOfFewest_38 : decode cX0_firstOfFewest 38 = .ok (.if_icmp .ne 6, 3) := by decide +kernel
theorem dX0_firstOfFewest_41 : decode cX0_firstOfFewest 41 = .ok (.iload 4, 2) := by decide +kernel
theorem dX0_firstOfFewest_43 : decode cX0_firstOfFewest 43 = .ok (.ireturn, 1) := by decide +kernel
theorem dX0_firstOfFewest_44 : decode cX0_firstOfFewest 44 = .ok (.iinc 4 1, 3) := by decide +kernel
theorem dX0_firstOfFewest_47 : decode cX0_firstOfFewest 47 = .ok (.goto (-37), 3) := by decide +kernel
theorem dX0_firstOfFewest_50 : decode cX0_firstOfFewest 50 = .ok (.iconst 0, 1) := by decide +kernel
theorem dX0_firstOfFewest_51 : decode cX0_firstOfFewest 51 = .ok (.ireturn, 1) := by decide +kernel
theorem dX1_init_0 : decode cX1_init 0 = .ok (.aload_n 0, 1) := by decide +kernel
theorem dX1_init_1 : decode cX1_init 1 = .ok (.invokespecial 3, 3) := by decide +kernel
theorem dX1_init_4 : decode cX1_init 4 = .ok (.aload_n 0, 1) := by decide +kernel
theorem dX1_init_5 : decode cX1_init 5 = .ok (.bipush 40, 2) := by decide +kernel
theorem dX1_init_7 : decode cX1_init 7 = .ok (.newarray .int, 2) := by decide +kernel
theorem dX1_init_9 : decode cX1_init 9 = .ok (.putfield 9, 3) := by decide +kernel
theorem dX1_init_12 : decode cX1_init 12 = .ok (.aload_n 0, 1) := by decide +kernel
theorem dX1_init_13 : decode cX1_init 13 = .ok (.iconst (-1), 1) := by decide +kernel
theorem dX1_init_14 : decode cX1_init 14 = .ok (.putfield 15, 3) := by decide +kernel
theorem dX1_init_17 : decode cX1_init 17 = .ok (.aload_n 0, 1) := by decide +kernel
theorem dX1_init_18 : decode cX1_init 18 = .ok (.iconst 0, 1) := by decide +kernel
theorem dX1_init_19 : decode cX1_init 19 = .ok (.putfield 19, 3) := by decide +kernel
theorem dX1_init_22 : decode cX1_init 22 = .ok (.return_, 1) := by decide +kernel
theorem dX1_isNothing_0 : decode cX1_isNothing 0 = .ok (.aload_n 0, 1) := by decide +kernel
theorem dX1_isNothing_1 : decode cX1_isNothing 1 = .ok (.getfield 15, 3) := by decide +kernel
theorem dX1_isNothing_4 : decode cX1_isNothing 4 = .ok (.iconst (-1), 1) := by decide +kernel
theorem dX1_isNothing_5 : decode cX1_isNothing 5 = .ok (.if_icmp .ne 7, 3) := by decide +kernel
theorem dX1_isNothing_8 : decode cX1_isNothing 8 = .ok (.iconst 1, 1) := by decide +kernel
theorem dX1_isNothing_9 : decode cX1_isNothing 9 = .ok (.goto 4, 3) := by decide +kernel
theorem dX1_isNothing_12 : decode cX1_isNothing 12 = .ok (.iconst 0, 1) := by decide +kernel
theorem dX1_isNothing_13 : decode cX1_isNothing 13 = .ok (.ireturn, 1) := by decide +kernel
set_option maxRecDepth 20000 in
theorem ggX1_makeNew_X4_setCell : GoodIn wsX1_makeNew wsX4_setCell := goodIn_r _ [6] (by decide +kernel) (by decide +kernel)
set_option maxRecDepth 20000 in
theorem gX1_makeNew_X4_setCell_n22 : GoodIn wsX1_makeNew (wsX4_setCell) := ggX1_makeNew_X4_setCell
theorem dX1_makeNew_0 : decode cX1_makeNew 0 = .ok (.aload_n 0, 1) := by decide +kernel
theorem dX1_makeNew_1 : decode cX1_makeNew 1 = .ok (.iload_n 1, 1) := by decide +kernel
theorem dX1_makeNew_2 : decode cX1_makeNew 2 = .ok (.putfield 15, 3) := by decide +kernel
theorem dX1_makeNew_5 : decode cX1_makeNew 5 = .ok (.aload_n 0, 1) := by decide +kernel
theorem dX1_makeNew_6 : decode cX1_makeNew 6 = .ok (.iload_n 2, 1) := by decide +kernel
theorem dX1_makeNew_7 : decode cX1_makeNew 7 = .ok (.putfield 19, 3) := by decide +kernel
theorem dX1_makeNew_10 : decode cX1_makeNew 10 = .ok (.iconst 0, 1) := by decide +kernel
theorem dX1_makeNew_11 : decode cX1_makeNew 11 = .ok (.istore_n 3, 1) := by decide +kernel
theorem dX1_makeNew_12 : decode cX1_makeNew 12 = .ok (.iload_n 3, 1) := by decide +kernel
theorem dX1_makeNew_13 : decode cX1_makeNew 13 = .ok (.bipush 40, 2) := by decide +kernel
theorem dX1_makeNew_15 : decode cX1_makeNew 15 = .ok (.if_icmp .ge 18, 3) := by decide +kernel
theorem dX1_makeNew_18 : decode cX1_makeNew 18 = .ok (.aload_n 0, 1) := by decide +kernel
theorem dX1_makeNew_19 : decode cX1_makeNew 19 = .ok (.getfield 9, 3) := by decide +kernel
theorem dX1_makeNew_22 : decode cX1_makeNew 22 = .ok (.iload_n 3, 1) := by decide +kernel
theorem dX1_makeNew_23 : decode cX1_makeNew 23 = .ok (.iconst 0, 1) := by decide +kernel
theorem dX1_makeNew_24 : decode cX1_makeNew 24 = .ok (.invokestatic 22, 3) := by decide +kernel
theorem dX1_makeNew_27 : decode cX1_makeNew 27 = .ok (.iinc 3 1, 3) := by decide +kernel
theorem dX1_makeNew_30 : decode cX1_makeNew 30 = .ok (.goto (-18), 3) := by decide +kernel
theorem dX1_makeNew_33 : decode cX1_makeNew 33 = .ok (.return_, 1) := by decide +kernel
set_option maxRecDepth 20000 in
theorem ggX1_faultOf_X1_isNothing : GoodIn wsX1_faultOf wsX1_isNothing := goodIn_r _ [7, 1, 11, 12, 13] (by decide +kernel) (by decide +kernel)
set_option maxRecDepth 20000 in
theorem gX1_faultOf_X1_isNothing : GoodIn wsX1_faultOf (wsV RX1 26 RX1 yX1_isNothing wsX1_isNothing) := goodIn_app (goodIn_of _ (by decide +kernel)) ggX1_faultOf_X1_isNothing
set_option maxRecDepth 20000 in
theorem ggX1_faultOf_X4_isBetween : GoodIn wsX1_faultOf wsX4_isBetween := goodIn_r _ [10] (by decide +kernel) (by decide +kernel)
set_option maxRecDepth 20000 in
theorem gX1_faultOf_X4_isBetween_n30 : GoodIn wsX1_faultOf (wsX4_isBetween) := ggX1_faultOf_X4_isBetween
theorem dX1_faultOf_0 : decode cX1_faultOf 0 = .ok (.aload_n 0, 1) := by decide +kernel
theorem dX1_faultOf_1 : decode cX1_faultOf 1 = .ok (.invokevirtual 26, 3) := by decide +kernel
theorem dX1_faultOf_4 : decode cX1_faultOf 4 = .ok (.ifCond .eq 5, 3) := by decide +kernel
theorem dX1_faultOf_7 : decode cX1_faultOf 7 = .ok (.iconst 1, 1) := by decide +kernel
theorem dX1_faultOf_8 : decode cX1_faultOf 8 = .ok (.ireturn, 1) := by decide +kernel
theorem dX1_faultOf_9 : decode cX1_faultOf 9 = .ok (.iload_n 1, 1) := by decide +kernel
theorem dX1_faultOf_10 : decode cX1_faultOf 10 = .ok (.aload_n 0, 1) := by decide +kernel
theorem dX1_faultOf_11 : decode cX1_faultOf 11 = .ok (.getfield 15, 3) := by decide +kernel
theorem dX1_faultOf_14 : decode cX1_faultOf 14 = .ok (.if_icmp .eq 5, 3) := by decide +kernel
theorem dX1_faultOf_17 : decode cX1_faultOf 17 = .ok (.iconst 3, 1) := by decide +kernel
theorem dX1_faultOf_18 : decode cX1_faultOf 18 = .ok (.ireturn, 1) := by decide +kernel
theorem dX1_faultOf_19 : decode cX1_faultOf 19 = .ok (.iload_n 2, 1) := by decide +kernel
theorem dX1_faultOf_20 : decode cX1_faultOf 20 = .ok (.iconst 0, 1) := by decide +kernel
theorem dX1_faultOf_21 : decode cX1_faultOf 21 = .ok (.aload_n 0, 1) := by decide +kernel
theorem dX1_faultOf_22 : decode cX1_faultOf 22 = .ok (.getfield 19, 3) := by decide +kernel
theorem dX1_faultOf_25 : decode cX1_faultOf 25 = .ok (.iconst 1, 1) := by decide +kernel
theorem dX1_faultOf_26 : decode cX1_faultOf 26 = .ok (.isub, 1) := by decide +kernel
theorem dX1_faultOf_27 : decode cX1_faultOf 27 = .ok (.invokestatic 30, 3) := by decide +kernel
theorem dX1_faultOf_30 : decode cX1_faultOf 30 = .ok (.ifCond .eq 7, 3) := by decide +kernel
theorem dX1_faultOf_33 : decode cX1_faultOf 33 = .ok (.iconst 0, 1) := by decide +kernel
theorem dX1_faultOf_34 : decode cX1_faultOf 34 = .ok (.goto 4, 3) := by decide +kernel
theorem dX1_faultOf_37 : decode cX1_faultOf 37 = .ok (.iconst 2, 1) := by decide +kernel
theorem dX1_faultOf_38 : decode cX1_faultOf 38 = .ok (.ireturn, 1) := by decide +kernel
set_option maxRecDepth 20000 in
theorem ggX1_cellAt_X4_cell : GoodIn wsX1_cellAt wsX4_cell := goodIn_r _ [4] (by decide +kernel) (by decide +kernel)
set_option maxRecDepth 20000 in
theorem gX1_cellAt_X4_cell_n34 : GoodIn wsX1_cellAt (wsX4_cell) := ggX1_cellAt_X4_cell
theorem dX1_cellAt_0 : decode cX1_cellAt 0 = .ok (.aload_n 0, 1) := by decide +kernel
theorem dX1_cellAt_1 : decode cX1_cellAt 1 = .ok (.getfield 9, 3) := by decide +kernel
theorem dX1_cellAt_4 : decode cX1_cellAt 4 = .ok (.iload_n 1, 1) := by decide +kernel
theorem dX1_cellAt_5 : decode cX1_cellAt 5 = .ok (.invokestatic 34, 3) := by decide +kernel
theorem dX1_cellAt_8 : decode cX1_cellAt 8 = .ok (.ireturn, 1) := by decide +kernel
set_option maxRecDepth 20000 in
theorem ggX1_put_X4_setCell : GoodIn wsX1_put wsX4_setCell := goodIn_r _ [5] (by decide +kernel) (by decide +kernel)
set_option maxRecDepth 20000 in
theorem gX1_put_X4_setCell_n22 : GoodIn wsX1_put (wsX4_setCell) := ggX1_put_X4_setCell
theorem dX1_put_0 : decode cX1_put 0 = .ok (.aload_n 0, 1) := by decide +kernel
theorem dX1_put_1 : decode cX1_put 1 = .ok (.getfield 15, 3) := by decide +kernel
theorem dX1_put_4 : decode cX1_put 4 = .ok (.ifCond .ne 8, 3) := by decide +kernel
theorem dX1_put_7 : decode cX1_put 7 = .ok (.iload_n 2, 1) := by decide +kernel
theorem dX1_put_8 : decode cX1_put 8 = .ok (.i2b, 1) := by decide +kernel
theorem dX1_put_9 : decode cX1_put 9 = .ok (.goto 17, 3) := by decide +kernel
theorem dX1_put_12 : decode cX1_put 12 = .ok (.aload_n 0, 1) := by decide +kernel
theorem dX1_put_13 : decode cX1_put 13 = .ok (.getfield 15, 3) := by decide +kernel
theorem dX1_put_16 : decode cX1_put 16 = .ok (.iconst 1, 1) := by decide +kernel
theorem dX1_put_17 : decode cX1_put 17 = .ok (.if_icmp .ne 8, 3) := by decide +kernel
theorem dX1_put_20 : decode cX1_put 20 = .ok (.iload_n 2, 1) := by decide +kernel
theorem dX1_put_21 : decode cX1_put 21 = .ok (.i2s, 1) := by decide +kernel
theorem dX1_put_22 : decode cX1_put 22 = .ok (.goto 4, 3) := by decide +kernel
theorem dX1_put_25 : decode cX1_put 25 = .ok (.iload_n 2, 1) := by decide +kernel
theorem dX1_put_26 : decode cX1_put 26 = .ok (.istore_n 3, 1) := by decide +kernel
theorem dX1_put_27 : decode cX1_put 27 = .ok (.aload_n 0, 1) := by decide +kernel
theorem dX1_put_28 : decode cX1_put 28 = .ok (.getfield 9, 3) := by decide +kernel
theorem dX1_put_31 : decode cX1_put 31 = .ok (.iload_n 1, 1) := by decide +kernel
theorem dX1_put_32 : decode cX1_put 32 = .ok (.iload_n 3, 1) := by decide +kernel
theorem dX1_put_33 : decode cX1_put 33 = .ok (.invokestatic 22, 3) := by decide +kernel
theorem dX1_put_36 : decode cX1_put 36 = .ok (.return_, 1) := by decide +kernel
set_option maxRecDepth 20000 in
theorem ggX2_init_X2_reset : GoodIn wsX2_init wsX2_reset := goodIn_r _ [17, 5, 18, 19, 20, 21, 22, 23, 24, 25, 26, 27, 28, 29, 30, 31, 32, 33, 34, 35, 36, 37, 38, 39, 40, 41, 42, 43, 44, 45, 46, 47, 48] (by decide +kernel) (by decide +kernel)
set_option maxRecDepth 20000 in
theorem gX2_init_X2_reset : GoodIn wsX2_init (wsV RX2 36 RX2 yX2_reset wsX2_reset) := goodIn_app (goodIn_of _ (by decide +kernel)) ggX2_init_X2_reset
theorem dX2_init_0 : decode cX2_init 0 = .ok (.aload_n 0, 1) := by decide +kernel
theorem dX2_init_1 : decode cX2_init 1 = .ok (.invokespecial 3, 3) := by decide +kernel
theorem dX2_init_4 : decode cX2_init 4 = .ok (.aload_n 0, 1) := by decide +kernel
theorem dX2_init_5 : decode cX2_init 5 = .ok (.bipush 9, 2) := by decide +kernel
theorem dX2_init_7 : decode cX2_init 7 = .ok (.newarray .int, 2) := by decide +kernel
theorem dX2_init_9 : decode cX2_init 9 = .ok (.putfield 9, 3) := by decide +kernel
theorem dX2_init_12 : decode cX2_init 12 = .ok (.aload_n 0, 1) := by decide +kernel
theorem dX2_init_13 : decode cX2_init 13 = .ok (.bipush 12, 2) := by decide +kernel
theorem dX2_init_15 : decode cX2_init 15 = .ok (.newarray .int, 2) := by decide +kernel
theorem dX2_init_17 : decode cX2_init 17 = .ok (.putfield 15, 3) := by decide +kernel
theorem dX2_init_20 : decode cX2_init 20 = .ok (.aload_n 0, 1) := by decide +kernel
theorem dX2_init_21 : decode cX2_init 21 = .ok (.bipush 12, 2) := by decide +kernel
theorem dX2_init_23 : decode cX2_init 23 = .ok (.newarray .int, 2) := by decide +kernel
theorem dX2_init_25 : decode cX2_init 25 = .ok (.putfield 18, 3) := by decide +kernel
theorem dX2_init_28 : decode cX2_init 28 = .ok (.aload_n 0, 1) := by decide +kernel
theorem dX2_init_29 : decode cX2_init 29 = .ok (.sipush 156, 3) := by decide +kernel
theorem dX2_init_32 : decode cX2_init 32 = .ok (.newarray .int, 2) := by decide +kernel
theorem dX2_init_34 : decode cX2_init 34 = .ok (.putfield 21, 3) := by decide +kernel
theorem dX2_init_37 : decode cX2_init 37 = .ok (.aload_n 0, 1) := by decide +kernel
theorem dX2_init_38 : decode cX2_init 38 = .ok (.sipush 144, 3) := by decide +kernel
theorem dX2_init_41 : decode cX2_init 41 = .ok (.newarray .int, 2) := by decide +kernel
theorem dX2_init_43 : decode cX2_init 43 = .ok (.putfield 24, 3) := by decide +kernel
theorem dX2_init_46 : decode cX2_init 46 = .ok (.aload_n 0, 1) := by decide +kernel
theorem dX2_init_47 : decode cX2_init 47 = .ok (.bipush 12, 2) := by decide +kernel
theorem dX2_init_49 : decode cX2_init 49 = .ok (.newarray .int, 2) := by decide +kernel
theorem dX2_init_51 : decode cX2_init 51 = .ok (.putfield 27, 3) := by decide +kernel
theorem dX2_init_54 : decode cX2_init 54 = .ok (.aload_n 0, 1) := by decide +kernel
theorem dX2_init_55 : decode cX2_init 55 = .ok (.bipush 12, 2) := by decide +kernel
theorem dX2_init_57 : decode cX2_init 57 = .ok (.newarray .int, 2) := by decide +kernel
theorem dX2_init_59 : decode cX2_init 59 = .ok (.putfield 30, 3) := by decide +kernel
theorem dX2_init_62 : decode cX2_init 62 = .ok (.aload_n 0, 1) := by decide +kernel
theorem dX2_init_63 : decode cX2_init 63 = .ok (.bipush 12, 2) := by decide +kernel
theorem dX2_init_65 : decode cX2_init 65 = .ok (.newarray .int, 2) := by decide +kernel
theorem dX2_init_67 : decode cX2_init 67 = .ok (.putfield 33, 3) := by decide +kernel
theorem dX2_init_70 : decode cX2_init 70 = .ok (.aload_n 0, 1) := by decide +kernel
theorem dX2_init_71 : decode cX2_init 71 = .ok (.invokevirtual 36, 3) := by decide +kernel
theorem dX2_init_74 : decode cX2_init 74 = .ok (.return_, 1) := by decide +kernel
set_option maxRecDepth 20000 in
theorem ggX2_reset_X4_copyRow : GoodIn wsX2_reset wsX4_copyRow := goodIn_r _ [10, 11, 12, 13, 14, 15, 16, 17, 18] (by decide +kernel) (by decide +kernel)
set_option maxRecDepth 20000 in
theorem gX2_reset_X4_copyRow_n42 : GoodIn wsX2_reset (wsX4_copyRow) := ggX2_reset_X4_copyRow
theorem dX2_reset_0 : decode cX2_reset 0 = .ok (.getstatic 39, 3) := by decide +kernel
theorem dX2_reset_3 : decode cX2_reset 3 = .ok (.aload_n 0, 1) := by decide +kernel
theorem dX2_reset_4 : decode cX2_reset 4 = .ok (.getfield 9, 3) := by decide +kernel
theorem dX2_reset_7 : decode cX2_reset 7 = .ok (.invokestatic 42, 3) := by decide +kernel
theorem dX2_reset_10 : decode cX2_reset 10 = .ok (.aload_n 0, 1) := by decide +kernel
theorem dX2_reset_11 : decode cX2_reset 11 = .ok (.iconst 0, 1) := by decide +kernel
theorem dX2_reset_12 : decode cX2_reset 12 = .ok (.putfield 46, 3) := by decide +kernel
theorem dX2_reset_15 : decode cX2_reset 15 = .ok (.aload_n 0, 1) := by decide +kernel
theorem dX2_reset_16 : decode cX2_reset 16 = .ok (.iconst 0, 1) := by decide +kernel
theorem dX2_reset_17 : decode cX2_reset 17 = .ok (.putfield 50, 3) := by decide +kernel
theorem dX2_reset_20 : decode cX2_reset 20 = .ok (.aload_n 0, 1) := by decide +kernel
theorem dX2_reset_21 : decode cX2_reset 21 = .ok (.iconst 0, 1) := by decide +kernel
theorem dX2_reset_22 : decode cX2_reset 22 = .ok (.putfield 53, 3) := by decide +kernel
theorem dX2_reset_25 : decode cX2_reset 25 = .ok (.aload_n 0, 1) := by decide +kernel
theorem dX2_reset_26 : decode cX2_reset 26 = .ok (.iconst 0, 1) := by decide +kernel
theorem dX2_reset_27 : decode cX2_reset 27 = .ok (.putfield 56, 3) := by decide +kernel
theorem dX2_reset_30 : decode cX2_reset 30 = .ok (.aload_n 0, 1) := by decide +kernel
theorem dX2_reset_31 : decode cX2_reset 31 = .ok (.bipush (-4), 2) := by decide +kernel
theorem dX2_reset_33 : decode cX2_reset 33 = .ok (.putfield 59, 3) := by decide +kernel
theorem dX2_reset_36 : decode cX2_reset 36 = .ok (.aload_n 0, 1) := by decide +kernel
theorem dX2_reset_37 : decode cX2_reset 37 = .ok (.iconst 0, 1) := by decide +kernel
theorem dX2_reset_38 : decode cX2_reset 38 = .ok (.putfield 62, 3) := by decide +kernel
theorem dX2_reset_41 : decode cX2_reset 41 = .ok (.return_, 1) := by decide +kernel
set_option maxRecDepth 20000 in
theorem ggX2_becomes_X4_copyRow : GoodIn wsX2_becomes wsX4_copyRow := goodIn_r _ [17, 18, 19, 20, 21, 22, 23, 24, 25] (by decide +kernel) (by decide +kernel)
set_option maxRecDepth 20000 in
theorem gX2_becomes_X4_copyRow_n42 : GoodIn wsX2_becomes (wsX4_copyRow) := ggX2_becomes_X4_copyRow
theorem dX2_becomes_0 : decode cX2_becomes 0 = .ok (.aload_n 1, 1) := by decide +kernel
theorem dX2_becomes_1 : decode cX2_becomes 1 = .ok (.ifnonnull 4, 3) := by decide +kernel
theorem dX2_becomes_4 : decode cX2_becomes 4 = .ok (.return_, 1) := by decide +kernel
theorem dX2_becomes_5 : decode cX2_becomes 5 = .ok (.aload_n 1, 1) := by decide +kernel
theorem dX2_becomes_6 : decode cX2_becomes 6 = .ok (.getfield 9, 3) := by decide +kernel
theorem dX2_becomes_9 : decode cX2_becomes 9 = .ok (.aload_n 0, 1) := by decide +kernel
theorem dX2_becomes_10 : decode cX2_becomes 10 = .ok (.getfield 9, 3) := by decide +kernel
theorem dX2_becomes_13 : decode cX2_becomes 13 = .ok (.invokestatic 42, 3) := by decide +kernel
theorem dX2_becomes_16 : decode cX2_becomes 16 = .ok (.aload_n 1, 1) := by decide +kernel
theorem dX2_becomes_17 : decode cX2_becomes 17 = .ok (.getfield 15, 3) := by decide +kernel
theorem dX2_becomes_20 : decode cX2_becomes 20 = .ok (.aload_n 0, 1) := by decide +kernel
theorem dX2_becomes_21 : decode cX2_becomes 21 = .ok (.getfield 15, 3) := by decide +kernel
theorem dX2_becomes_24 : decode cX2_becomes 24 = .ok (.invokestatic 42, 3) := by decide +kernel
theorem dX2_becomes_27 : decode cX2_becomes 27 = .ok (.aload_n 1, 1) := by decide +kernel
theorem dX2_becomes_28 : decode cX2_becomes 28 = .ok (.getfield 18, 3) := by decide +kernel
theorem dX2_becomes_31 : decode cX2_becomes 31 = .ok (.aload_n 0, 1) := by decide +kernel
theorem dX2_becomes_32 : decode cX2_becomes 32 = .ok (.getfield 18, 3) := by decide +kernel
theorem dX2_becomes_35 : decode cX2_becomes 35 = .ok (.invokestatic 42, 3) := by decide +kernel
theorem dX2_becomes_38 : decode cX2_becomes 38 = .ok (.aload_n 1, 1) := by decide +kernel
theorem dX2_becomes_39 : decode cX2_becomes 39 = .ok (.getfield 21, 3) := by decide +kernel
theorem dX2_becomes_42 : decode cX2_becomes 42 = .ok (.aload_n 0, 1) := by decide +kernel
theorem dX2_becomes_43 : decode cX2_becomes 43 = .ok (.getfield 21, 3) := by decide +kernel
theorem dX2_becomes_46 : decode cX2_becomes 46 = .ok (.invokestatic 42, 3) := by decide +kernel
theorem dX2_becomes_49 : decode cX2_becomes 49 = .ok (.aload_n 1, 1) := by decide +kernel
theorem dX2_becomes_50 : decode cX2_becomes 50 = .ok (.getfield 24, 3) := by decide +kernel
theorem dX2_becomes_53 : decode cX2_becomes 53 = .ok (.aload_n 0, 1) := by decide +kernel
theorem dX2_becomes_54 : decode cX2_becomes 54 = .ok (.getfield 24, 3) := by decide +kernel
theorem dX2_becomes_57 : decode cX2_becomes 57 = .ok (.invokestatic 42, 3) := by decide +kernel
theorem dX2_becomes_60 : decode cX2_becomes 60 = .ok (.aload_n 1, 1) := by decide +kernel
theorem dX2_becomes_61 : decode cX2_becomes 61 = .ok (.getfield 27, 3) := by decide +kernel
theorem dX2_becomes_64 : decode cX2_becomes 64 = .ok (.aload_n 0, 1) := by decide +kernel
theorem dX2_becomes_65 : decode cX2_becomes 65 = .ok (.getfield 27, 3) := by decide +kernel
theorem dX2_becomes_68 : decode cX2_becomes 68 = .ok (.invokestatic 42, 3) := by decide +kernel
theorem dX2_becomes_71 : decode cX2_becomes 71 = .ok (.aload_n 1, 1) := by decide +kernel
theorem dX2_becomes_72 : decode cX2_becomes 72 = .ok (.getfield 30, 3) := by decide +kernel
theorem dX2_becomes_75 : decode cX2_becomes 75 = .ok (.aload_n 0, 1) := by decide +kernel
theorem dX2_becomes_76 : decode cX2_becomes 76 = .ok (.getfield 30, 3) := by decide +kernel
theorem dX2_becomes_79 : decode cX2_becomes 79 = .ok (.invokestatic 42, 3) := by decide +kernel
theorem dX2_becomes_82 : decode cX2_becomes 82 = .ok (.aload_n 1, 1) := by decide +kernel
theorem dX2_becomes_83 : decode cX2_becomes 83 = .ok (.getfield 33, 3) := by decide +kernel
theorem dX2_becomes_86 : decode cX2_becomes 86 = .ok (.aload_n 0, 1) := by decide +kernel
theorem dX2_becomes_87 : decode cX2_becomes 87 = .ok (.getfield 33, 3) := by decide +kernel
theorem dX2_becomes_90 : decode cX2_becomes 90 = .ok (.invokestatic 42, 3) := by decide +kernel
theorem dX2_becomes_93 : decode cX2_becomes 93 = .ok (.aload_n 0, 1) := by decide +kernel
theorem dX2_becomes_94 : decode cX2_becomes 94 = .ok (.aload_n 1, 1) := by decide +kernel
theorem dX2_becomes_95 : decode cX2_becomes 95 = .ok (.getfield 46, 3) := by decide +kernel
theorem dX2_becomes_98 : decode cX2_becomes 98 = .ok (.putfield 46, 3) := by decide +kernel
theorem dX2_becomes_101 : decode cX2_becomes 101 = .ok (.aload_n 0, 1) := by decide +kernel
theorem dX2_becomes_102 : decode cX2_becomes 102 = .ok (.aload_n 1, 1) := by decide +kernel
theorem dX2_becomes_103 : decode cX2_becomes 103 = .ok (.getfield 50, 3) := by decide +kernel
theorem dX2_becomes_106 : decode cX2_becomes 106 = .ok (.putfield 50, 3) := by decide +kernel
theorem dX2_becomes_109 : decode cX2_becomes 109 = .ok (.aload_n 0, 1) := by decide +kernel
theorem dX2_becomes_110 : decode cX2_becomes 110 = .ok (.aload_n 1, 1) := by decide +kernel
theorem dX2_becomes_111 : decode cX2_becomes 111 = .ok (.getfield 53, 3) := by decide +kernel
theorem dX2_becomes_114 : decode cX2_becomes 114 = .ok (.putfield 53, 3) := by decide +kernel
theorem dX2_becomes_117 : decode cX2_becomes 117 = .ok (.aload_n 0, 1) := by decide +kernel
theorem dX2_becomes_118 : decode cX2_becomes 118 = .ok (.aload_n 1, 1) := by decide +kernel
theorem dX2_becomes_119 : decode cX2_becomes 119 = .ok (.getfield 56, 3) := by decide +kernel
theorem dX2_becomes_122 : decode cX2_becomes 122 = .ok (.putfield 56, 3) := by decide +kernel
theorem dX2_becomes_125 : decode cX2_becomes 125 = .ok (.aload_n 0, 1) := by decide +kernel
theorem dX2_becomes_126 : decode cX2_becomes 126 = .ok (.aload_n 1, 1) := by decide +kernel
theorem dX2_becomes_127 : decode cX2_becomes 127 = .ok (.getfield 59, 3) := by decide +kernel
theorem dX2_becomes_130 : decode cX2_becomes 130 = .ok (.putfield 59, 3) := by decide +kernel
theorem dX2_becomes_133 : decode cX2_becomes 133 = .ok (.aload_n 0, 1) := by decide +kernel
theorem dX2_becomes_134 : decode cX2_becomes 134 = .ok (.aload_n 1, 1) := by decide +kernel
theorem dX2_becomes_135 : decode cX2_becomes 135 = .ok (.getfield 62, 3) := by decide +kernel
theorem dX2_becomes_138 : decode cX2_becomes 138 = .ok (.putfield 62, 3) := by decide +kernel
theorem dX2_becomes_141 : decode cX2_becomes 141 = .ok (.return_, 1) := by decide +kernel
theorem dX2_ruled_0 : decode cX2_ruled 0 = .ok (.iload_n 1, 1) := by decide +kernel
theorem dX2_ruled_1 : decode cX2_ruled 1 = .ok (.ifCond .lt 21, 3) := by decide +kernel
theorem dX2_ruled_4 : decode cX2_ruled 4 = .ok (.iload_n 1, 1) := by decide +kernel
theorem dX2_ruled_5 : decode cX2_ruled 5 = .ok (.aload_n 0, 1) := by decide +kernel
theorem dX2_ruled_6 : decode cX2_ruled 6 = .ok (.getfield 9, 3) := by decide +kernel
theorem dX2_ruled_9 : decode cX2_ruled 9 = .ok (.arraylength, 1) := by decide +kernel
theorem dX2_ruled_10 : decode cX2_ruled 10 = .ok (.if_icmp .ge 12, 3) := by decide +kernel
theorem dX2_ruled_13 : decode cX2_ruled 13 = .ok (.aload_n 0, 1) := by decide +kernel
theorem dX2_ruled_14 : decode cX2_ruled 14 = .ok (.getfield 9, 3) := by decide +kernel
theorem dX2_ruled_17 : decode cX2_ruled 17 = .ok (.iload_n 1, 1) := by decide +kernel
theorem dX2_ruled_18 : decode cX2_ruled 18 = .ok (.iaload, 1) := by decide +kernel
theorem dX2_ruled_19 : decode cX2_ruled 19 = .ok (.goto 4, 3) := by decide +kernel
theorem dX2_ruled_22 : decode cX2_ruled 22 = .ok (.iconst 0, 1) := by decide +kernel
theorem dX2_ruled_23 : decode cX2_ruled 23 = .ok (.ireturn, 1) := by decide +kernel
set_option maxRecDepth 20000 in
theorem ggX2_hasPlace_X2_ruled : GoodIn wsX2_hasPlace wsX2_ruled := goodIn_r _ [5, 6, 10, 11, 12, 13, 14, 15, 16, 17, 18, 19, 20, 21, 22, 23] (by decide +kernel) (by decide +kernel)
set_option maxRecDepth 20000 in
theorem gX2_hasPlace_X2_ruled : GoodIn wsX2_hasPlace (wsV RX2 65 RX2 yX2_ruled wsX2_ruled) := goodIn_app (goodIn_of _ (by decide +kernel)) ggX2_hasPlace_X2_ruled
set_option maxRecDepth 20000 in
theorem ggX2_hasPlace_X4_isBetween : GoodIn wsX2_hasPlace wsX4_isBetween := goodIn_r _ [9] (by decide +kernel) (by decide +kernel)
set_option maxRecDepth 20000 in
theorem gX2_hasPlace_X4_isBetween_n69 : GoodIn wsX2_hasPlace (wsX4_isBetween) := ggX2_hasPlace_X4_isBetween
theorem dX2_hasPlace_0 : decode cX2_hasPlace 0 = .ok (.iload_n 1, 1) := by decide +kernel
theorem dX2_hasPlace_1 : decode cX2_hasPlace 1 = .ok (.iconst 0, 1) := by decide +kernel
theorem dX2_hasPlace_2 : decode cX2_hasPlace 2 = .ok (.aload_n 0, 1) := by decide +kernel
theorem dX2_hasPlace_3 : decode cX2_hasPlace 3 = .ok (.iconst 0, 1) := by decide +kernel
theorem dX2_hasPlace_4 : decode cX2_hasPlace 4 = .ok (.invokevirtual 65, 3) := by decide +kernel
theorem dX2_hasPlace_7 : decode cX2_hasPlace 7 = .ok (.invokestatic 69, 3) := by decide +kernel
theorem dX2_hasPlace_10 : decode cX2_hasPlace 10 = .ok (.ireturn, 1) := by decide +kernel
set_option maxRecDepth 20000 in
theorem ggX2_turnsOf_X2_ruled : GoodIn wsX2_turnsOf wsX2_ruled := goodIn_r _ [5, 6, 10, 11, 12, 13, 14, 15, 16, 17, 18, 19, 20, 21, 22, 23] (by decide +kernel) (by decide +kernel)
set_option maxRecDepth 20000 in
theorem gX2_turnsOf_X2_ruled : GoodIn wsX2_turnsOf (wsV RX2 65 RX2 yX2_ruled wsX2_ruled) := goodIn_app (goodIn_of _ (by decide +kernel)) ggX2_turnsOf_X2_ruled
set_option maxRecDepth 20000 in
theorem ggX2_turnsOf_X4_lengthOfTurns : GoodIn wsX2_turnsOf wsX4_lengthOfTurns := goodIn_r _ [9] (by decide +kernel) (by decide +kernel)
set_option maxRecDepth 20000 in
theorem gX2_turnsOf_X4_lengthOfTurns_n73 : GoodIn wsX2_turnsOf (wsX4_lengthOfTurns) := ggX2_turnsOf_X4_lengthOfTurns
theorem dX2_turnsOf_0 : decode cX2_turnsOf 0 = .ok (.aload_n 0, 1) := by decide +kernel
theorem dX2_turnsOf_1 : decode cX2_turnsOf 1 = .ok (.iconst 1, 1) := by decide +kernel
theorem dX2_turnsOf_2 : decode cX2_turnsOf 2 = .ok (.invokevirtual 65, 3) := by decide +kernel
theorem dX2_turnsOf_5 : decode cX2_turnsOf 5 = .ok (.istore_n 2, 1) := by decide +kernel
theorem dX2_turnsOf_6 : decode cX2_turnsOf 6 = .ok (.aload_n 0, 1) := by decide +kernel
theorem dX2_turnsOf_7 : decode cX2_turnsOf 7 = .ok (.iconst 2, 1) := by decide +kernel
theorem dX2_turnsOf_8 : decode cX2_turnsOf 8 = .ok (.invokevirtual 65, 3) := by decide +kernel
theorem dX2_turnsOf_11 : decode cX2_turnsOf 11 = .ok (.istore_n 3, 1) := by decide +kernel
theorem dX2_turnsOf_12 : decode cX2_turnsOf 12 = .ok (.iconst 0, 1) := by decide +kernel
theorem dX2_turnsOf_13 : decode cX2_turnsOf 13 = .ok (.istore 4, 2) := by decide +kernel
theorem dX2_turnsOf_15 : decode cX2_turnsOf 15 = .ok (.sipush 1024, 3) := by decide +kernel
theorem dX2_turnsOf_18 : decode cX2_turnsOf 18 = .ok (.istore 5, 2) := by decide +kernel
theorem dX2_turnsOf_20 : decode cX2_turnsOf 20 = .ok (.iload 5, 2) := by decide +kernel
theorem dX2_turnsOf_22 : decode cX2_turnsOf 22 = .ok (.ifCond .le 33, 3) := by decide +kernel
theorem dX2_turnsOf_25 : decode cX2_turnsOf 25 = .ok (.iload 4, 2) := by decide +kernel
theorem dX2_turnsOf_27 : decode cX2_turnsOf 27 = .ok (.iload 5, 2) := by decide +kernel
theorem dX2_turnsOf_29 : decode cX2_turnsOf 29 = .ok (.iadd, 1) := by decide +kernel
theorem dX2_turnsOf_30 : decode cX2_turnsOf 30 = .ok (.iload_n 2, 1) := by decide +kernel
theorem dX2_turnsOf_31 : decode cX2_turnsOf 31 = .ok (.iload_n 3, 1) := by decide +kernel
theorem dX2_turnsOf_32 : decode cX2_turnsOf 32 = .ok (.invokestatic 73, 3) := by decide +kernel
theorem dX2_turnsOf_35 : decode cX2_turnsOf 35 = .ok (.iload_n 1, 1) := by decide +kernel
theorem dX2_turnsOf_36 : decode cX2_turnsOf 36 = .ok (.if_icmp .gt 10, 3) := by decide +kernel
theorem dX2_turnsOf_39 : decode cX2_turnsOf 39 = .ok (.iload 4, 2) := by decide +kernel
theorem dX2_turnsOf_41 : decode cX2_turnsOf 41 = .ok (.iload 5, 2) := by decide +kernel
theorem dX2_turnsOf_43 : decode cX2_turnsOf 43 = .ok (.iadd, 1) := by decide +kernel
theorem dX2_turnsOf_44 : decode cX2_turnsOf 44 = .ok (.istore 4, 2) := by decide +kernel
theorem dX2_turnsOf_46 : decode cX2_turnsOf 46 = .ok (.iload 5, 2) := by decide +kernel
theorem dX2_turnsOf_48 : decode cX2_turnsOf 48 = .ok (.iconst 2, 1) := by decide +kernel
theorem dX2_turnsOf_49 : decode cX2_turnsOf 49 = .ok (.idiv, 1) := by decide +kernel
theorem dX2_turnsOf_50 : decode cX2_turnsOf 50 = .ok (.istore 5, 2) := by decide +kernel
theorem dX2_turnsOf_52 : decode cX2_turnsOf 52 = .ok (.goto (-32), 3) := by decide +kernel
theorem dX2_turnsOf_55 : decode cX2_turnsOf 55 = .ok (.iload 4, 2) := by decide +kernel
theorem dX2_turnsOf_57 : decode cX2_turnsOf 57 = .ok (.ireturn, 1) := by decide +kernel
set_option maxRecDepth 20000 in
theorem ggX2_rightTurns_X2_turnsOf : GoodIn wsX2_rightTurns wsX2_turnsOf := goodIn_r _ [5, 6, 7, 8, 4, 9, 10, 11, 12, 13, 14, 15, 16, 17, 18, 19, 20, 21, 22, 23, 24, 25, 26, 27] (by decide +kernel) (by decide +kernel)
set_option maxRecDepth 20000 in
theorem gX2_rightTurns_X2_turnsOf : GoodIn wsX2_rightTurns (wsV RX2 77 RX2 yX2_turnsOf wsX2_turnsOf) := goodIn_app (goodIn_of _ (by decide +kernel)) ggX2_rightTurns_X2_turnsOf
theorem dX2_rightTurns_0 : decode cX2_rightTurns 0 = .ok (.aload_n 0, 1) := by decide +kernel
theorem dX2_rightTurns_1 : decode cX2_rightTurns 1 = .ok (.iload_n 1, 1) := by decide +kernel
theorem dX2_rightTurns_2 : decode cX2_rightTurns 2 = .ok (.invokevirtual 77, 3) := by decide +kernel
theorem dX2_rightTurns_5 : decode cX2_rightTurns 5 = .ok (.ireturn, 1) := by decide +kernel
set_option maxRecDepth 20000 in
theorem ggX2_leftTurns_X2_ruled : GoodIn wsX2_leftTurns wsX2_ruled := goodIn_r _ [5, 6, 14, 15, 16, 17, 18, 19, 20, 21, 22, 23, 24, 25, 26, 27] (by decide +kernel) (by decide +kernel)
set_option maxRecDepth 20000 in
theorem gX2_leftTurns_X2_ruled : GoodIn wsX2_leftTurns (wsV RX2 65 RX2 yX2_ruled wsX2_ruled) := goodIn_app (goodIn_of _ (by decide +kernel)) ggX2_leftTurns_X2_ruled
set_option maxRecDepth 20000 in
theorem ggX2_leftTurns_X2_turnsOf : GoodIn wsX2_leftTurns wsX2_turnsOf := goodIn_r _ [10, 1, 2, 3, 4, 5, 6, 11, 12, 13, 14, 15, 16, 17, 18, 19, 20, 21, 22, 23, 24, 25, 26, 27] (by decide +kernel) (by decide +kernel)
set_option maxRecDepth 20000 in
theorem gX2_leftTurns_X2_turnsOf : GoodIn wsX2_leftTurns (wsV RX2 77 RX2 yX2_turnsOf wsX2_turnsOf) := goodIn_app (goodIn_of _ (by decide +kernel)) ggX2_leftTurns_X2_turnsOf
theorem dX2_leftTurns_0 : decode cX2_leftTurns 0 = .ok (.aload_n 0, 1) := by decide +kernel
theorem dX2_leftTurns_1 : decode cX2_leftTurns 1 = .ok (.aload_n 0, 1) := by decide +kernel
theorem dX2_leftTurns_2 : decode cX2_leftTurns 2 = .ok (.iconst 0, 1) := by decide +kernel
theorem dX2_leftTurns_3 : decode cX2_leftTurns 3 = .ok (.invokevirtual 65, 3) := by decide +kernel
theorem dX2_leftTurns_6 : decode cX2_leftTurns 6 = .ok (.iload_n 1, 1) := by decide +kernel
theorem dX2_leftTurns_7 : decode cX2_leftTurns 7 = .ok (.isub, 1) := by decide +kernel
theorem dX2_leftTurns_8 : decode cX2_leftTurns 8 = .ok (.invokevirtual 77, 3) := by decide +kernel
theorem dX2_leftTurns_11 : decode cX2_leftTurns 11 = .ok (.ireturn, 1) := by decide +kernel
set_option maxRecDepth 20000 in
theorem ggX2_firstShowing_X2_ruled : GoodIn wsX2_firstShowing wsX2_ruled := goodIn_r _ [5, 6, 16, 17, 18, 19, 20, 21, 22, 23, 24, 25, 26, 27, 28, 29] (by decide +kernel) (by decide +kernel)
set_option maxRecDepth 20000 in
theorem gX2_firstShowing_X2_ruled : GoodIn wsX2_firstShowing (wsV RX2 65 RX2 yX2_ruled wsX2_ruled) := goodIn_app (goodIn_of _ (by decide +kernel)) ggX2_firstShowing_X2_ruled
set_option maxRecDepth 20000 in
theorem ggX2_firstShowing_X4_lengthOfTurns : GoodIn wsX2_firstShowing wsX4_lengthOfTurns := goodIn_r _ [9] (by decide +kernel) (by decide +kernel)
set_option maxRecDepth 20000 in
theorem gX2_firstShowing_X4_lengthOfTurns_n73 : GoodIn wsX2_firstShowing (wsX4_lengthOfTurns) := ggX2_firstShowing_X4_lengthOfTurns
set_option maxRecDepth 20000 in
theorem ggX2_firstShowing_X2_hasPlace : GoodIn wsX2_firstShowing wsX2_hasPlace := goodIn_r _ [13, 1, 2, 3, 4, 5, 6, 14, 8, 15, 16, 17, 18, 19, 20, 21, 22, 23, 24, 25, 26, 27, 28, 29] (by decide +kernel) (by decide +kernel)
set_option maxRecDepth 20000 in
theorem gX2_firstShowing_X2_hasPlace : GoodIn wsX2_firstShowing (wsV RX2 80 RX2 yX2_hasPlace wsX2_hasPlace) := goodIn_app (goodIn_of _ (by decide +kernel)) ggX2_firstShowing_X2_hasPlace
theorem dX2_firstShowing_0 : decode cX2_firstShowing 0 = .ok (.iload_n 1, 1) := by decide +kernel
theorem dX2_firstShowing_1 : decode cX2_firstShowing 1 = .ok (.aload_n 0, 1) := by decide +kernel
theorem dX2_firstShowing_2 : decode cX2_firstShowing 2 = .ok (.iconst 0, 1) := by decide +kernel
theorem dX2_firstShowing_3 : decode cX2_firstShowing 3 = .ok (.invokevirtual 65, 3) := by decide +kernel
theorem dX2_firstShowing_6 : decode cX2_firstShowing 6 = .ok (.if_icmp .le 6, 3) := by decide +kernel
theorem dX2_firstShowing_9 : decode cX2_firstShowing 9 = .ok (.bipush (-4), 2) := by decide +kernel
theorem dX2_firstShowing_11 : decode cX2_firstShowing 11 = .ok (.ireturn, 1) := by decide +kernel
theorem dX2_firstShowing_12 : decode cX2_firstShowing 12 = .ok (.iload_n 1, 1) := by decide +kernel
theorem dX2_firstShowing_13 : decode cX2_firstShowing 13 = .ok (.aload_n 0, 1) := by decide +kernel
theorem dX2_firstShowing_14 : decode cX2_firstShowing 14 = .ok (.iconst 1, 1) := by decide +kernel
theorem dX2_firstShowing_15 : decode cX2_firstShowing 15 = .ok (.invokevirtual 65, 3) := by decide +kernel
theorem dX2_firstShowing_18 : decode cX2_firstShowing 18 = .ok (.aload_n 0, 1) := by decide +kernel
theorem dX2_firstShowing_19 : decode cX2_firstShowing 19 = .ok (.iconst 2, 1) := by decide +kernel
theorem dX2_firstShowing_20 : decode cX2_firstShowing 20 = .ok (.invokevirtual 65, 3) := by decide +kernel
theorem dX2_firstShowing_23 : decode cX2_firstShowing 23 = .ok (.invokestatic 73, 3) := by decide +kernel
theorem dX2_firstShowing_26 : decode cX2_firstShowing 26 = .ok (.istore_n 2, 1) := by decide +kernel
theorem dX2_firstShowing_27 : decode cX2_firstShowing 27 = .ok (.aload_n 0, 1) := by decide +kernel
theorem dX2_firstShowing_28 : decode cX2_firstShowing 28 = .ok (.iload_n 2, 1) := by decide +kernel
theorem dX2_firstShowing_29 : decode cX2_firstShowing 29 = .ok (.invokevirtual 80, 3) := by decide +kernel
theorem dX2_firstShowing_32 : decode cX2_firstShowing 32 = .ok (.ifCond .eq 7, 3) := by decide +kernel
theorem dX2_firstShowing_35 : decode cX2_firstShowing 35 = .ok (.iload_n 2, 1) := by decide +kernel
theorem dX2_firstShowing_36 : decode cX2_firstShowing 36 = .ok (.goto 5, 3) := by decide +kernel
theorem dX2_firstShowing_39 : decode cX2_firstShowing 39 = .ok (.bipush (-4), 2) := by decide +kernel
theorem dX2_firstShowing_41 : decode cX2_firstShowing 41 = .ok (.ireturn, 1) := by decide +kernel
set_option maxRecDepth 20000 in
theorem ggX2_lastShowing_X2_firstShowing : GoodIn wsX2_lastShowing wsX2_firstShowing := goodIn_r _ [9, 10, 11, 12, 8, 13, 14, 15, 16, 17, 18, 19, 20, 21, 22, 23, 24, 25, 26, 27, 28, 29, 30, 31, 32, 33, 34, 35, 36, 37] (by decide +kernel) (by decide +kernel)
set_option maxRecDepth 20000 in
theorem gX2_lastShowing_X2_firstShowing : GoodIn wsX2_lastShowing (wsV RX2 84 RX2 yX2_firstShowing wsX2_firstShowing) := goodIn_app (goodIn_of _ (by decide +kernel)) ggX2_lastShowing_X2_firstShowing
set_option maxRecDepth 20000 in
theorem ggX2_lastShowing_X2_ruled : GoodIn wsX2_lastShowing wsX2_ruled := goodIn_r _ [13, 14, 24, 25, 26, 27, 28, 29, 30, 31, 32, 33, 34, 35, 36, 37] (by decide +kernel) (by decide +kernel)
set_option maxRecDepth 20000 in
theorem gX2_lastShowing_X2_ruled : GoodIn wsX2_lastShowing (wsV RX2 65 RX2 yX2_ruled wsX2_ruled) := goodIn_app (goodIn_of _ (by decide +kernel)) ggX2_lastShowing_X2_ruled
set_option maxRecDepth 20000 in
theorem ggX2_lastShowing_X4_lengthOfTurns : GoodIn wsX2_lastShowing wsX4_lengthOfTurns := goodIn_r _ [17] (by decide +kernel) (by decide +kernel)
set_option maxRecDepth 20000 in
theorem gX2_lastShowing_X4_lengthOfTurns_n73 : GoodIn wsX2_lastShowing (wsX4_lengthOfTurns) := ggX2_lastShowing_X4_lengthOfTurns
theorem dX2_lastShowing_0 : decode cX2_lastShowing 0 = .ok (.aload_n 0, 1) := by decide +kernel
theorem dX2_lastShowing_1 : decode cX2_lastShowing 1 = .ok (.iload_n 1, 1) := by decide +kernel
theorem dX2_lastShowing_2 : decode cX2_lastShowing 2 = .ok (.invokevirtual 84, 3) := by decide +kernel
theorem dX2_lastShowing_5 : decode cX2_lastShowing 5 = .ok (.bipush (-4), 2) := by decide +kernel
theorem dX2_lastShowing_7 : decode cX2_lastShowing 7 = .ok (.if_icmp .ne 6, 3) := by decide +kernel
theorem dX2_lastShowing_10 : decode cX2_lastShowing 10 = .ok (.bipush (-4), 2) := by decide +kernel
theorem dX2_lastShowing_12 : decode cX2_lastShowing 12 = .ok (.ireturn, 1) := by decide +kernel
theorem dX2_lastShowing_13 : decode cX2_lastShowing 13 = .ok (.aload_n 0, 1) := by decide +kernel
theorem dX2_lastShowing_14 : decode cX2_lastShowing 14 = .ok (.iconst 0, 1) := by decide +kernel
theorem dX2_lastShowing_15 : decode cX2_lastShowing 15 = .ok (.invokevirtual 65, 3) := by decide +kernel
theorem dX2_lastShowing_18 : decode cX2_lastShowing 18 = .ok (.iload_n 1, 1) := by decide +kernel
theorem dX2_lastShowing_19 : decode cX2_lastShowing 19 = .ok (.iconst 1, 1) := by decide +kernel
theorem dX2_lastShowing_20 : decode cX2_lastShowing 20 = .ok (.iadd, 1) := by decide +kernel
theorem dX2_lastShowing_21 : decode cX2_lastShowing 21 = .ok (.aload_n 0, 1) := by decide +kernel
theorem dX2_lastShowing_22 : decode cX2_lastShowing 22 = .ok (.iconst 1, 1) := by decide +kernel
theorem dX2_lastShowing_23 : decode cX2_lastShowing 23 = .ok (.invokevirtual 65, 3) := by decide +kernel
theorem dX2_lastShowing_26 : decode cX2_lastShowing 26 = .ok (.aload_n 0, 1) := by decide +kernel
theorem dX2_lastShowing_27 : decode cX2_lastShowing 27 = .ok (.iconst 2, 1) := by decide +kernel
theorem dX2_lastShowing_28 : decode cX2_lastShowing 28 = .ok (.invokevirtual 65, 3) := by decide +kernel
theorem dX2_lastShowing_31 : decode cX2_lastShowing 31 = .ok (.invokestatic 73, 3) := by decide +kernel
theorem dX2_lastShowing_34 : decode cX2_lastShowing 34 = .ok (.iconst 1, 1) := by decide +kernel
theorem dX2_lastShowing_35 : decode cX2_lastShowing 35 = .ok (.isub, 1) := by decide +kernel
theorem dX2_lastShowing_36 : decode cX2_lastShowing 36 = .ok (.invokestatic 87, 3) := by decide +kernel
theorem dX2_lastShowing_39 : decode cX2_lastShowing 39 = .ok (.ireturn, 1) := by decide +kernel
set_option maxRecDepth 20000 in
theorem ggX2_meetingPlace_X2_ruled : GoodIn wsX2_meetingPlace wsX2_ruled := goodIn_r _ [5, 6, 22, 23, 24, 25, 26, 27, 28, 29, 30, 31, 32, 33, 34, 35] (by decide +kernel) (by decide +kernel)
set_option maxRecDepth 20000 in
theorem gX2_meetingPlace_X2_ruled : GoodIn wsX2_meetingPlace (wsV RX2 65 RX2 yX2_ruled wsX2_ruled) := goodIn_app (goodIn_of _ (by decide +kernel)) ggX2_meetingPlace_X2_ruled
set_option maxRecDepth 20000 in
theorem ggX2_meetingPlace_X2_rightTurns : GoodIn wsX2_meetingPlace wsX2_rightTurns := goodIn_r _ [10, 11, 12, 13, 4, 14, 1, 2, 3, 5, 6, 15, 16, 17, 22, 23, 24, 25, 26, 27, 28, 29, 30, 31, 32, 33, 34, 35] (by decide +kernel) (by decide +kernel)
set_option maxRecDepth 20000 in
theorem gX2_meetingPlace_X2_rightTurns : GoodIn wsX2_meetingPlace (wsV RX2 93 RX2 yX2_rightTurns wsX2_rightTurns) := goodIn_app (goodIn_of _ (by decide +kernel)) ggX2_meetingPlace_X2_rightTurns
set_option maxRecDepth 20000 in
theorem ggX2_meetingPlace_X2_leftTurns : GoodIn wsX2_meetingPlace wsX2_leftTurns := goodIn_r _ [21, 1, 2, 3, 4, 5, 6, 11, 12, 13, 14, 15, 16, 17, 22, 23, 24, 25, 26, 27, 28, 29, 30, 31, 32, 33, 34, 35] (by decide +kernel) (by decide +kernel)
set_option maxRecDepth 20000 in
theorem gX2_meetingPlace_X2_leftTurns : GoodIn wsX2_meetingPlace (wsV RX2 96 RX2 yX2_leftTurns wsX2_leftTurns) := goodIn_app (goodIn_of _ (by decide +kernel)) ggX2_meetingPlace_X2_leftTurns
theorem dX2_meetingPlace_0 : decode cX2_meetingPlace 0 = .ok (.iconst 0, 1) := by decide +kernel
theorem dX2_meetingPlace_1 : decode cX2_meetingPlace 1 = .ok (.istore_n 1, 1) := by decide +kernel
theorem dX2_meetingPlace_2 : decode cX2_meetingPlace 2 = .ok (.aload_n 0, 1) := by decide +kernel
theorem dX2_meetingPlace_3 : decode cX2_meetingPlace 3 = .ok (.iconst 0, 1) := by decide +kernel
theorem dX2_meetingPlace_4 : decode cX2_meetingPlace 4 = .ok (.invokevirtual 65, 3) := by decide +kernel
theorem dX2_meetingPlace_7 : decode cX2_meetingPlace 7 = .ok (.istore_n 2, 1) := by decide +kernel
theorem dX2_meetingPlace_8 : decode cX2_meetingPlace 8 = .ok (.iconst 0, 1) := by decide +kernel
theorem dX2_meetingPlace_9 : decode cX2_meetingPlace 9 = .ok (.istore_n 3, 1) := by decide +kernel
theorem dX2_meetingPlace_10 : decode cX2_meetingPlace 10 = .ok (.iload_n 3, 1) := by decide +kernel
theorem dX2_meetingPlace_11 : decode cX2_meetingPlace 11 = .ok (.bipush 32, 2) := by decide +kernel
theorem dX2_meetingPlace_13 : decode cX2_meetingPlace 13 = .ok (.if_icmp .ge 47, 3) := by decide +kernel
theorem dX2_meetingPlace_16 : decode cX2_meetingPlace 16 = .ok (.iload_n 1, 1) := by decide +kernel
theorem dX2_meetingPlace_17 : decode cX2_meetingPlace 17 = .ok (.iload_n 2, 1) := by decide +kernel
theorem dX2_meetingPlace_18 : decode cX2_meetingPlace 18 = .ok (.if_icmp .ge 42, 3) := by decide +kernel
theorem dX2_meetingPlace_21 : decode cX2_meetingPlace 21 = .ok (.iload_n 1, 1) := by decide +kernel
theorem dX2_meetingPlace_22 : decode cX2_meetingPlace 22 = .ok (.iload_n 2, 1) := by decide +kernel
theorem dX2_meetingPlace_23 : decode cX2_meetingPlace 23 = .ok (.iadd, 1) := by decide +kernel
theorem dX2_meetingPlace_24 : decode cX2_meetingPlace 24 = .ok (.iconst 2, 1) := by decide +kernel
theorem dX2_meetingPlace_25 : decode cX2_meetingPlace 25 = .ok (.idiv, 1) := by decide +kernel
theorem dX2_meetingPlace_26 : decode cX2_meetingPlace 26 = .ok (.istore 4, 2) := by decide +kernel
theorem dX2_meetingPlace_28 : decode cX2_meetingPlace 28 = .ok (.aload_n 0, 1) := by decide +kernel
theorem dX2_meetingPlace_29 : decode cX2_meetingPlace 29 = .ok (.iload 4, 2) := by decide +kernel
theorem dX2_meetingPlace_31 : decode cX2_meetingPlace 31 = .ok (.invokevirtual 93, 3) := by decide +kernel
theorem dX2_meetingPlace_34 : decode cX2_meetingPlace 34 = .ok (.aload_n 0, 1) := by decide +kernel
theorem dX2_meetingPlace_35 : decode cX2_meetingPlace 35 = .ok (.iload 4, 2) := by decide +kernel
theorem dX2_meetingPlace_37 : decode cX2_meetingPlace 37 = .ok (.invokevirtual 96, 3) := by decide +kernel
theorem dX2_meetingPlace_40 : decode cX2_meetingPlace 40 = .ok (.if_icmp .lt 9, 3) := by decide +kernel
theorem dX2_meetingPlace_43 : decode cX2_meetingPlace 43 = .ok (.iload 4, 2) := by decide +kernel
theorem dX2_meetingPlace_45 : decode cX2_meetingPlace 45 = .ok (.istore_n 2, 1) := by decide +kernel
theorem dX2_meetingPlace_46 : decode cX2_meetingPlace 46 = .ok (.goto 8, 3) := by decide +kernel
theorem dX2_meetingPlace_49 : decode cX2_meetingPlace 49 = .ok (.iload 4, 2) := by decide +kernel
theorem dX2_meetingPlace_51 : decode cX2_meetingPlace 51 = .ok (.iconst 1, 1) := by decide +kernel
theorem dX2_meetingPlace_52 : decode cX2_meetingPlace 52 = .ok (.iadd, 1) := by decide +kernel
theorem dX2_meetingPlace_53 : decode cX2_meetingPlace 53 = .ok (.istore_n 1, 1) := by decide +kernel
theorem dX2_meetingPlace_54 : decode cX2_meetingPlace 54 = .ok (.iinc 3 1, 3) := by decide +kernel
theorem dX2_meetingPlace_57 : decode cX2_meetingPlace 57 = .ok (.goto (-47), 3) := by decide +kernel
theorem dX2_meetingPlace_60 : decode cX2_meetingPlace 60 = .ok (.iload_n 1, 1) := by decide +kernel
theorem dX2_meetingPlace_61 : decode cX2_meetingPlace 61 = .ok (.ireturn, 1) := by decide +kernel
set_option maxRecDepth 20000 in
theorem ggX2_playedThrough_X2_ruled : GoodIn wsX2_playedThrough wsX2_ruled := goodIn_r _ [5, 6, 7, 8, 9, 10, 11, 12, 13, 14, 15, 16, 17, 18, 19, 20] (by decide +kernel) (by decide +kernel)
set_option maxRecDepth 20000 in
theorem gX2_playedThrough_X2_ruled : GoodIn wsX2_playedThrough (wsV RX2 65 RX2 yX2_ruled wsX2_ruled) := goodIn_app (goodIn_of _ (by decide +kernel)) ggX2_playedThrough_X2_ruled
theorem dX2_playedThrough_0 : decode cX2_playedThrough 0 = .ok (.aload_n 0, 1) := by decide +kernel
theorem dX2_playedThrough_1 : decode cX2_playedThrough 1 = .ok (.iconst 3, 1) := by decide +kernel
theorem dX2_playedThrough_2 : decode cX2_playedThrough 2 = .ok (.invokevirtual 65, 3) := by decide +kernel
theorem dX2_playedThrough_5 : decode cX2_playedThrough 5 = .ok (.iload_n 1, 1) := by decide +kernel
theorem dX2_playedThrough_6 : decode cX2_playedThrough 6 = .ok (.imul, 1) := by decide +kernel
theorem dX2_playedThrough_7 : decode cX2_playedThrough 7 = .ok (.ireturn, 1) := by decide +kernel
set_option maxRecDepth 20000 in
theorem ggX2_played_X2_ruled : GoodIn wsX2_played wsX2_ruled := goodIn_r _ [9, 10, 15, 16, 17, 18, 19, 20, 21, 22, 23, 24, 25, 26, 27, 28] (by decide +kernel) (by decide +kernel)
set_option maxRecDepth 20000 in
theorem gX2_played_X2_ruled : GoodIn wsX2_played (wsV RX2 65 RX2 yX2_ruled wsX2_ruled) := goodIn_app (goodIn_of _ (by decide +kernel)) ggX2_played_X2_ruled
set_option maxRecDepth 20000 in
theorem ggX2_played_X2_playedThrough : GoodIn wsX2_played wsX2_playedThrough := goodIn_r _ [14, 5, 6, 7, 8, 9, 10, 15, 16, 17, 18, 19, 20, 21, 22, 23, 24, 25, 26, 27, 28] (by decide +kernel) (by decide +kernel)
set_option maxRecDepth 20000 in
theorem gX2_played_X2_playedThrough : GoodIn wsX2_played (wsV RX2 102 RX2 yX2_playedThrough wsX2_playedThrough) := goodIn_app (goodIn_of _ (by decide +kernel)) ggX2_played_X2_playedThrough
theorem dX2_played_0 : decode cX2_played 0 = .ok (.iload_n 1, 1) := by decide +kernel
theorem dX2_played_1 : decode cX2_played 1 = .ok (.iload_n 2, 1) := by decide +kernel
theorem dX2_played_2 : decode cX2_played 2 = .ok (.if_icmp .ne 7, 3) := by decide +kernel
theorem dX2_played_5 : decode cX2_played 5 = .ok (.iconst 0, 1) := by decide +kernel
theorem dX2_played_6 : decode cX2_played 6 = .ok (.goto 19, 3) := by decide +kernel
theorem dX2_played_9 : decode cX2_played 9 = .ok (.aload_n 0, 1) := by decide +kernel
theorem dX2_played_10 : decode cX2_played 10 = .ok (.iconst 5, 1) := by decide +kernel
theorem dX2_played_11 : decode cX2_played 11 = .ok (.invokevirtual 65, 3) := by decide +kernel
theorem dX2_played_14 : decode cX2_played 14 = .ok (.aload_n 0, 1) := by decide +kernel
theorem dX2_played_15 : decode cX2_played 15 = .ok (.iload_n 2, 1) := by decide +kernel
theorem dX2_played_16 : decode cX2_played 16 = .ok (.iload_n 1, 1) := by decide +kernel
theorem dX2_played_17 : decode cX2_played 17 = .ok (.isub, 1) := by decide +kernel
theorem dX2_played_18 : decode cX2_played 18 = .ok (.invokestatic 99, 3) := by decide +kernel
theorem dX2_played_21 : decode cX2_played 21 = .ok (.invokevirtual 102, 3) := by decide +kernel
theorem dX2_played_24 : decode cX2_played 24 = .ok (.iadd, 1) := by decide +kernel
theorem dX2_played_25 : decode cX2_played 25 = .ok (.ireturn, 1) := by decide +kernel
set_option maxRecDepth 20000 in
theorem ggX2_wound_X2_ruled : GoodIn wsX2_wound wsX2_ruled := goodIn_r _ [5, 6, 14, 15, 16, 17, 18, 19, 20, 21, 22, 23, 24, 25, 26, 27] (by decide +kernel) (by decide +kernel)
set_option maxRecDepth 20000 in
theorem gX2_wound_X2_ruled : GoodIn wsX2_wound (wsV RX2 65 RX2 yX2_ruled wsX2_ruled) := goodIn_app (goodIn_of _ (by decide +kernel)) ggX2_wound_X2_ruled
set_option maxRecDepth 20000 in
theorem ggX2_wound_X2_turnsOf : GoodIn wsX2_wound wsX2_turnsOf := goodIn_r _ [10, 1, 2, 3, 4, 5, 6, 11, 12, 13, 14, 15, 16, 17, 18, 19, 20, 21, 22, 23, 24, 25, 26, 27] (by decide +kernel) (by decide +kernel)
set_option maxRecDepth 20000 in
theorem gX2_wound_X2_turnsOf : GoodIn wsX2_wound (wsV RX2 77 RX2 yX2_turnsOf wsX2_turnsOf) := goodIn_app (goodIn_of _ (by decide +kernel)) ggX2_wound_X2_turnsOf
theorem dX2_wound_0 : decode cX2_wound 0 = .ok (.iload_n 1, 1) := by decide +kernel
theorem dX2_wound_1 : decode cX2_wound 1 = .ok (.iload_n 2, 1) := by decide +kernel
theorem dX2_wound_2 : decode cX2_wound 2 = .ok (.if_icmp .ne 5, 3) := by decide +kernel
theorem dX2_wound_5 : decode cX2_wound 5 = .ok (.iconst 0, 1) := by decide +kernel
theorem dX2_wound_6 : decode cX2_wound 6 = .ok (.ireturn, 1) := by decide +kernel
theorem dX2_wound_7 : decode cX2_wound 7 = .ok (.aload_n 0, 1) := by decide +kernel
theorem dX2_wound_8 : decode cX2_wound 8 = .ok (.iconst 0, 1) := by decide +kernel
theorem dX2_wound_9 : decode cX2_wound 9 = .ok (.invokevirtual 65, 3) := by decide +kernel
theorem dX2_wound_12 : decode cX2_wound 12 = .ok (.istore_n 3, 1) := by decide +kernel
theorem dX2_wound_13 : decode cX2_wound 13 = .ok (.iload_n 2, 1) := by decide +kernel
theorem dX2_wound_14 : decode cX2_wound 14 = .ok (.iload_n 1, 1) := by decide +kernel
theorem dX2_wound_15 : decode cX2_wound 15 = .ok (.if_icmp .le 17, 3) := by decide +kernel
theorem dX2_wound_18 : decode cX2_wound 18 = .ok (.aload_n 0, 1) := by decide +kernel
theorem dX2_wound_19 : decode cX2_wound 19 = .ok (.iload_n 2, 1) := by decide +kernel
theorem dX2_wound_20 : decode cX2_wound 20 = .ok (.invokevirtual 77, 3) := by decide +kernel
theorem dX2_wound_23 : decode cX2_wound 23 = .ok (.aload_n 0, 1) := by decide +kernel
theorem dX2_wound_24 : decode cX2_wound 24 = .ok (.iload_n 1, 1) := by decide +kernel
theorem dX2_wound_25 : decode cX2_wound 25 = .ok (.invokevirtual 77, 3) := by decide +kernel
theorem dX2_wound_28 : decode cX2_wound 28 = .ok (.isub, 1) := by decide +kernel
theorem dX2_wound_29 : decode cX2_wound 29 = .ok (.goto 18, 3) := by decide +kernel
theorem dX2_wound_32 : decode cX2_wound 32 = .ok (.aload_n 0, 1) := by decide +kernel
theorem dX2_wound_33 : decode cX2_wound 33 = .ok (.iload_n 3, 1) := by decide +kernel
theorem dX2_wound_34 : decode cX2_wound 34 = .ok (.iload_n 2, 1) := by decide +kernel
theorem dX2_wound_35 : decode cX2_wound 35 = .ok (.isub, 1) := by decide +kernel
theorem dX2_wound_36 : decode cX2_wound 36 = .ok (.invokevirtual 77, 3) := by decide +kernel
theorem dX2_wound_39 : decode cX2_wound 39 = .ok (.aload_n 0, 1) := by decide +kernel
theorem dX2_wound_40 : decode cX2_wound 40 = .ok (.iload_n 3, 1) := by decide +kernel
theorem dX2_wound_41 : decode cX2_wound 41 = .ok (.iload_n 1, 1) := by decide +kernel
theorem dX2_wound_42 : decode cX2_wound 42 = .ok (.isub, 1) := by decide +kernel
theorem dX2_wound_43 : decode cX2_wound 43 = .ok (.invokevirtual 77, 3) := by decide +kernel
theorem dX2_wound_46 : decode cX2_wound 46 = .ok (.isub, 1) := by decide +kernel
theorem dX2_wound_47 : decode cX2_wound 47 = .ok (.istore 4, 2) := by decide +kernel
theorem dX2_wound_49 : decode cX2_wound 49 = .ok (.iconst 2, 1) := by decide +kernel
theorem dX2_wound_50 : decode cX2_wound 50 = .ok (.aload_n 0, 1) := by decide +kernel
theorem dX2_wound_51 : decode cX2_wound 51 = .ok (.iconst 5, 1) := by decide +kernel
theorem dX2_wound_52 : decode cX2_wound 52 = .ok (.invokevirtual 65, 3) := by decide +kernel
theorem dX2_wound_55 : decode cX2_wound 55 = .ok (.imul, 1) := by decide +kernel
theorem dX2_wound_56 : decode cX2_wound 56 = .ok (.aload_n 0, 1) := by decide +kernel
theorem dX2_wound_57 : decode cX2_wound 57 = .ok (.iconst 4, 1) := by decide +kernel
theorem dX2_wound_58 : decode cX2_wound 58 = .ok (.invokevirtual 65, 3) := by decide +kernel
theorem dX2_wound_61 : decode cX2_wound 61 = .ok (.iload 4, 2) := by decide +kernel
theorem dX2_wound_63 : decode cX2_wound 63 = .ok (.imul, 1) := by decide +kernel
theorem dX2_wound_64 : decode cX2_wound 64 = .ok (.iadd, 1) := by decide +kernel
theorem dX2_wound_65 : decode cX2_wound 65 = .ok (.ireturn, 1) := by decide +kernel
set_option maxRecDepth 20000 in
theorem ggX2_sooner_X2_played : GoodIn wsX2_sooner wsX2_played := goodIn_r _ [9, 10, 11, 3, 12, 13, 14, 15, 8, 16, 17, 18, 19, 20, 21, 33, 34, 35, 36, 37, 38, 39, 40, 41, 42, 43, 44, 45, 46] (by decide +kernel) (by decide +kernel)
set_option maxRecDepth 20000 in
theorem gX2_sooner_X2_played : GoodIn wsX2_sooner (wsV RX2 105 RX2 yX2_played wsX2_played) := goodIn_app (goodIn_of _ (by decide +kernel)) ggX2_sooner_X2_played
set_option maxRecDepth 20000 in
theorem ggX2_sooner_X2_wound : GoodIn wsX2_sooner wsX2_wound := goodIn_r _ [25, 13, 14, 15, 8, 16, 17, 26, 27, 28, 29, 30, 31, 32, 33, 34, 35, 36, 37, 38, 39, 40, 41, 42, 43, 44, 45, 46] (by decide +kernel) (by decide +kernel)
set_option maxRecDepth 20000 in
theorem gX2_sooner_X2_wound : GoodIn wsX2_sooner (wsV RX2 108 RX2 yX2_wound wsX2_wound) := goodIn_app (goodIn_of _ (by decide +kernel)) ggX2_sooner_X2_wound
theorem dX2_sooner_0 : decode cX2_sooner 0 = .ok (.aload_n 0, 1) := by decide +kernel
theorem dX2_sooner_1 : decode cX2_sooner 1 = .ok (.iload_n 1, 1) := by decide +kernel
theorem dX2_sooner_2 : decode cX2_sooner 2 = .ok (.iload_n 2, 1) := by decide +kernel
theorem dX2_sooner_3 : decode cX2_sooner 3 = .ok (.invokevirtual 105, 3) := by decide +kernel
theorem dX2_sooner_6 : decode cX2_sooner 6 = .ok (.aload_n 0, 1) := by decide +kernel
theorem dX2_sooner_7 : decode cX2_sooner 7 = .ok (.iload_n 1, 1) := by decide +kernel
theorem dX2_sooner_8 : decode cX2_sooner 8 = .ok (.iload_n 2, 1) := by decide +kernel
theorem dX2_sooner_9 : decode cX2_sooner 9 = .ok (.invokevirtual 108, 3) := by decide +kernel
theorem dX2_sooner_12 : decode cX2_sooner 12 = .ok (.invokestatic 87, 3) := by decide +kernel
theorem dX2_sooner_15 : decode cX2_sooner 15 = .ok (.ireturn, 1) := by decide +kernel
set_option maxRecDepth 20000 in
theorem ggX2_goTo_X2_sooner : GoodIn wsX2_goTo wsX2_sooner := goodIn_r _ [7, 8, 9, 10, 11, 12, 13, 14, 6, 15, 16, 17, 18, 19, 20, 21, 22, 23, 24, 25, 26, 27, 28, 29, 30, 31, 32, 33, 34, 35, 36, 37, 38, 39, 40, 41, 42, 43, 44, 45, 46, 47, 48, 49, 50, 51, 52] (by decide +kernel) (by decide +kernel)
set_option maxRecDepth 20000 in
theorem gX2_goTo_X2_sooner : GoodIn wsX2_goTo (wsV RX2 111 RX2 yX2_sooner wsX2_sooner) := goodIn_app (goodIn_of _ (by decide +kernel)) ggX2_goTo_X2_sooner
theorem dX2_goTo_0 : decode cX2_goTo 0 = .ok (.aload_n 0, 1) := by decide +kernel
theorem dX2_goTo_1 : decode cX2_goTo 1 = .ok (.aload_n 0, 1) := by decide +kernel
theorem dX2_goTo_2 : decode cX2_goTo 2 = .ok (.getfield 50, 3) := by decide +kernel
theorem dX2_goTo_5 : decode cX2_goTo 5 = .ok (.iload_n 1, 1) := by decide +kernel
theorem dX2_goTo_6 : decode cX2_goTo 6 = .ok (.invokevirtual 111, 3) := by decide +kernel
theorem dX2_goTo_9 : decode cX2_goTo 9 = .ok (.istore_n 2, 1) := by decide +kernel
theorem dX2_goTo_10 : decode cX2_goTo 10 = .ok (.aload_n 0, 1) := by decide +kernel
theorem dX2_goTo_11 : decode cX2_goTo 11 = .ok (.iload_n 1, 1) := by decide +kernel
theorem dX2_goTo_12 : decode cX2_goTo 12 = .ok (.putfield 50, 3) := by decide +kernel
theorem dX2_goTo_15 : decode cX2_goTo 15 = .ok (.aload_n 0, 1) := by decide +kernel
theorem dX2_goTo_16 : decode cX2_goTo 16 = .ok (.dup, 1) := by decide +kernel
theorem dX2_goTo_17 : decode cX2_goTo 17 = .ok (.getfield 53, 3) := by decide +kernel
theorem dX2_goTo_20 : decode cX2_goTo 20 = .ok (.iload_n 2, 1) := by decide +kernel
theorem dX2_goTo_21 : decode cX2_goTo 21 = .ok (.iadd, 1) := by decide +kernel
theorem dX2_goTo_22 : decode cX2_goTo 22 = .ok (.putfield 53, 3) := by decide +kernel
theorem dX2_goTo_25 : decode cX2_goTo 25 = .ok (.iload_n 2, 1) := by decide +kernel
theorem dX2_goTo_26 : decode cX2_goTo 26 = .ok (.ireturn, 1) := by decide +kernel
set_option maxRecDepth 20000 in
theorem ggX2_reach_X2_sooner : GoodIn wsX2_reach wsX2_sooner := goodIn_r _ [6, 7, 8, 9, 10, 11, 12, 13, 5, 14, 15, 16, 17, 18, 19, 20, 21, 22, 23, 24, 25, 26, 27, 28, 29, 30, 31, 32, 33, 34, 35, 36, 37, 38, 39, 40, 41, 42, 43, 44, 45, 46, 47, 48, 49, 50, 51] (by decide +kernel) (by decide +kernel)
set_option maxRecDepth 20000 in
theorem gX2_reach_X2_sooner : GoodIn wsX2_reach (wsV RX2 111 RX2 yX2_sooner wsX2_sooner) := goodIn_app (goodIn_of _ (by decide +kernel)) ggX2_reach_X2_sooner
theorem dX2_reach_0 : decode cX2_reach 0 = .ok (.iconst 0, 1) := by decide +kernel
theorem dX2_reach_1 : decode cX2_reach 1 = .ok (.istore 4, 2) := by decide +kernel
theorem dX2_reach_3 : decode cX2_reach 3 = .ok (.iload_n 2, 1) := by decide +kernel
theorem dX2_reach_4 : decode cX2_reach 4 = .ok (.istore 5, 2) := by decide +kernel
theorem dX2_reach_6 : decode cX2_reach 6 = .ok (.iconst 0, 1) := by decide +kernel
theorem dX2_reach_7 : decode cX2_reach 7 = .ok (.istore 6, 2) := by decide +kernel
theorem dX2_reach_9 : decode cX2_reach 9 = .ok (.iload 6, 2) := by decide +kernel
theorem dX2_reach_11 : decode cX2_reach 11 = .ok (.bipush 32, 2) := by decide +kernel
theorem dX2_reach_13 : decode cX2_reach 13 = .ok (.if_icmp .ge 61, 3) := by decide +kernel
theorem dX2_reach_16 : decode cX2_reach 16 = .ok (.iload 4, 2) := by decide +kernel
theorem dX2_reach_18 : decode cX2_reach 18 = .ok (.iload 5, 2) := by decide +kernel
theorem dX2_reach_20 : decode cX2_reach 20 = .ok (.if_icmp .ge 54, 3) := by decide +kernel
theorem dX2_reach_23 : decode cX2_reach 23 = .ok (.iload 4, 2) := by decide +kernel
theorem dX2_reach_25 : decode cX2_reach 25 = .ok (.iload 5, 2) := by decide +kernel
theorem dX2_reach_27 : decode cX2_reach 27 = .ok (.iadd, 1) := by decide +kernel
theorem dX2_reach_28 : decode cX2_reach 28 = .ok (.iconst 1, 1) := by decide +kernel
theorem dX2_reach_29 : decode cX2_reach 29 = .ok (.iadd, 1) := by decide +kernel
theorem dX2_reach_30 : decode cX2_reach 30 = .ok (.iconst 2, 1) := by decide +kernel
theorem dX2_reach_31 : decode cX2_reach 31 = .ok (.idiv, 1) := by decide +kernel
theorem dX2_reach_32 : decode cX2_reach 32 = .ok (.istore 7, 2) := by decide +kernel
theorem dX2_reach_34 : decode cX2_reach 34 = .ok (.aload_n 0, 1) := by decide +kernel
theorem dX2_reach_35 : decode cX2_reach 35 = .ok (.aload_n 0, 1) := by decide +kernel
theorem dX2_reach_36 : decode cX2_reach 36 = .ok (.getfield 50, 3) := by decide +kernel
theorem dX2_reach_39 : decode cX2_reach 39 = .ok (.aload_n 0, 1) := by decide +kernel
theorem dX2_reach_40 : decode cX2_reach 40 = .ok (.getfield 50, 3) := by decide +kernel
theorem dX2_reach_43 : decode cX2_reach 43 = .ok (.iload_n 3, 1) := by decide +kernel
theorem dX2_reach_44 : decode cX2_reach 44 = .ok (.iload 7, 2) := by decide +kernel
theorem dX2_reach_46 : decode cX2_reach 46 = .ok (.imul, 1) := by decide +kernel
theorem dX2_reach_47 : decode cX2_reach 47 = .ok (.iadd, 1) := by decide +kernel
theorem dX2_reach_48 : decode cX2_reach 48 = .ok (.invokevirtual 111, 3) := by decide +kernel
theorem dX2_reach_51 : decode cX2_reach 51 = .ok (.iload_n 1, 1) := by decide +kernel
theorem dX2_reach_52 : decode cX2_reach 52 = .ok (.if_icmp .gt 10, 3) := by decide +kernel
theorem dX2_reach_55 : decode cX2_reach 55 = .ok (.iload 7, 2) := by decide +kernel
theorem dX2_reach_57 : decode cX2_reach 57 = .ok (.istore 4, 2) := by decide +kernel
theorem dX2_reach_59 : decode cX2_reach 59 = .ok (.goto 9, 3) := by decide +kernel
theorem dX2_reach_62 : decode cX2_reach 62 = .ok (.iload 7, 2) := by decide +kernel
theorem dX2_reach_64 : decode cX2_reach 64 = .ok (.iconst 1, 1) := by decide +kernel
theorem dX2_reach_65 : decode cX2_reach 65 = .ok (.isub, 1) := by decide +kernel
theorem dX2_reach_66 : decode cX2_reach 66 = .ok (.istore 5, 2) := by decide +kernel
theorem dX2_reach_68 : decode cX2_reach 68 = .ok (.iinc 6 1, 3) := by decide +kernel
theorem dX2_reach_71 : decode cX2_reach 71 = .ok (.goto (-62), 3) := by decide +kernel
theorem dX2_reach_74 : decode cX2_reach 74 = .ok (.iload 4, 2) := by decide +kernel
theorem dX2_reach_76 : decode cX2_reach 76 = .ok (.ireturn, 1) := by decide +kernel
set_option maxRecDepth 20000 in
theorem ggX2_hasBlock_X4_isBetween : GoodIn wsX2_hasBlock wsX4_isBetween := goodIn_r _ [4] (by decide +kernel) (by decide +kernel)
set_option maxRecDepth 20000 in
theorem gX2_hasBlock_X4_isBetween_n69 : GoodIn wsX2_hasBlock (wsX4_isBetween) := ggX2_hasBlock_X4_isBetween
theorem dX2_hasBlock_0 : decode cX2_hasBlock 0 = .ok (.iload_n 1, 1) := by decide +kernel
theorem dX2_hasBlock_1 : decode cX2_hasBlock 1 = .ok (.iconst 0, 1) := by decide +kernel
theorem dX2_hasBlock_2 : decode cX2_hasBlock 2 = .ok (.aload_n 0, 1) := by decide +kernel
theorem dX2_hasBlock_3 : decode cX2_hasBlock 3 = .ok (.getfield 46, 3) := by decide +kernel
theorem dX2_hasBlock_6 : decode cX2_hasBlock 6 = .ok (.iconst 1, 1) := by decide +kernel
theorem dX2_hasBlock_7 : decode cX2_hasBlock 7 = .ok (.isub, 1) := by decide +kernel
theorem dX2_hasBlock_8 : decode cX2_hasBlock 8 = .ok (.invokestatic 69, 3) := by decide +kernel
theorem dX2_hasBlock_11 : decode cX2_hasBlock 11 = .ok (.ireturn, 1) := by decide +kernel
theorem dX2_hasAllOf_0 : decode cX2_hasAllOf 0 = .ok (.iload_n 1, 1) := by decide +kernel
theorem dX2_hasAllOf_1 : decode cX2_hasAllOf 1 = .ok (.aload_n 0, 1) := by decide +kernel
theorem dX2_hasAllOf_2 : decode cX2_hasAllOf 2 = .ok (.getfield 46, 3) := by decide +kernel
theorem dX2_hasAllOf_5 : decode cX2_hasAllOf 5 = .ok (.iushr, 1) := by decide +kernel
theorem dX2_hasAllOf_6 : decode cX2_hasAllOf 6 = .ok (.ifCond .ne 7, 3) := by decide +kernel
theorem dX2_hasAllOf_9 : decode cX2_hasAllOf 9 = .ok (.iconst 1, 1) := by decide +kernel
theorem dX2_hasAllOf_10 : decode cX2_hasAllOf 10 = .ok (.goto 4, 3) := by decide +kernel
theorem dX2_hasAllOf_13 : decode cX2_hasAllOf 13 = .ok (.iconst 0, 1) := by decide +kernel
theorem dX2_hasAllOf_14 : decode cX2_hasAllOf 14 = .ok (.ireturn, 1) := by decide +kernel
set_option maxRecDepth 20000 in
theorem ggX2_beginOf_X4_cell : GoodIn wsX2_beginOf wsX4_cell := goodIn_r _ [4] (by decide +kernel) (by decide +kernel)
set_option maxRecDepth 20000 in
theorem gX2_beginOf_X4_cell_n114 : GoodIn wsX2_beginOf (wsX4_cell) := ggX2_beginOf_X4_cell
theorem dX2_beginOf_0 : decode cX2_beginOf 0 = .ok (.aload_n 0, 1) := by decide +kernel
theorem dX2_beginOf_1 : decode cX2_beginOf 1 = .ok (.getfield 15, 3) := by decide +kernel
theorem dX2_beginOf_4 : decode cX2_beginOf 4 = .ok (.iload_n 1, 1) := by decide +kernel
theorem dX2_beginOf_5 : decode cX2_beginOf 5 = .ok (.invokestatic 114, 3) := by decide +kernel
theorem dX2_beginOf_8 : decode cX2_beginOf 8 = .ok (.ireturn, 1) := by decide +kernel
set_option maxRecDepth 20000 in
theorem ggX2_sizeOf_X4_cell : GoodIn wsX2_sizeOf wsX4_cell := goodIn_r _ [4] (by decide +kernel) (by decide +kernel)
set_option maxRecDepth 20000 in
theorem gX2_sizeOf_X4_cell_n114 : GoodIn wsX2_sizeOf (wsX4_cell) := ggX2_sizeOf_X4_cell
theorem dX2_sizeOf_0 : decode cX2_sizeOf 0 = .ok (.aload_n 0, 1) := by decide +kernel
theorem dX2_sizeOf_1 : decode cX2_sizeOf 1 = .ok (.getfield 18, 3) := by decide +kernel
theorem dX2_sizeOf_4 : decode cX2_sizeOf 4 = .ok (.iload_n 1, 1) := by decide +kernel
theorem dX2_sizeOf_5 : decode cX2_sizeOf 5 = .ok (.invokestatic 114, 3) := by decide +kernel
theorem dX2_sizeOf_8 : decode cX2_sizeOf 8 = .ok (.ireturn, 1) := by decide +kernel
set_option maxRecDepth 20000 in
theorem ggX2_isMark_X2_sizeOf : GoodIn wsX2_isMark wsX2_sizeOf := goodIn_r _ [5, 6, 7, 8, 9, 10, 11, 12, 13, 14, 15, 16, 17, 18, 19, 20, 21, 22, 23] (by decide +kernel) (by decide +kernel)
set_option maxRecDepth 20000 in
theorem gX2_isMark_X2_sizeOf : GoodIn wsX2_isMark (wsV RX2 118 RX2 yX2_sizeOf wsX2_sizeOf) := goodIn_app (goodIn_of _ (by decide +kernel)) ggX2_isMark_X2_sizeOf
theorem dX2_isMark_0 : decode cX2_isMark 0 = .ok (.aload_n 0, 1) := by decide +kernel
theorem dX2_isMark_1 : decode cX2_isMark 1 = .ok (.iload_n 1, 1) := by decide +kernel
theorem dX2_isMark_2 : decode cX2_isMark 2 = .ok (.invokevirtual 118, 3) := by decide +kernel
theorem dX2_isMark_5 : decode cX2_isMark 5 = .ok (.ifCond .ne 7, 3) := by decide +kernel
theorem dX2_isMark_8 : decode cX2_isMark 8 = .ok (.iconst 1, 1) := by decide +kernel
theorem dX2_isMark_9 : decode cX2_isMark 9 = .ok (.goto 4, 3) := by decide +kernel
theorem dX2_isMark_12 : decode cX2_isMark 12 = .ok (.iconst 0, 1) := by decide +kernel
theorem dX2_isMark_13 : decode cX2_isMark 13 = .ok (.ireturn, 1) := by decide +kernel
set_option maxRecDepth 20000 in
theorem ggX2_longWith_X2_ruled : GoodIn wsX2_longWith wsX2_ruled := goodIn_r _ [5, 6, 10, 11, 12, 13, 14, 15, 16, 17, 18, 19, 20, 21, 22, 23] (by decide +kernel) (by decide +kernel)
set_option maxRecDepth 20000 in
theorem gX2_longWith_X2_ruled : GoodIn wsX2_longWith (wsV RX2 65 RX2 yX2_ruled wsX2_ruled) := goodIn_app (goodIn_of _ (by decide +kernel)) ggX2_longWith_X2_ruled
set_option maxRecDepth 20000 in
theorem ggX2_longWith_X4_dividedUp : GoodIn wsX2_longWith wsX4_dividedUp := goodIn_r _ [9] (by decide +kernel) (by decide +kernel)
set_option maxRecDepth 20000 in
theorem gX2_longWith_X4_dividedUp_n121 : GoodIn wsX2_longWith (wsX4_dividedUp) := ggX2_longWith_X4_dividedUp
theorem dX2_longWith_0 : decode cX2_longWith 0 = .ok (.iload_n 1, 1) := by decide +kernel
theorem dX2_longWith_1 : decode cX2_longWith 1 = .ok (.ifCond .ne 7, 3) := by decide +kernel
theorem dX2_longWith_4 : decode cX2_longWith 4 = .ok (.iconst 1, 1) := by decide +kernel
theorem dX2_longWith_5 : decode cX2_longWith 5 = .ok (.goto 15, 3) := by decide +kernel
theorem dX2_longWith_8 : decode cX2_longWith 8 = .ok (.iload_n 1, 1) := by decide +kernel
theorem dX2_longWith_9 : decode cX2_longWith 9 = .ok (.iconst 1, 1) := by decide +kernel
theorem dX2_longWith_10 : decode cX2_longWith 10 = .ok (.iadd, 1) := by decide +kernel
theorem dX2_longWith_11 : decode cX2_longWith 11 = .ok (.aload_n 0, 1) := by decide +kernel
theorem dX2_longWith_12 : decode cX2_longWith 12 = .ok (.bipush 7, 2) := by decide +kernel
theorem dX2_longWith_14 : decode cX2_longWith 14 = .ok (.invokevirtual 65, 3) := by decide +kernel
theorem dX2_longWith_17 : decode cX2_longWith 17 = .ok (.invokestatic 121, 3) := by decide +kernel
theorem dX2_longWith_20 : decode cX2_longWith 20 = .ok (.ireturn, 1) := by decide +kernel
set_option maxRecDepth 20000 in
theorem ggX2_longOf_X2_sizeOf : GoodIn wsX2_longOf wsX2_sizeOf := goodIn_r _ [5, 6, 7, 8, 9, 21, 22, 23, 24, 25, 26, 27, 28, 29, 30, 31, 32, 33, 34] (by decide +kernel) (by decide +kernel)
set_option maxRecDepth 20000 in
theorem gX2_longOf_X2_sizeOf : GoodIn wsX2_longOf (wsV RX2 118 RX2 yX2_sizeOf wsX2_sizeOf) := goodIn_app (goodIn_of _ (by decide +kernel)) ggX2_longOf_X2_sizeOf
set_option maxRecDepth 20000 in
theorem ggX2_longOf_X2_longWith : GoodIn wsX2_longOf wsX2_longWith := goodIn_r _ [13, 14, 15, 16, 4, 17, 18, 19, 8, 20, 21, 22, 23, 24, 25, 26, 27, 28, 29, 30, 31, 32, 33, 34] (by decide +kernel) (by decide +kernel)
set_option maxRecDepth 20000 in
theorem gX2_longOf_X2_longWith : GoodIn wsX2_longOf (wsV RX2 124 RX2 yX2_longWith wsX2_longWith) := goodIn_app (goodIn_of _ (by decide +kernel)) ggX2_longOf_X2_longWith
theorem dX2_longOf_0 : decode cX2_longOf 0 = .ok (.aload_n 0, 1) := by decide +kernel
theorem dX2_longOf_1 : decode cX2_longOf 1 = .ok (.aload_n 0, 1) := by decide +kernel
theorem dX2_longOf_2 : decode cX2_longOf 2 = .ok (.iload_n 1, 1) := by decide +kernel
theorem dX2_longOf_3 : decode cX2_longOf 3 = .ok (.invokevirtual 118, 3) := by decide +kernel
theorem dX2_longOf_6 : decode cX2_longOf 6 = .ok (.invokevirtual 124, 3) := by decide +kernel
theorem dX2_longOf_9 : decode cX2_longOf 9 = .ok (.ireturn, 1) := by decide +kernel
set_option maxRecDepth 20000 in
theorem ggX2_endOf_X2_hasBlock : GoodIn wsX2_endOf wsX2_hasBlock := goodIn_r _ [5, 6, 7, 8, 9, 33, 34, 35, 36, 37, 38, 39, 40, 41, 42, 43, 44, 45, 46] (by decide +kernel) (by decide +kernel)
set_option maxRecDepth 20000 in
theorem gX2_endOf_X2_hasBlock : GoodIn wsX2_endOf (wsV RX2 127 RX2 yX2_hasBlock wsX2_hasBlock) := goodIn_app (goodIn_of _ (by decide +kernel)) ggX2_endOf_X2_hasBlock
set_option maxRecDepth 20000 in
theorem ggX2_endOf_X2_beginOf : GoodIn wsX2_endOf wsX2_beginOf := goodIn_r _ [13, 14, 15, 8, 16, 33, 34, 35, 36, 37, 38, 39, 40, 41, 42, 43, 44, 45, 46] (by decide +kernel) (by decide +kernel)
set_option maxRecDepth 20000 in
theorem gX2_endOf_X2_beginOf : GoodIn wsX2_endOf (wsV RX2 130 RX2 yX2_beginOf wsX2_beginOf) := goodIn_app (goodIn_of _ (by decide +kernel)) ggX2_endOf_X2_beginOf
set_option maxRecDepth 20000 in
theorem ggX2_endOf_X2_sizeOf : GoodIn wsX2_endOf wsX2_sizeOf := goodIn_r _ [20, 21, 15, 8, 16, 33, 34, 35, 36, 37, 38, 39, 40, 41, 42, 43, 44, 45, 46] (by decide +kernel) (by decide +kernel)
set_option maxRecDepth 20000 in
theorem gX2_endOf_X2_sizeOf : GoodIn wsX2_endOf (wsV RX2 118 RX2 yX2_sizeOf wsX2_sizeOf) := goodIn_app (goodIn_of _ (by decide +kernel)) ggX2_endOf_X2_sizeOf
set_option maxRecDepth 20000 in
theorem ggX2_endOf_X2_longWith : GoodIn wsX2_endOf wsX2_longWith := goodIn_r _ [25, 26, 27, 28, 4, 29, 30, 31, 8, 32, 33, 34, 35, 36, 37, 38, 39, 40, 41, 42, 43, 44, 45, 46] (by decide +kernel) (by decide +kernel)
set_option maxRecDepth 20000 in
theorem gX2_endOf_X2_longWith : GoodIn wsX2_endOf (wsV RX2 124 RX2 yX2_longWith wsX2_longWith) := goodIn_app (goodIn_of _ (by decide +kernel)) ggX2_endOf_X2_longWith
theorem dX2_endOf_0 : decode cX2_endOf 0 = .ok (.aload_n 0, 1) := by decide +kernel
theorem dX2_endOf_1 : decode cX2_endOf 1 = .ok (.iload_n 1, 1) := by decide +kernel
theorem dX2_endOf_2 : decode cX2_endOf 2 = .ok (.invokevirtual 127, 3) := by decide +kernel
theorem dX2_endOf_5 : decode cX2_endOf 5 = .ok (.ifCond .eq 21, 3) := by decide +kernel
theorem dX2_endOf_8 : decode cX2_endOf 8 = .ok (.aload_n 0, 1) := by decide +kernel
theorem dX2_endOf_9 : decode cX2_endOf 9 = .ok (.iload_n 1, 1) := by decide +kernel
theorem dX2_endOf_10 : decode cX2_endOf 10 = .ok (.invokevirtual 130, 3) := by decide +kernel
theorem dX2_endOf_13 : decode cX2_endOf 13 = .ok (.aload_n 0, 1) := by decide +kernel
theorem dX2_endOf_14 : decode cX2_endOf 14 = .ok (.aload_n 0, 1) := by decide +kernel
theorem dX2_endOf_15 : decode cX2_endOf 15 = .ok (.iload_n 1, 1) := by decide +kernel
theorem dX2_endOf_16 : decode cX2_endOf 16 = .ok (.invokevirtual 118, 3) := by decide +kernel
theorem dX2_endOf_19 : decode cX2_endOf 19 = .ok (.invokevirtual 124, 3) := by decide +kernel
theorem dX2_endOf_22 : decode cX2_endOf 22 = .ok (.iadd, 1) := by decide +kernel
theorem dX2_endOf_23 : decode cX2_endOf 23 = .ok (.goto 4, 3) := by decide +kernel
theorem dX2_endOf_26 : decode cX2_endOf 26 = .ok (.iconst 0, 1) := by decide +kernel
theorem dX2_endOf_27 : decode cX2_endOf 27 = .ok (.ireturn, 1) := by decide +kernel
set_option maxRecDepth 20000 in
theorem ggX2_blockWith_X2_beginOf : GoodIn wsX2_blockWith wsX2_beginOf := goodIn_r _ [6, 7, 8, 9, 10, 37, 38, 39, 40, 41, 42, 43, 44, 45, 46, 47, 48, 49, 50] (by decide +kernel) (by decide +kernel)
set_option maxRecDepth 20000 in
theorem gX2_blockWith_X2_beginOf : GoodIn wsX2_blockWith (wsV RX2 130 RX2 yX2_beginOf wsX2_beginOf) := goodIn_app (goodIn_of _ (by decide +kernel)) ggX2_blockWith_X2_beginOf
set_option maxRecDepth 20000 in
theorem ggX2_blockWith_X2_endOf : GoodIn wsX2_blockWith wsX2_endOf := goodIn_r _ [14, 15, 16, 17, 5, 18, 1, 19, 9, 20, 2, 3, 4, 6, 7, 8, 10, 21, 22, 23, 24, 25, 26, 27, 28, 29, 30, 31, 32, 33, 34, 35, 36, 37, 38, 39, 40, 41, 42, 43, 44, 45, 46, 47, 48, 49, 50] (by decide +kernel) (by decide +kernel)
set_option maxRecDepth 20000 in
theorem gX2_blockWith_X2_endOf : GoodIn wsX2_blockWith (wsV RX2 133 RX2 yX2_endOf wsX2_endOf) := goodIn_app (goodIn_of _ (by decide +kernel)) ggX2_blockWith_X2_endOf
set_option maxRecDepth 20000 in
theorem ggX2_blockWith_X4_isBetween : GoodIn wsX2_blockWith wsX4_isBetween := goodIn_r _ [20] (by decide +kernel) (by decide +kernel)
set_option maxRecDepth 20000 in
theorem gX2_blockWith_X4_isBetween_n69 : GoodIn wsX2_blockWith (wsX4_isBetween) := ggX2_blockWith_X4_isBetween
theorem dX2_blockWith_0 : decode cX2_blockWith 0 = .ok (.iconst 0, 1) := by decide +kernel
theorem dX2_blockWith_1 : decode cX2_blockWith 1 = .ok (.istore_n 2, 1) := by decide +kernel
theorem dX2_blockWith_2 : decode cX2_blockWith 2 = .ok (.iload_n 2, 1) := by decide +kernel
theorem dX2_blockWith_3 : decode cX2_blockWith 3 = .ok (.aload_n 0, 1) := by decide +kernel
theorem dX2_blockWith_4 : decode cX2_blockWith 4 = .ok (.getfield 46, 3) := by decide +kernel
theorem dX2_blockWith_7 : decode cX2_blockWith 7 = .ok (.if_icmp .ge 30, 3) := by decide +kernel
theorem dX2_blockWith_10 : decode cX2_blockWith 10 = .ok (.iload_n 1, 1) := by decide +kernel
theorem dX2_blockWith_11 : decode cX2_blockWith 11 = .ok (.aload_n 0, 1) := by decide +kernel
theorem dX2_blockWith_12 : decode cX2_blockWith 12 = .ok (.iload_n 2, 1) := by decide +kernel
theorem dX2_blockWith_13 : decode cX2_blockWith 13 = .ok (.invokevirtual 130, 3) := by decide +kernel
theorem dX2_blockWith_16 : decode cX2_blockWith 16 = .ok (.aload_n 0, 1) := by decide +kernel
theorem dX2_blockWith_17 : decode cX2_blockWith 17 = .ok (.iload_n 2, 1) := by decide +kernel
theorem dX2_blockWith_18 : decode cX2_blockWith 18 = .ok (.invokevirtual 133, 3) := by decide +kernel
theorem dX2_blockWith_21 : decode cX2_blockWith 21 = .ok (.iconst 1, 1) := by decide +kernel
theorem dX2_blockWith_22 : decode cX2_blockWith 22 = .ok (.isub, 1) := by decide +kernel
theorem dX2_blockWith_23 : decode cX2_blockWith 23 = .ok (.invokestatic 69, 3) := by decide +kernel
theorem dX2_blockWith_26 : decode cX2_blockWith 26 = .ok (.ifCond .eq 5, 3) := by decide +kernel
theorem dX2_blockWith_29 : decode cX2_blockWith 29 = .ok (.iload_n 2, 1) := by decide +kernel
theorem dX2_blockWith_30 : decode cX2_blockWith 30 = .ok (.ireturn, 1) := by decide +kernel
theorem dX2_blockWith_31 : decode cX2_blockWith 31 = .ok (.iinc 2 1, 3) := by decide +kernel
theorem dX2_blockWith_34 : decode cX2_blockWith 34 = .ok (.goto (-32), 3) := by decide +kernel
theorem dX2_blockWith_37 : decode cX2_blockWith 37 = .ok (.bipush (-4), 2) := by decide +kernel
theorem dX2_blockWith_39 : decode cX2_blockWith 39 = .ok (.ireturn, 1) := by decide +kernel
set_option maxRecDepth 20000 in
theorem ggX2_markCount_X2_isMark : GoodIn wsX2_markCount wsX2_isMark := goodIn_r _ [6, 7, 8, 9, 5, 10, 11, 12, 13, 14, 15, 16, 17, 18, 19, 20, 21, 22, 23, 24, 25, 26, 27, 28] (by decide +kernel) (by decide +kernel)
set_option maxRecDepth 20000 in
theorem gX2_markCount_X2_isMark : GoodIn wsX2_markCount (wsV RX2 136 RX2 yX2_isMark wsX2_isMark) := goodIn_app (goodIn_of _ (by decide +kernel)) ggX2_markCount_X2_isMark
theorem dX2_markCount_0 : decode cX2_markCount 0 = .ok (.iconst 0, 1) := by decide +kernel
theorem dX2_markCount_1 : decode cX2_markCount 1 = .ok (.istore_n 1, 1) := by decide +kernel
theorem dX2_markCount_2 : decode cX2_markCount 2 = .ok (.iconst 0, 1) := by decide +kernel
theorem dX2_markCount_3 : decode cX2_markCount 3 = .ok (.istore_n 2, 1) := by decide +kernel
theorem dX2_markCount_4 : decode cX2_markCount 4 = .ok (.iload_n 2, 1) := by decide +kernel
theorem dX2_markCount_5 : decode cX2_markCount 5 = .ok (.aload_n 0, 1) := by decide +kernel
theorem dX2_markCount_6 : decode cX2_markCount 6 = .ok (.getfield 46, 3) := by decide +kernel
theorem dX2_markCount_9 : decode cX2_markCount 9 = .ok (.if_icmp .ge 20, 3) := by decide +kernel
theorem dX2_markCount_12 : decode cX2_markCount 12 = .ok (.aload_n 0, 1) := by decide +kernel
theorem dX2_markCount_13 : decode cX2_markCount 13 = .ok (.iload_n 2, 1) := by decide +kernel
theorem dX2_markCount_14 : decode cX2_markCount 14 = .ok (.invokevirtual 136, 3) := by decide +kernel
theorem dX2_markCount_17 : decode cX2_markCount 17 = .ok (.ifCond .eq 6, 3) := by decide +kernel
theorem dX2_markCount_20 : decode cX2_markCount 20 = .ok (.iinc 1 1, 3) := by decide +kernel
theorem dX2_markCount_23 : decode cX2_markCount 23 = .ok (.iinc 2 1, 3) := by decide +kernel
theorem dX2_markCount_26 : decode cX2_markCount 26 = .ok (.goto (-22), 3) := by decide +kernel
theorem dX2_markCount_29 : decode cX2_markCount 29 = .ok (.iload_n 1, 1) := by decide +kernel
theorem dX2_markCount_30 : decode cX2_markCount 30 = .ok (.ireturn, 1) := by decide +kernel
set_option maxRecDepth 20000 in
theorem ggX2_byteCount_X2_sizeOf : GoodIn wsX2_byteCount wsX2_sizeOf := goodIn_r _ [6, 7, 8, 9, 10, 11, 12, 13, 14, 15, 16, 17, 18, 19, 20, 21, 22, 23, 24] (by decide +kernel) (by decide +kernel)
set_option maxRecDepth 20000 in
theorem gX2_byteCount_X2_sizeOf : GoodIn wsX2_byteCount (wsV RX2 118 RX2 yX2_sizeOf wsX2_sizeOf) := goodIn_app (goodIn_of _ (by decide +kernel)) ggX2_byteCount_X2_sizeOf
theorem dX2_byteCount_0 : decode cX2_byteCount 0 = .ok (.iconst 0, 1) := by decide +kernel
theorem dX2_byteCount_1 : decode cX2_byteCount 1 = .ok (.istore_n 1, 1) := by decide +kernel
theorem dX2_byteCount_2 : decode cX2_byteCount 2 = .ok (.iconst 0, 1) := by decide +kernel
theorem dX2_byteCount_3 : decode cX2_byteCount 3 = .ok (.istore_n 2, 1) := by decide +kernel
theorem dX2_byteCount_4 : decode cX2_byteCount 4 = .ok (.iload_n 2, 1) := by decide +kernel
theorem dX2_byteCount_5 : decode cX2_byteCount 5 = .ok (.aload_n 0, 1) := by decide +kernel
theorem dX2_byteCount_6 : decode cX2_byteCount 6 = .ok (.getfield 46, 3) := by decide +kernel
theorem dX2_byteCount_9 : decode cX2_byteCount 9 = .ok (.if_icmp .ge 17, 3) := by decide +kernel
theorem dX2_byteCount_12 : decode cX2_byteCount 12 = .ok (.iload_n 1, 1) := by decide +kernel
theorem dX2_byteCount_13 : decode cX2_byteCount 13 = .ok (.aload_n 0, 1) := by decide +kernel
theorem dX2_byteCount_14 : decode cX2_byteCount 14 = .ok (.iload_n 2, 1) := by decide +kernel
theorem dX2_byteCount_15 : decode cX2_byteCount 15 = .ok (.invokevirtual 118, 3) := by decide +kernel
theorem dX2_byteCount_18 : decode cX2_byteCount 18 = .ok (.iadd, 1) := by decide +kernel
theorem dX2_byteCount_19 : decode cX2_byteCount 19 = .ok (.istore_n 1, 1) := by decide +kernel
theorem dX2_byteCount_20 : decode cX2_byteCount 20 = .ok (.iinc 2 1, 3) := by decide +kernel
theorem dX2_byteCount_23 : decode cX2_byteCount 23 = .ok (.goto (-19), 3) := by decide +kernel
theorem dX2_byteCount_26 : decode cX2_byteCount 26 = .ok (.iload_n 1, 1) := by decide +kernel
theorem dX2_byteCount_27 : decode cX2_byteCount 27 = .ok (.ireturn, 1) := by decide +kernel
set_option maxRecDepth 20000 in
theorem ggX2_typeOne_X4_setCell : GoodIn wsX2_typeOne wsX4_setCell := goodIn_r _ [5] (by decide +kernel) (by decide +kernel)
set_option maxRecDepth 20000 in
theorem gX2_typeOne_X4_setCell_n139 : GoodIn wsX2_typeOne (wsX4_setCell) := ggX2_typeOne_X4_setCell
theorem dX2_typeOne_0 : decode cX2_typeOne 0 = .ok (.aload_n 0, 1) := by decide +kernel
theorem dX2_typeOne_1 : decode cX2_typeOne 1 = .ok (.getfield 27, 3) := by decide +kernel
theorem dX2_typeOne_4 : decode cX2_typeOne 4 = .ok (.aload_n 0, 1) := by decide +kernel
theorem dX2_typeOne_5 : decode cX2_typeOne 5 = .ok (.getfield 56, 3) := by decide +kernel
theorem dX2_typeOne_8 : decode cX2_typeOne 8 = .ok (.iload_n 1, 1) := by decide +kernel
theorem dX2_typeOne_9 : decode cX2_typeOne 9 = .ok (.invokestatic 139, 3) := by decide +kernel
theorem dX2_typeOne_12 : decode cX2_typeOne 12 = .ok (.aload_n 0, 1) := by decide +kernel
theorem dX2_typeOne_13 : decode cX2_typeOne 13 = .ok (.dup, 1) := by decide +kernel
theorem dX2_typeOne_14 : decode cX2_typeOne 14 = .ok (.getfield 56, 3) := by decide +kernel
theorem dX2_typeOne_17 : decode cX2_typeOne 17 = .ok (.iconst 1, 1) := by decide +kernel
theorem dX2_typeOne_18 : decode cX2_typeOne 18 = .ok (.iadd, 1) := by decide +kernel
theorem dX2_typeOne_19 : decode cX2_typeOne 19 = .ok (.putfield 56, 3) := by decide +kernel
theorem dX2_typeOne_22 : decode cX2_typeOne 22 = .ok (.aload_n 0, 1) := by decide +kernel
theorem dX2_typeOne_23 : decode cX2_typeOne 23 = .ok (.getfield 56, 3) := by decide +kernel
theorem dX2_typeOne_26 : decode cX2_typeOne 26 = .ok (.ireturn, 1) := by decide +kernel
set_option maxRecDepth 20000 in
theorem ggX2_beginningAt_X2_endOf : GoodIn wsX2_beginningAt wsX2_endOf := goodIn_r _ [5, 6, 7, 8, 4, 9, 10, 11, 12, 13, 14, 15, 16, 17, 18, 19, 20, 21, 22, 23, 24, 25, 26, 27, 28, 29, 30, 31, 32, 33, 34, 35, 36, 37, 38, 39, 40, 41, 42, 43, 44, 45, 46, 47, 48, 49, 50] (by decide +kernel) (by decide +kernel)
set_option maxRecDepth 20000 in
theorem gX2_beginningAt_X2_endOf : GoodIn wsX2_beginningAt (wsV RX2 133 RX2 yX2_endOf wsX2_endOf) := goodIn_app (goodIn_of _ (by decide +kernel)) ggX2_beginningAt_X2_endOf
set_option maxRecDepth 20000 in
theorem ggX2_beginningAt_X2_ruled : GoodIn wsX2_beginningAt wsX2_ruled := goodIn_r _ [33, 34, 37, 38, 39, 40, 41, 42, 43, 44, 45, 46, 47, 48, 49, 50] (by decide +kernel) (by decide +kernel)
set_option maxRecDepth 20000 in
theorem gX2_beginningAt_X2_ruled : GoodIn wsX2_beginningAt (wsV RX2 65 RX2 yX2_ruled wsX2_ruled) := goodIn_app (goodIn_of _ (by decide +kernel)) ggX2_beginningAt_X2_ruled
theorem dX2_beginningAt_0 : decode cX2_beginningAt 0 = .ok (.aload_n 0, 1) := by decide +kernel
theorem dX2_beginningAt_1 : decode cX2_beginningAt 1 = .ok (.iload_n 1, 1) := by decide +kernel
theorem dX2_beginningAt_2 : decode cX2_beginningAt 2 = .ok (.iconst 1, 1) := by decide +kernel
theorem dX2_beginningAt_3 : decode cX2_beginningAt 3 = .ok (.isub, 1) := by decide +kernel
theorem dX2_beginningAt_4 : decode cX2_beginningAt 4 = .ok (.invokevirtual 133, 3) := by decide +kernel
theorem dX2_beginningAt_7 : decode cX2_beginningAt 7 = .ok (.aload_n 0, 1) := by decide +kernel
theorem dX2_beginningAt_8 : decode cX2_beginningAt 8 = .ok (.bipush 6, 2) := by decide +kernel
theorem dX2_beginningAt_10 : decode cX2_beginningAt 10 = .ok (.invokevirtual 65, 3) := by decide +kernel
theorem dX2_beginningAt_13 : decode cX2_beginningAt 13 = .ok (.iadd, 1) := by decide +kernel
theorem dX2_beginningAt_14 : decode cX2_beginningAt 14 = .ok (.ireturn, 1) := by decide +kernel
set_option maxRecDepth 20000 in
theorem ggX2_hasRoomAt_X2_beginningAt : GoodIn wsX2_hasRoomAt wsX2_beginningAt := goodIn_r _ [5, 6, 7, 8, 4, 9, 10, 11, 12, 13, 14, 15, 16, 17, 18, 19, 20, 21, 22, 23, 24, 25, 26, 27, 28, 29, 30, 31, 32, 33, 34, 35, 36, 37, 38, 39, 40, 41, 42, 43, 44, 45, 46, 47, 48, 49, 50, 51, 52, 53, 54] (by decide +kernel) (by decide +kernel)
set_option maxRecDepth 20000 in
theorem gX2_hasRoomAt_X2_beginningAt : GoodIn wsX2_hasRoomAt (wsV RX2 143 RX2 yX2_beginningAt wsX2_beginningAt) := goodIn_app (goodIn_of _ (by decide +kernel)) ggX2_hasRoomAt_X2_beginningAt
set_option maxRecDepth 20000 in
theorem ggX2_hasRoomAt_X2_longWith : GoodIn wsX2_hasRoomAt wsX2_longWith := goodIn_r _ [33, 34, 35, 36, 4, 37, 38, 39, 16, 40, 41, 42, 43, 44, 45, 46, 47, 48, 49, 50, 51, 52, 53, 54] (by decide +kernel) (by decide +kernel)
set_option maxRecDepth 20000 in
theorem gX2_hasRoomAt_X2_longWith : GoodIn wsX2_hasRoomAt (wsV RX2 124 RX2 yX2_longWith wsX2_longWith) := goodIn_app (goodIn_of _ (by decide +kernel)) ggX2_hasRoomAt_X2_longWith
set_option maxRecDepth 20000 in
theorem ggX2_hasRoomAt_X2_ruled : GoodIn wsX2_hasRoomAt wsX2_ruled := goodIn_r _ [37, 38, 41, 42, 43, 44, 45, 46, 47, 48, 49, 50, 51, 52, 53, 54] (by decide +kernel) (by decide +kernel)
set_option maxRecDepth 20000 in
theorem gX2_hasRoomAt_X2_ruled : GoodIn wsX2_hasRoomAt (wsV RX2 65 RX2 yX2_ruled wsX2_ruled) := goodIn_app (goodIn_of _ (by decide +kernel)) ggX2_hasRoomAt_X2_ruled
theorem dX2_hasRoomAt_0 : decode cX2_hasRoomAt 0 = .ok (.iload_n 1, 1) := by decide +kernel
theorem dX2_hasRoomAt_1 : decode cX2_hasRoomAt 1 = .ok (.bipush 12, 2) := by decide +kernel
theorem dX2_hasRoomAt_3 : decode cX2_hasRoomAt 3 = .ok (.if_icmp .ge 26, 3) := by decide +kernel
theorem dX2_hasRoomAt_6 : decode cX2_hasRoomAt 6 = .ok (.aload_n 0, 1) := by decide +kernel
theorem dX2_hasRoomAt_7 : decode cX2_hasRoomAt 7 = .ok (.iload_n 1, 1) := by decide +kernel
theorem dX2_hasRoomAt_8 : decode cX2_hasRoomAt 8 = .ok (.invokevirtual 143, 3) := by decide +kernel
theorem dX2_hasRoomAt_11 : decode cX2_hasRoomAt 11 = .ok (.aload_n 0, 1) := by decide +kernel
theorem dX2_hasRoomAt_12 : decode cX2_hasRoomAt 12 = .ok (.iload_n 2, 1) := by decide +kernel
theorem dX2_hasRoomAt_13 : decode cX2_hasRoomAt 13 = .ok (.invokevirtual 124, 3) := by decide +kernel
theorem dX2_hasRoomAt_16 : decode cX2_hasRoomAt 16 = .ok (.iadd, 1) := by decide +kernel
theorem dX2_hasRoomAt_17 : decode cX2_hasRoomAt 17 = .ok (.aload_n 0, 1) := by decide +kernel
theorem dX2_hasRoomAt_18 : decode cX2_hasRoomAt 18 = .ok (.iconst 0, 1) := by decide +kernel
theorem dX2_hasRoomAt_19 : decode cX2_hasRoomAt 19 = .ok (.invokevirtual 65, 3) := by decide +kernel
theorem dX2_hasRoomAt_22 : decode cX2_hasRoomAt 22 = .ok (.if_icmp .gt 7, 3) := by decide +kernel
theorem dX2_hasRoomAt_25 : decode cX2_hasRoomAt 25 = .ok (.iconst 1, 1) := by decide +kernel
theorem dX2_hasRoomAt_26 : decode cX2_hasRoomAt 26 = .ok (.goto 4, 3) := by decide +kernel
theorem dX2_hasRoomAt_29 : decode cX2_hasRoomAt 29 = .ok (.iconst 0, 1) := by decide +kernel
theorem dX2_hasRoomAt_30 : decode cX2_hasRoomAt 30 = .ok (.ireturn, 1) := by decide +kernel
set_option maxRecDepth 20000 in
theorem ggX2_writeAt_X2_beginningAt : GoodIn wsX2_writeAt wsX2_beginningAt := goodIn_r _ [7, 8, 9, 10, 6, 11, 12, 13, 14, 15, 16, 17, 18, 19, 20, 21, 22, 23, 24, 25, 26, 27, 28, 29, 30, 31, 32, 33, 34, 35, 36, 37, 38, 39, 40, 41, 42, 92, 93, 94, 95, 96, 97, 98, 99, 100, 101, 102, 103, 104, 105] (by decide +kernel) (by decide +kernel)
set_option maxRecDepth 20000 in
theorem gX2_writeAt_X2_beginningAt : GoodIn wsX2_writeAt (wsV RX2 143 RX2 yX2_beginningAt wsX2_beginningAt) := goodIn_app (goodIn_of _ (by decide +kernel)) ggX2_writeAt_X2_beginningAt
set_option maxRecDepth 20000 in
theorem ggX2_writeAt_X2_sooner : GoodIn wsX2_writeAt wsX2_sooner := goodIn_r _ [46, 47, 48, 49, 50, 51, 52, 53, 6, 54, 55, 56, 57, 36, 37, 38, 39, 40, 58, 59, 60, 61, 62, 63, 64, 65, 66, 67, 68, 69, 70, 18, 71, 92, 93, 94, 95, 96, 97, 98, 99, 100, 101, 102, 103, 104, 105] (by decide +kernel) (by decide +kernel)
set_option maxRecDepth 20000 in
theorem gX2_writeAt_X2_sooner : GoodIn wsX2_writeAt (wsV RX2 111 RX2 yX2_sooner wsX2_sooner) := goodIn_app (goodIn_of _ (by decide +kernel)) ggX2_writeAt_X2_sooner
set_option maxRecDepth 20000 in
theorem ggX2_writeAt_X2_longWith : GoodIn wsX2_writeAt wsX2_longWith := goodIn_r _ [35, 36, 37, 38, 6, 39, 40, 41, 18, 42, 92, 93, 94, 95, 96, 97, 98, 99, 100, 101, 102, 103, 104, 105] (by decide +kernel) (by decide +kernel)
set_option maxRecDepth 20000 in
theorem gX2_writeAt_X2_longWith : GoodIn wsX2_writeAt (wsV RX2 124 RX2 yX2_longWith wsX2_longWith) := goodIn_app (goodIn_of _ (by decide +kernel)) ggX2_writeAt_X2_longWith
set_option maxRecDepth 20000 in
theorem ggX2_writeAt_X2_playedThrough : GoodIn wsX2_writeAt wsX2_playedThrough := goodIn_r _ [61, 36, 37, 38, 6, 39, 40, 92, 93, 94, 95, 96, 97, 98, 99, 100, 101, 102, 103, 104, 105] (by decide +kernel) (by decide +kernel)
set_option maxRecDepth 20000 in
theorem gX2_writeAt_X2_playedThrough : GoodIn wsX2_writeAt (wsV RX2 102 RX2 yX2_playedThrough wsX2_playedThrough) := goodIn_app (goodIn_of _ (by decide +kernel)) ggX2_writeAt_X2_playedThrough
set_option maxRecDepth 20000 in
theorem ggX2_writeAt_X2_putBlock : GoodIn wsX2_writeAt wsX2_putBlock := goodIn_r _ [75, 16, 24, 31, 76, 77, 78, 18, 79, 25, 26, 80, 81, 82, 83, 84, 85, 86, 87, 88, 89, 6, 90, 91, 92, 93, 94, 95, 96, 97, 98, 99, 100, 101, 102, 103, 104, 105] (by decide +kernel) (by decide +kernel)
set_option maxRecDepth 20000 in
theorem gX2_writeAt_X2_putBlock : GoodIn wsX2_writeAt (wsV RX2 146 RX2 yX2_putBlock wsX2_putBlock) := goodIn_app (goodIn_of _ (by decide +kernel)) ggX2_writeAt_X2_putBlock
set_option maxRecDepth 20000 in
theorem ggX2_writeAt_X2_endOf : GoodIn wsX2_writeAt wsX2_endOf := goodIn_r _ [11, 12, 13, 14, 6, 15, 16, 17, 18, 19, 20, 21, 22, 23, 24, 25, 26, 27, 28, 29, 30, 31, 32, 33, 34, 35, 36, 37, 38, 39, 40, 41, 42, 92, 93, 94, 95, 96, 97, 98, 99, 100, 101, 102, 103, 104, 105] (by decide +kernel) (by decide +kernel)
set_option maxRecDepth 20000 in
theorem gX2_writeAt_X2_endOf : GoodIn wsX2_writeAt (wsV RX2 133 RX2 yX2_endOf wsX2_endOf) := goodIn_app (goodIn_of _ (by decide +kernel)) ggX2_writeAt_X2_endOf
theorem dX2_writeAt_0 : decode cX2_writeAt 0 = .ok (.aload_n 0, 1) := by decide +kernel
theorem dX2_writeAt_1 : decode cX2_writeAt 1 = .ok (.iload_n 1, 1) := by decide +kernel
theorem dX2_writeAt_2 : decode cX2_writeAt 2 = .ok (.invokevirtual 143, 3) := by decide +kernel
theorem dX2_writeAt_5 : decode cX2_writeAt 5 = .ok (.istore_n 3, 1) := by decide +kernel
theorem dX2_writeAt_6 : decode cX2_writeAt 6 = .ok (.aload_n 0, 1) := by decide +kernel
theorem dX2_writeAt_7 : decode cX2_writeAt 7 = .ok (.aload_n 0, 1) := by decide +kernel
theorem dX2_writeAt_8 : decode cX2_writeAt 8 = .ok (.getfield 50, 3) := by decide +kernel
theorem dX2_writeAt_11 : decode cX2_writeAt 11 = .ok (.iload_n 3, 1) := by decide +kernel
theorem dX2_writeAt_12 : decode cX2_writeAt 12 = .ok (.invokevirtual 111, 3) := by decide +kernel
theorem dX2_writeAt_15 : decode cX2_writeAt 15 = .ok (.aload_n 0, 1) := by decide +kernel
theorem dX2_writeAt_16 : decode cX2_writeAt 16 = .ok (.aload_n 0, 1) := by decide +kernel
theorem dX2_writeAt_17 : decode cX2_writeAt 17 = .ok (.iload_n 2, 1) := by decide +kernel
theorem dX2_writeAt_18 : decode cX2_writeAt 18 = .ok (.invokevirtual 124, 3) := by decide +kernel
theorem dX2_writeAt_21 : decode cX2_writeAt 21 = .ok (.invokevirtual 102, 3) := by decide +kernel
theorem dX2_writeAt_24 : decode cX2_writeAt 24 = .ok (.iadd, 1) := by decide +kernel
theorem dX2_writeAt_25 : decode cX2_writeAt 25 = .ok (.istore 4, 2) := by decide +kernel
theorem dX2_writeAt_27 : decode cX2_writeAt 27 = .ok (.aload_n 0, 1) := by decide +kernel
theorem dX2_writeAt_28 : decode cX2_writeAt 28 = .ok (.iload_n 1, 1) := by decide +kernel
theorem dX2_writeAt_29 : decode cX2_writeAt 29 = .ok (.iload_n 3, 1) := by decide +kernel
theorem dX2_writeAt_30 : decode cX2_writeAt 30 = .ok (.iload_n 2, 1) := by decide +kernel
theorem dX2_writeAt_31 : decode cX2_writeAt 31 = .ok (.invokevirtual 146, 3) := by decide +kernel
theorem dX2_writeAt_34 : decode cX2_writeAt 34 = .ok (.aload_n 0, 1) := by decide +kernel
theorem dX2_writeAt_35 : decode cX2_writeAt 35 = .ok (.aload_n 0, 1) := by decide +kernel
theorem dX2_writeAt_36 : decode cX2_writeAt 36 = .ok (.iload_n 1, 1) := by decide +kernel
theorem dX2_writeAt_37 : decode cX2_writeAt 37 = .ok (.invokevirtual 133, 3) := by decide +kernel
theorem dX2_writeAt_40 : decode cX2_writeAt 40 = .ok (.putfield 50, 3) := by decide +kernel
theorem dX2_writeAt_43 : decode cX2_writeAt 43 = .ok (.aload_n 0, 1) := by decide +kernel
theorem dX2_writeAt_44 : decode cX2_writeAt 44 = .ok (.dup, 1) := by decide +kernel
theorem dX2_writeAt_45 : decode cX2_writeAt 45 = .ok (.getfield 53, 3) := by decide +kernel
theorem dX2_writeAt_48 : decode cX2_writeAt 48 = .ok (.iload 4, 2) := by decide +kernel
theorem dX2_writeAt_50 : decode cX2_writeAt 50 = .ok (.iadd, 1) := by decide +kernel
theorem dX2_writeAt_51 : decode cX2_writeAt 51 = .ok (.putfield 53, 3) := by decide +kernel
theorem dX2_writeAt_54 : decode cX2_writeAt 54 = .ok (.iload 4, 2) := by decide +kernel
theorem dX2_writeAt_56 : decode cX2_writeAt 56 = .ok (.ireturn, 1) := by decide +kernel
set_option maxRecDepth 20000 in
theorem ggX2_putBlock_X4_setCell : GoodIn wsX2_putBlock wsX4_setCell := goodIn_r _ [8] (by decide +kernel) (by decide +kernel)
set_option maxRecDepth 20000 in
theorem gX2_putBlock_X4_setCell_n139 : GoodIn wsX2_putBlock (wsX4_setCell) := ggX2_putBlock_X4_setCell
set_option maxRecDepth 20000 in
theorem ggX2_putBlock_X4_cell : GoodIn wsX2_putBlock wsX4_cell := goodIn_r _ [10] (by decide +kernel) (by decide +kernel)
set_option maxRecDepth 20000 in
theorem gX2_putBlock_X4_cell_n114 : GoodIn wsX2_putBlock (wsX4_cell) := ggX2_putBlock_X4_cell
set_option maxRecDepth 20000 in
theorem ggX2_putBlock_J6_bitCount_0f7a4 : GoodIn wsX2_putBlock wsJ6_bitCount_0f7a4 := goodIn_r _ [14, 15, 16, 17] (by decide +kernel) (by decide +kernel)
set_option maxRecDepth 20000 in
theorem gX2_putBlock_J6_bitCount_0f7a4 : GoodIn wsX2_putBlock (va_wsS RX2 150 yJ6_bitCount_0f7a4 wsJ6_bitCount_0f7a4) := goodIn_app (goodIn_of _ (by decide +kernel)) ggX2_putBlock_J6_bitCount_0f7a4
set_option maxRecDepth 20000 in
theorem ggX2_putBlock_X2_setColumn : GoodIn wsX2_putBlock wsX2_setColumn := goodIn_r _ [22, 23, 6, 7, 8, 24, 25, 26, 27, 28, 29, 30, 31, 32, 33, 34, 35, 36, 37] (by decide +kernel) (by decide +kernel)
set_option maxRecDepth 20000 in
theorem gX2_putBlock_X2_setColumn : GoodIn wsX2_putBlock (wsV RX2 155 RX2 yX2_setColumn wsX2_setColumn) := goodIn_app (goodIn_of _ (by decide +kernel)) ggX2_putBlock_X2_setColumn
theorem dX2_putBlock_0 : decode cX2_putBlock 0 = .ok (.aload_n 0, 1) := by decide +kernel
theorem dX2_putBlock_1 : decode cX2_putBlock 1 = .ok (.iload_n 1, 1) := by decide +kernel
theorem dX2_putBlock_2 : decode cX2_putBlock 2 = .ok (.iconst 1, 1) := by decide +kernel
theorem dX2_putBlock_3 : decode cX2_putBlock 3 = .ok (.iadd, 1) := by decide +kernel
theorem dX2_putBlock_4 : decode cX2_putBlock 4 = .ok (.putfield 46, 3) := by decide +kernel
theorem dX2_putBlock_7 : decode cX2_putBlock 7 = .ok (.aload_n 0, 1) := by decide +kernel
theorem dX2_putBlock_8 : decode cX2_putBlock 8 = .ok (.getfield 15, 3) := by decide +kernel
theorem dX2_putBlock_11 : decode cX2_putBlock 11 = .ok (.iload_n 1, 1) := by decide +kernel
theorem dX2_putBlock_12 : decode cX2_putBlock 12 = .ok (.iload_n 2, 1) := by decide +kernel
theorem dX2_putBlock_13 : decode cX2_putBlock 13 = .ok (.invokestatic 139, 3) := by decide +kernel
theorem dX2_putBlock_16 : decode cX2_putBlock 16 = .ok (.aload_n 0, 1) := by decide +kernel
theorem dX2_putBlock_17 : decode cX2_putBlock 17 = .ok (.getfield 18, 3) := by decide +kernel
theorem dX2_putBlock_20 : decode cX2_putBlock 20 = .ok (.iload_n 1, 1) := by decide +kernel
theorem dX2_putBlock_21 : decode cX2_putBlock 21 = .ok (.iload_n 3, 1) := by decide +kernel
theorem dX2_putBlock_22 : decode cX2_putBlock 22 = .ok (.invokestatic 139, 3) := by decide +kernel
theorem dX2_putBlock_25 : decode cX2_putBlock 25 = .ok (.iconst 0, 1) := by decide +kernel
theorem dX2_putBlock_26 : decode cX2_putBlock 26 = .ok (.istore 4, 2) := by decide +kernel
theorem dX2_putBlock_28 : decode cX2_putBlock 28 = .ok (.iconst 0, 1) := by decide +kernel
theorem dX2_putBlock_29 : decode cX2_putBlock 29 = .ok (.istore 5, 2) := by decide +kernel
theorem dX2_putBlock_31 : decode cX2_putBlock 31 = .ok (.iload 5, 2) := by decide +kernel
theorem dX2_putBlock_33 : decode cX2_putBlock 33 = .ok (.iload_n 3, 1) := by decide +kernel
theorem dX2_putBlock_34 : decode cX2_putBlock 34 = .ok (.if_icmp .ge 74, 3) := by decide +kernel
theorem dX2_putBlock_37 : decode cX2_putBlock 37 = .ok (.aload_n 0, 1) := by decide +kernel
theorem dX2_putBlock_38 : decode cX2_putBlock 38 = .ok (.getfield 27, 3) := by decide +kernel
theorem dX2_putBlock_41 : decode cX2_putBlock 41 = .ok (.iload 5, 2) := by decide +kernel
theorem dX2_putBlock_43 : decode cX2_putBlock 43 = .ok (.invokestatic 114, 3) := by decide +kernel
theorem dX2_putBlock_46 : decode cX2_putBlock 46 = .ok (.istore 6, 2) := by decide +kernel
theorem dX2_putBlock_48 : decode cX2_putBlock 48 = .ok (.iload 6, 2) := by decide +kernel
theorem dX2_putBlock_50 : decode cX2_putBlock 50 = .ok (.iload 6, 2) := by decide +kernel
theorem dX2_putBlock_52 : decode cX2_putBlock 52 = .ok (.invokestatic 150, 3) := by decide +kernel
theorem dX2_putBlock_55 : decode cX2_putBlock 55 = .ok (.iconst 2, 1) := by decide +kernel
theorem dX2_putBlock_56 : decode cX2_putBlock 56 = .ok (.irem, 1) := by decide +kernel
theorem dX2_putBlock_57 : decode cX2_putBlock 57 = .ok (.ifCond .ne 9, 3) := by decide +kernel
theorem dX2_putBlock_60 : decode cX2_putBlock 60 = .ok (.sipush 256, 3) := by decide +kernel
theorem dX2_putBlock_63 : decode cX2_putBlock 63 = .ok (.goto 4, 3) := by decide +kernel
theorem dX2_putBlock_66 : decode cX2_putBlock 66 = .ok (.iconst 0, 1) := by decide +kernel
theorem dX2_putBlock_67 : decode cX2_putBlock 67 = .ok (.ior, 1) := by decide +kernel
theorem dX2_putBlock_68 : decode cX2_putBlock 68 = .ok (.istore 7, 2) := by decide +kernel
theorem dX2_putBlock_70 : decode cX2_putBlock 70 = .ok (.aload_n 0, 1) := by decide +kernel
theorem dX2_putBlock_71 : decode cX2_putBlock 71 = .ok (.getfield 24, 3) := by decide +kernel
theorem dX2_putBlock_74 : decode cX2_putBlock 74 = .ok (.iload_n 1, 1) := by decide +kernel
theorem dX2_putBlock_75 : decode cX2_putBlock 75 = .ok (.bipush 12, 2) := by decide +kernel
theorem dX2_putBlock_77 : decode cX2_putBlock 77 = .ok (.imul, 1) := by decide +kernel
theorem dX2_putBlock_78 : decode cX2_putBlock 78 = .ok (.iload 5, 2) := by decide +kernel
theorem dX2_putBlock_80 : decode cX2_putBlock 80 = .ok (.iadd, 1) := by decide +kernel
theorem dX2_putBlock_81 : decode cX2_putBlock 81 = .ok (.iload 6, 2) := by decide +kernel
theorem dX2_putBlock_83 : decode cX2_putBlock 83 = .ok (.invokestatic 139, 3) := by decide +kernel
theorem dX2_putBlock_86 : decode cX2_putBlock 86 = .ok (.aload_n 0, 1) := by decide +kernel
theorem dX2_putBlock_87 : decode cX2_putBlock 87 = .ok (.iload_n 1, 1) := by decide +kernel
theorem dX2_putBlock_88 : decode cX2_putBlock 88 = .ok (.iload 5, 2) := by decide +kernel
theorem dX2_putBlock_90 : decode cX2_putBlock 90 = .ok (.iload 7, 2) := by decide +kernel
theorem dX2_putBlock_92 : decode cX2_putBlock 92 = .ok (.invokevirtual 155, 3) := by decide +kernel
theorem dX2_putBlock_95 : decode cX2_putBlock 95 = .ok (.iload 4, 2) := by decide +kernel
theorem dX2_putBlock_97 : decode cX2_putBlock 97 = .ok (.iload 7, 2) := by decide +kernel
theorem dX2_putBlock_99 : decode cX2_putBlock 99 = .ok (.ixor, 1) := by decide +kernel
theorem dX2_putBlock_100 : decode cX2_putBlock 100 = .ok (.istore 4, 2) := by decide +kernel
theorem dX2_putBlock_102 : decode cX2_putBlock 102 = .ok (.iinc 5 1, 3) := by decide +kernel
theorem dX2_putBlock_105 : decode cX2_putBlock 105 = .ok (.goto (-74), 3) := by decide +kernel
theorem dX2_putBlock_108 : decode cX2_putBlock 108 = .ok (.aload_n 0, 1) := by decide +kernel
theorem dX2_putBlock_109 : decode cX2_putBlock 109 = .ok (.iload_n 1, 1) := by decide +kernel
theorem dX2_putBlock_110 : decode cX2_putBlock 110 = .ok (.iload_n 3, 1) := by decide +kernel
theorem dX2_putBlock_111 : decode cX2_putBlock 111 = .ok (.iload 4, 2) := by decide +kernel
theorem dX2_putBlock_113 : decode cX2_putBlock 113 = .ok (.invokevirtual 155, 3) := by decide +kernel
theorem dX2_putBlock_116 : decode cX2_putBlock 116 = .ok (.return_, 1) := by decide +kernel
set_option maxRecDepth 20000 in
theorem ggX2_layOutBlocks_X2_beginningAt : GoodIn wsX2_layOutBlocks wsX2_beginningAt := goodIn_r _ [7, 8, 9, 10, 6, 11, 12, 13, 14, 15, 1, 16, 17, 18, 19, 20, 21, 22, 2, 23, 24, 25, 26, 27, 28, 29, 30, 31, 32, 33, 34, 35, 36, 37, 38, 39, 40, 43, 44, 45, 46, 47, 48, 49, 50, 51, 52, 53, 54, 55, 56] (by decide +kernel) (by decide +kernel)
set_option maxRecDepth 20000 in
theorem gX2_layOutBlocks_X2_beginningAt : GoodIn wsX2_layOutBlocks (wsV RX2 143 RX2 yX2_beginningAt wsX2_beginningAt) := goodIn_app (goodIn_of _ (by decide +kernel)) ggX2_layOutBlocks_X2_beginningAt
set_option maxRecDepth 20000 in
theorem ggX2_layOutBlocks_X4_setCell : GoodIn wsX2_layOutBlocks wsX4_setCell := goodIn_r _ [42] (by decide +kernel) (by decide +kernel)
set_option maxRecDepth 20000 in
theorem gX2_layOutBlocks_X4_setCell_n139 : GoodIn wsX2_layOutBlocks (wsX4_setCell) := ggX2_layOutBlocks_X4_setCell
theorem dX2_layOutBlocks_0 : decode cX2_layOutBlocks 0 = .ok (.iconst 0, 1) := by decide +kernel
theorem dX2_layOutBlocks_1 : decode cX2_layOutBlocks 1 = .ok (.istore_n 1, 1) := by decide +kernel
theorem dX2_layOutBlocks_2 : decode cX2_layOutBlocks 2 = .ok (.iload_n 1, 1) := by decide +kernel
theorem dX2_layOutBlocks_3 : decode cX2_layOutBlocks 3 = .ok (.aload_n 0, 1) := by decide +kernel
theorem dX2_layOutBlocks_4 : decode cX2_layOutBlocks 4 = .ok (.getfield 46, 3) := by decide +kernel
theorem dX2_layOutBlocks_7 : decode cX2_layOutBlocks 7 = .ok (.if_icmp .ge 22, 3) := by decide +kernel
theorem dX2_layOutBlocks_10 : decode cX2_layOutBlocks 10 = .ok (.aload_n 0, 1) := by decide +kernel
theorem dX2_layOutBlocks_11 : decode cX2_layOutBlocks 11 = .ok (.getfield 15, 3) := by decide +kernel
theorem dX2_layOutBlocks_14 : decode cX2_layOutBlocks 14 = .ok (.iload_n 1, 1) := by decide +kernel
theorem dX2_layOutBlocks_15 : decode cX2_layOutBlocks 15 = .ok (.aload_n 0, 1) := by decide +kernel
theorem dX2_layOutBlocks_16 : decode cX2_layOutBlocks 16 = .ok (.iload_n 1, 1) := by decide +kernel
theorem dX2_layOutBlocks_17 : decode cX2_layOutBlocks 17 = .ok (.invokevirtual 143, 3) := by decide +kernel
theorem dX2_layOutBlocks_20 : decode cX2_layOutBlocks 20 = .ok (.invokestatic 139, 3) := by decide +kernel
theorem dX2_layOutBlocks_23 : decode cX2_layOutBlocks 23 = .ok (.iinc 1 1, 3) := by decide +kernel
theorem dX2_layOutBlocks_26 : decode cX2_layOutBlocks 26 = .ok (.goto (-24), 3) := by decide +kernel
theorem dX2_layOutBlocks_29 : decode cX2_layOutBlocks 29 = .ok (.return_, 1) := by decide +kernel
set_option maxRecDepth 20000 in
theorem ggX2_cutOut_X2_beginOf : GoodIn wsX2_cutOut wsX2_beginOf := goodIn_r _ [8, 9, 10, 11, 12, 58, 59, 60, 61, 62, 63, 64, 65, 66, 67, 68, 69, 70, 71] (by decide +kernel) (by decide +kernel)
set_option maxRecDepth 20000 in
theorem gX2_cutOut_X2_beginOf : GoodIn wsX2_cutOut (wsV RX2 130 RX2 yX2_beginOf wsX2_beginOf) := goodIn_app (goodIn_of _ (by decide +kernel)) ggX2_cutOut_X2_beginOf
set_option maxRecDepth 20000 in
theorem ggX2_cutOut_X2_endOf : GoodIn wsX2_cutOut wsX2_endOf := goodIn_r _ [16, 17, 18, 19, 7, 20, 1, 21, 11, 22, 4, 5, 6, 8, 9, 10, 12, 23, 24, 25, 26, 27, 28, 29, 30, 31, 32, 33, 34, 35, 2, 36, 37, 58, 59, 60, 61, 62, 63, 64, 65, 66, 67, 68, 69, 70, 71] (by decide +kernel) (by decide +kernel)
set_option maxRecDepth 20000 in
theorem gX2_cutOut_X2_endOf : GoodIn wsX2_cutOut (wsV RX2 133 RX2 yX2_endOf wsX2_endOf) := goodIn_app (goodIn_of _ (by decide +kernel)) ggX2_cutOut_X2_endOf
set_option maxRecDepth 20000 in
theorem ggX2_cutOut_X2_moveBlock : GoodIn wsX2_cutOut wsX2_moveBlock := goodIn_r _ [41, 9, 27, 42, 4, 5, 6, 7, 8, 10, 11, 12, 43, 44, 23, 24, 25, 26, 45, 46, 47, 48, 49, 50, 51, 52, 53, 54, 55, 56, 57, 58, 59, 60, 61, 62, 63, 64, 65, 66, 67, 68, 69, 70, 71] (by decide +kernel) (by decide +kernel)
set_option maxRecDepth 20000 in
theorem gX2_cutOut_X2_moveBlock : GoodIn wsX2_cutOut (wsV RX2 158 RX2 yX2_moveBlock wsX2_moveBlock) := goodIn_app (goodIn_of _ (by decide +kernel)) ggX2_cutOut_X2_moveBlock
set_option maxRecDepth 20000 in
theorem ggX2_cutOut_X2_ruled : GoodIn wsX2_cutOut wsX2_ruled := goodIn_r _ [35, 2, 58, 59, 60, 61, 62, 63, 64, 65, 66, 67, 68, 69, 70, 71] (by decide +kernel) (by decide +kernel)
set_option maxRecDepth 20000 in
theorem gX2_cutOut_X2_ruled : GoodIn wsX2_cutOut (wsV RX2 65 RX2 yX2_ruled wsX2_ruled) := goodIn_app (goodIn_of _ (by decide +kernel)) ggX2_cutOut_X2_ruled
set_option maxRecDepth 20000 in
theorem ggX2_cutOut_X4_setCell : GoodIn wsX2_cutOut wsX4_setCell := goodIn_r _ [44] (by decide +kernel) (by decide +kernel)
set_option maxRecDepth 20000 in
theorem gX2_cutOut_X4_setCell_n139 : GoodIn wsX2_cutOut (wsX4_setCell) := ggX2_cutOut_X4_setCell
theorem dX2_cutOut_0 : decode cX2_cutOut 0 = .ok (.iconst 0, 1) := by decide +kernel
theorem dX2_cutOut_1 : decode cX2_cutOut 1 = .ok (.istore_n 3, 1) := by decide +kernel
theorem dX2_cutOut_2 : decode cX2_cutOut 2 = .ok (.aload_n 0, 1) := by decide +kernel
theorem dX2_cutOut_3 : decode cX2_cutOut 3 = .ok (.getfield 46, 3) := by decide +kernel
theorem dX2_cutOut_6 : decode cX2_cutOut 6 = .ok (.istore 4, 2) := by decide +kernel
theorem dX2_cutOut_8 : decode cX2_cutOut 8 = .ok (.iconst 0, 1) := by decide +kernel
theorem dX2_cutOut_9 : decode cX2_cutOut 9 = .ok (.istore 5, 2) := by decide +kernel
theorem dX2_cutOut_11 : decode cX2_cutOut 11 = .ok (.iload 5, 2) := by decide +kernel
theorem dX2_cutOut_13 : decode cX2_cutOut 13 = .ok (.iload 4, 2) := by decide +kernel
theorem dX2_cutOut_15 : decode cX2_cutOut 15 = .ok (.if_icmp .ge 66, 3) := by decide +kernel
theorem dX2_cutOut_18 : decode cX2_cutOut 18 = .ok (.aload_n 0, 1) := by decide +kernel
theorem dX2_cutOut_19 : decode cX2_cutOut 19 = .ok (.iload 5, 2) := by decide +kernel
theorem dX2_cutOut_21 : decode cX2_cutOut 21 = .ok (.invokevirtual 130, 3) := by decide +kernel
theorem dX2_cutOut_24 : decode cX2_cutOut 24 = .ok (.iload_n 2, 1) := by decide +kernel
theorem dX2_cutOut_25 : decode cX2_cutOut 25 = .ok (.if_icmp .lt 7, 3) := by decide +kernel
theorem dX2_cutOut_28 : decode cX2_cutOut 28 = .ok (.iconst 1, 1) := by decide +kernel
theorem dX2_cutOut_29 : decode cX2_cutOut 29 = .ok (.goto 4, 3) := by decide +kernel
theorem dX2_cutOut_32 : decode cX2_cutOut 32 = .ok (.iconst 0, 1) := by decide +kernel
theorem dX2_cutOut_33 : decode cX2_cutOut 33 = .ok (.istore 6, 2) := by decide +kernel
theorem dX2_cutOut_35 : decode cX2_cutOut 35 = .ok (.iload 6, 2) := by decide +kernel
theorem dX2_cutOut_37 : decode cX2_cutOut 37 = .ok (.ifCond .ne 16, 3) := by decide +kernel
theorem dX2_cutOut_40 : decode cX2_cutOut 40 = .ok (.aload_n 0, 1) := by decide +kernel
theorem dX2_cutOut_41 : decode cX2_cutOut 41 = .ok (.iload 5, 2) := by decide +kernel
theorem dX2_cutOut_43 : decode cX2_cutOut 43 = .ok (.invokevirtual 133, 3) := by decide +kernel
theorem dX2_cutOut_46 : decode cX2_cutOut 46 = .ok (.iload_n 1, 1) := by decide +kernel
theorem dX2_cutOut_47 : decode cX2_cutOut 47 = .ok (.if_icmp .le 6, 3) := by decide +kernel
theorem dX2_cutOut_50 : decode cX2_cutOut 50 = .ok (.goto 25, 3) := by decide +kernel
theorem dX2_cutOut_53 : decode cX2_cutOut 53 = .ok (.aload_n 0, 1) := by decide +kernel
theorem dX2_cutOut_54 : decode cX2_cutOut 54 = .ok (.iload 5, 2) := by decide +kernel
theorem dX2_cutOut_56 : decode cX2_cutOut 56 = .ok (.iload_n 3, 1) := by decide +kernel
theorem dX2_cutOut_57 : decode cX2_cutOut 57 = .ok (.iload 6, 2) := by decide +kernel
theorem dX2_cutOut_59 : decode cX2_cutOut 59 = .ok (.ifCond .eq 9, 3) := by decide +kernel
theorem dX2_cutOut_62 : decode cX2_cutOut 62 = .ok (.iload_n 2, 1) := by decide +kernel
theorem dX2_cutOut_63 : decode cX2_cutOut 63 = .ok (.iload_n 1, 1) := by decide +kernel
theorem dX2_cutOut_64 : decode cX2_cutOut 64 = .ok (.isub, 1) := by decide +kernel
theorem dX2_cutOut_65 : decode cX2_cutOut 65 = .ok (.goto 4, 3) := by decide +kernel
theorem dX2_cutOut_68 : decode cX2_cutOut 68 = .ok (.iconst 0, 1) := by decide +kernel
theorem dX2_cutOut_69 : decode cX2_cutOut 69 = .ok (.invokevirtual 158, 3) := by decide +kernel
theorem dX2_cutOut_72 : decode cX2_cutOut 72 = .ok (.iinc 3 1, 3) := by decide +kernel
theorem dX2_cutOut_75 : decode cX2_cutOut 75 = .ok (.iinc 5 1, 3) := by decide +kernel
theorem dX2_cutOut_78 : decode cX2_cutOut 78 = .ok (.goto (-67), 3) := by decide +kernel
theorem dX2_cutOut_81 : decode cX2_cutOut 81 = .ok (.aload_n 0, 1) := by decide +kernel
theorem dX2_cutOut_82 : decode cX2_cutOut 82 = .ok (.iload_n 3, 1) := by decide +kernel
theorem dX2_cutOut_83 : decode cX2_cutOut 83 = .ok (.putfield 46, 3) := by decide +kernel
theorem dX2_cutOut_86 : decode cX2_cutOut 86 = .ok (.aload_n 0, 1) := by decide +kernel
theorem dX2_cutOut_87 : decode cX2_cutOut 87 = .ok (.getfield 9, 3) := by decide +kernel
theorem dX2_cutOut_90 : decode cX2_cutOut 90 = .ok (.iconst 0, 1) := by decide +kernel
theorem dX2_cutOut_91 : decode cX2_cutOut 91 = .ok (.aload_n 0, 1) := by decide +kernel
theorem dX2_cutOut_92 : decode cX2_cutOut 92 = .ok (.iconst 0, 1) := by decide +kernel
theorem dX2_cutOut_93 : decode cX2_cutOut 93 = .ok (.invokevirtual 65, 3) := by decide +kernel
theorem dX2_cutOut_96 : decode cX2_cutOut 96 = .ok (.iload_n 2, 1) := by decide +kernel
theorem dX2_cutOut_97 : decode cX2_cutOut 97 = .ok (.iload_n 1, 1) := by decide +kernel
theorem dX2_cutOut_98 : decode cX2_cutOut 98 = .ok (.isub, 1) := by decide +kernel
theorem dX2_cutOut_99 : decode cX2_cutOut 99 = .ok (.isub, 1) := by decide +kernel
theorem dX2_cutOut_100 : decode cX2_cutOut 100 = .ok (.invokestatic 139, 3) := by decide +kernel
theorem dX2_cutOut_103 : decode cX2_cutOut 103 = .ok (.aload_n 0, 1) := by decide +kernel
theorem dX2_cutOut_104 : decode cX2_cutOut 104 = .ok (.getfield 50, 3) := by decide +kernel
theorem dX2_cutOut_107 : decode cX2_cutOut 107 = .ok (.iload_n 2, 1) := by decide +kernel
theorem dX2_cutOut_108 : decode cX2_cutOut 108 = .ok (.if_icmp .lt 18, 3) := by decide +kernel
theorem dX2_cutOut_111 : decode cX2_cutOut 111 = .ok (.aload_n 0, 1) := by decide +kernel
theorem dX2_cutOut_112 : decode cX2_cutOut 112 = .ok (.dup, 1) := by decide +kernel
theorem dX2_cutOut_113 : decode cX2_cutOut 113 = .ok (.getfield 50, 3) := by decide +kernel
theorem dX2_cutOut_116 : decode cX2_cutOut 116 = .ok (.iload_n 2, 1) := by decide +kernel
theorem dX2_cutOut_117 : decode cX2_cutOut 117 = .ok (.iload_n 1, 1) := by decide +kernel
theorem dX2_cutOut_118 : decode cX2_cutOut 118 = .ok (.isub, 1) := by decide +kernel
theorem dX2_cutOut_119 : decode cX2_cutOut 119 = .ok (.isub, 1) := by decide +kernel
theorem dX2_cutOut_120 : decode cX2_cutOut 120 = .ok (.putfield 50, 3) := by decide +kernel
theorem dX2_cutOut_123 : decode cX2_cutOut 123 = .ok (.goto 16, 3) := by decide +kernel
theorem dX2_cutOut_126 : decode cX2_cutOut 126 = .ok (.aload_n 0, 1) := by decide +kernel
theorem dX2_cutOut_127 : decode cX2_cutOut 127 = .ok (.getfield 50, 3) := by decide +kernel
theorem dX2_cutOut_130 : decode cX2_cutOut 130 = .ok (.iload_n 1, 1) := by decide +kernel
theorem dX2_cutOut_131 : decode cX2_cutOut 131 = .ok (.if_icmp .le 8, 3) := by decide +kernel
theorem dX2_cutOut_134 : decode cX2_cutOut 134 = .ok (.aload_n 0, 1) := by decide +kernel
theorem dX2_cutOut_135 : decode cX2_cutOut 135 = .ok (.iload_n 1, 1) := by decide +kernel
theorem dX2_cutOut_136 : decode cX2_cutOut 136 = .ok (.putfield 50, 3) := by decide +kernel
theorem dX2_cutOut_139 : decode cX2_cutOut 139 = .ok (.iload 4, 2) := by decide +kernel
theorem dX2_cutOut_141 : decode cX2_cutOut 141 = .ok (.iload_n 3, 1) := by decide +kernel
theorem dX2_cutOut_142 : decode cX2_cutOut 142 = .ok (.isub, 1) := by decide +kernel
theorem dX2_cutOut_143 : decode cX2_cutOut 143 = .ok (.ireturn, 1) := by decide +kernel
set_option maxRecDepth 20000 in
theorem ggX2_moveBlock_X2_beginOf : GoodIn wsX2_moveBlock wsX2_beginOf := goodIn_r _ [8, 1, 9, 10, 11, 31, 32, 33, 34, 35, 36, 37, 38, 39, 40, 41, 42, 43, 44] (by decide +kernel) (by decide +kernel)
set_option maxRecDepth 20000 in
theorem gX2_moveBlock_X2_beginOf : GoodIn wsX2_moveBlock (wsV RX2 130 RX2 yX2_beginOf wsX2_beginOf) := goodIn_app (goodIn_of _ (by decide +kernel)) ggX2_moveBlock_X2_beginOf
set_option maxRecDepth 20000 in
theorem ggX2_moveBlock_X4_setCell : GoodIn wsX2_moveBlock wsX4_setCell := goodIn_r _ [13] (by decide +kernel) (by decide +kernel)
set_option maxRecDepth 20000 in
theorem gX2_moveBlock_X4_setCell_n139 : GoodIn wsX2_moveBlock (wsX4_setCell) := ggX2_moveBlock_X4_setCell
set_option maxRecDepth 20000 in
theorem ggX2_moveBlock_X2_sizeOf : GoodIn wsX2_moveBlock wsX2_sizeOf := goodIn_r _ [17, 2, 9, 10, 11, 31, 32, 33, 34, 35, 36, 37, 38, 39, 40, 41, 42, 43, 44] (by decide +kernel) (by decide +kernel)
set_option maxRecDepth 20000 in
theorem gX2_moveBlock_X2_sizeOf : GoodIn wsX2_moveBlock (wsV RX2 118 RX2 yX2_sizeOf wsX2_sizeOf) := goodIn_app (goodIn_of _ (by decide +kernel)) ggX2_moveBlock_X2_sizeOf
set_option maxRecDepth 20000 in
theorem ggX2_moveBlock_X2_columnOf : GoodIn wsX2_moveBlock wsX2_columnOf := goodIn_r _ [21, 22, 9, 10, 11, 31, 32, 33, 34, 35, 36, 37, 38, 39, 40, 41, 42, 43, 44] (by decide +kernel) (by decide +kernel)
set_option maxRecDepth 20000 in
theorem gX2_moveBlock_X2_columnOf : GoodIn wsX2_moveBlock (wsV RX2 161 RX2 yX2_columnOf wsX2_columnOf) := goodIn_app (goodIn_of _ (by decide +kernel)) ggX2_moveBlock_X2_columnOf
set_option maxRecDepth 20000 in
theorem ggX2_moveBlock_X2_setColumn : GoodIn wsX2_moveBlock wsX2_setColumn := goodIn_r _ [26, 22, 12, 10, 13, 31, 32, 33, 34, 35, 36, 37, 38, 39, 40, 41, 42, 43, 44] (by decide +kernel) (by decide +kernel)
set_option maxRecDepth 20000 in
theorem gX2_moveBlock_X2_setColumn : GoodIn wsX2_moveBlock (wsV RX2 155 RX2 yX2_setColumn wsX2_setColumn) := goodIn_app (goodIn_of _ (by decide +kernel)) ggX2_moveBlock_X2_setColumn
set_option maxRecDepth 20000 in
theorem ggX2_moveBlock_X2_originalOf : GoodIn wsX2_moveBlock wsX2_originalOf := goodIn_r _ [30, 3, 9, 10, 11, 31, 32, 33, 34, 35, 36, 37, 38, 39, 40, 41, 42, 43, 44] (by decide +kernel) (by decide +kernel)
set_option maxRecDepth 20000 in
theorem gX2_moveBlock_X2_originalOf : GoodIn wsX2_moveBlock (wsV RX2 164 RX2 yX2_originalOf wsX2_originalOf) := goodIn_app (goodIn_of _ (by decide +kernel)) ggX2_moveBlock_X2_originalOf
theorem dX2_moveBlock_0 : decode cX2_moveBlock 0 = .ok (.aload_n 0, 1) := by decide +kernel
theorem dX2_moveBlock_1 : decode cX2_moveBlock 1 = .ok (.getfield 15, 3) := by decide +kernel
theorem dX2_moveBlock_4 : decode cX2_moveBlock 4 = .ok (.iload_n 2, 1) := by decide +kernel
theorem dX2_moveBlock_5 : decode cX2_moveBlock 5 = .ok (.aload_n 0, 1) := by decide +kernel
theorem dX2_moveBlock_6 : decode cX2_moveBlock 6 = .ok (.iload_n 1, 1) := by decide +kernel
theorem dX2_moveBlock_7 : decode cX2_moveBlock 7 = .ok (.invokevirtual 130, 3) := by decide +kernel
theorem dX2_moveBlock_10 : decode cX2_moveBlock 10 = .ok (.iload_n 3, 1) := by decide +kernel
theorem dX2_moveBlock_11 : decode cX2_moveBlock 11 = .ok (.isub, 1) := by decide +kernel
theorem dX2_moveBlock_12 : decode cX2_moveBlock 12 = .ok (.invokestatic 139, 3) := by decide +kernel
theorem dX2_moveBlock_15 : decode cX2_moveBlock 15 = .ok (.aload_n 0, 1) := by decide +kernel
theorem dX2_moveBlock_16 : decode cX2_moveBlock 16 = .ok (.getfield 18, 3) := by decide +kernel
theorem dX2_moveBlock_19 : decode cX2_moveBlock 19 = .ok (.iload_n 2, 1) := by decide +kernel
theorem dX2_moveBlock_20 : decode cX2_moveBlock 20 = .ok (.aload_n 0, 1) := by decide +kernel
theorem dX2_moveBlock_21 : decode cX2_moveBlock 21 = .ok (.iload_n 1, 1) := by decide +kernel
theorem dX2_moveBlock_22 : decode cX2_moveBlock 22 = .ok (.invokevirtual 118, 3) := by decide +kernel
theorem dX2_moveBlock_25 : decode cX2_moveBlock 25 = .ok (.invokestatic 139, 3) := by decide +kernel
theorem dX2_moveBlock_28 : decode cX2_moveBlock 28 = .ok (.iconst 0, 1) := by decide +kernel
theorem dX2_moveBlock_29 : decode cX2_moveBlock 29 = .ok (.istore 4, 2) := by decide +kernel
theorem dX2_moveBlock_31 : decode cX2_moveBlock 31 = .ok (.iload 4, 2) := by decide +kernel
theorem dX2_moveBlock_33 : decode cX2_moveBlock 33 = .ok (.bipush 13, 2) := by decide +kernel
theorem dX2_moveBlock_35 : decode cX2_moveBlock 35 = .ok (.if_icmp .ge 23, 3) := by decide +kernel
theorem dX2_moveBlock_38 : decode cX2_moveBlock 38 = .ok (.aload_n 0, 1) := by decide +kernel
theorem dX2_moveBlock_39 : decode cX2_moveBlock 39 = .ok (.iload_n 2, 1) := by decide +kernel
theorem dX2_moveBlock_40 : decode cX2_moveBlock 40 = .ok (.iload 4, 2) := by decide +kernel
theorem dX2_moveBlock_42 : decode cX2_moveBlock 42 = .ok (.aload_n 0, 1) := by decide +kernel
theorem dX2_moveBlock_43 : decode cX2_moveBlock 43 = .ok (.iload_n 1, 1) := by decide +kernel
theorem dX2_moveBlock_44 : decode cX2_moveBlock 44 = .ok (.iload 4, 2) := by decide +kernel
theorem dX2_moveBlock_46 : decode cX2_moveBlock 46 = .ok (.invokevirtual 161, 3) := by decide +kernel
theorem dX2_moveBlock_49 : decode cX2_moveBlock 49 = .ok (.invokevirtual 155, 3) := by decide +kernel
theorem dX2_moveBlock_52 : decode cX2_moveBlock 52 = .ok (.iinc 4 1, 3) := by decide +kernel
theorem dX2_moveBlock_55 : decode cX2_moveBlock 55 = .ok (.goto (-24), 3) := by decide +kernel
theorem dX2_moveBlock_58 : decode cX2_moveBlock 58 = .ok (.iconst 0, 1) := by decide +kernel
theorem dX2_moveBlock_59 : decode cX2_moveBlock 59 = .ok (.istore 4, 2) := by decide +kernel
theorem dX2_moveBlock_61 : decode cX2_moveBlock 61 = .ok (.iload 4, 2) := by decide +kernel
theorem dX2_moveBlock_63 : decode cX2_moveBlock 63 = .ok (.bipush 12, 2) := by decide +kernel
theorem dX2_moveBlock_65 : decode cX2_moveBlock 65 = .ok (.if_icmp .ge 30, 3) := by decide +kernel
theorem dX2_moveBlock_68 : decode cX2_moveBlock 68 = .ok (.aload_n 0, 1) := by decide +kernel
theorem dX2_moveBlock_69 : decode cX2_moveBlock 69 = .ok (.getfield 24, 3) := by decide +kernel
theorem dX2_moveBlock_72 : decode cX2_moveBlock 72 = .ok (.iload_n 2, 1) := by decide +kernel
theorem dX2_moveBlock_73 : decode cX2_moveBlock 73 = .ok (.bipush 12, 2) := by decide +kernel
theorem dX2_moveBlock_75 : decode cX2_moveBlock 75 = .ok (.imul, 1) := by decide +kernel
theorem dX2_moveBlock_76 : decode cX2_moveBlock 76 = .ok (.iload 4, 2) := by decide +kernel
theorem dX2_moveBlock_78 : decode cX2_moveBlock 78 = .ok (.iadd, 1) := by decide +kernel
theorem dX2_moveBlock_79 : decode cX2_moveBlock 79 = .ok (.aload_n 0, 1) := by decide +kernel
theorem dX2_moveBlock_80 : decode cX2_moveBlock 80 = .ok (.iload_n 1, 1) := by decide +kernel
theorem dX2_moveBlock_81 : decode cX2_moveBlock 81 = .ok (.iload 4, 2) := by decide +kernel
theorem dX2_moveBlock_83 : decode cX2_moveBlock 83 = .ok (.invokevirtual 164, 3) := by decide +kernel
theorem dX2_moveBlock_86 : decode cX2_moveBlock 86 = .ok (.invokestatic 139, 3) := by decide +kernel
theorem dX2_moveBlock_89 : decode cX2_moveBlock 89 = .ok (.iinc 4 1, 3) := by decide +kernel
theorem dX2_moveBlock_92 : decode cX2_moveBlock 92 = .ok (.goto (-31), 3) := by decide +kernel
theorem dX2_moveBlock_95 : decode cX2_moveBlock 95 = .ok (.return_, 1) := by decide +kernel
set_option maxRecDepth 20000 in
theorem ggX2_hasColumn_X2_hasBlock : GoodIn wsX2_hasColumn wsX2_hasBlock := goodIn_r _ [5, 6, 7, 8, 9, 21, 22, 23, 24, 25, 26, 27, 28, 29, 30, 31, 32, 33, 34] (by decide +kernel) (by decide +kernel)
set_option maxRecDepth 20000 in
theorem gX2_hasColumn_X2_hasBlock : GoodIn wsX2_hasColumn (wsV RX2 127 RX2 yX2_hasBlock wsX2_hasBlock) := goodIn_app (goodIn_of _ (by decide +kernel)) ggX2_hasColumn_X2_hasBlock
set_option maxRecDepth 20000 in
theorem ggX2_hasColumn_X2_isMark : GoodIn wsX2_hasColumn wsX2_isMark := goodIn_r _ [13, 14, 15, 16, 4, 17, 18, 19, 8, 20, 21, 22, 23, 24, 25, 26, 27, 28, 29, 30, 31, 32, 33, 34] (by decide +kernel) (by decide +kernel)
set_option maxRecDepth 20000 in
theorem gX2_hasColumn_X2_isMark : GoodIn wsX2_hasColumn (wsV RX2 136 RX2 yX2_isMark wsX2_isMark) := goodIn_app (goodIn_of _ (by decide +kernel)) ggX2_hasColumn_X2_isMark
set_option maxRecDepth 20000 in
theorem ggX2_hasColumn_X2_sizeOf : GoodIn wsX2_hasColumn wsX2_sizeOf := goodIn_r _ [17, 18, 19, 8, 20, 21, 22, 23, 24, 25, 26, 27, 28, 29, 30, 31, 32, 33, 34] (by decide +kernel) (by decide +kernel)
set_option maxRecDepth 20000 in
theorem gX2_hasColumn_X2_sizeOf : GoodIn wsX2_hasColumn (wsV RX2 118 RX2 yX2_sizeOf wsX2_sizeOf) := goodIn_app (goodIn_of _ (by decide +kernel)) ggX2_hasColumn_X2_sizeOf
set_option maxRecDepth 20000 in
theorem ggX2_hasColumn_X4_isBetween : GoodIn wsX2_hasColumn wsX4_isBetween := goodIn_r _ [9] (by decide +kernel) (by decide +kernel)
set_option maxRecDepth 20000 in
theorem gX2_hasColumn_X4_isBetween_n69 : GoodIn wsX2_hasColumn (wsX4_isBetween) := ggX2_hasColumn_X4_isBetween
theorem dX2_hasColumn_0 : decode cX2_hasColumn 0 = .ok (.aload_n 0, 1) := by decide +kernel
theorem dX2_hasColumn_1 : decode cX2_hasColumn 1 = .ok (.iload_n 1, 1) := by decide +kernel
theorem dX2_hasColumn_2 : decode cX2_hasColumn 2 = .ok (.invokevirtual 127, 3) := by decide +kernel
theorem dX2_hasColumn_5 : decode cX2_hasColumn 5 = .ok (.ifCond .eq 28, 3) := by decide +kernel
theorem dX2_hasColumn_8 : decode cX2_hasColumn 8 = .ok (.aload_n 0, 1) := by decide +kernel
theorem dX2_hasColumn_9 : decode cX2_hasColumn 9 = .ok (.iload_n 1, 1) := by decide +kernel
theorem dX2_hasColumn_10 : decode cX2_hasColumn 10 = .ok (.invokevirtual 136, 3) := by decide +kernel
theorem dX2_hasColumn_13 : decode cX2_hasColumn 13 = .ok (.ifCond .ne 20, 3) := by decide +kernel
theorem dX2_hasColumn_16 : decode cX2_hasColumn 16 = .ok (.iload_n 2, 1) := by decide +kernel
theorem dX2_hasColumn_17 : decode cX2_hasColumn 17 = .ok (.iconst 0, 1) := by decide +kernel
theorem dX2_hasColumn_18 : decode cX2_hasColumn 18 = .ok (.aload_n 0, 1) := by decide +kernel
theorem dX2_hasColumn_19 : decode cX2_hasColumn 19 = .ok (.iload_n 1, 1) := by decide +kernel
theorem dX2_hasColumn_20 : decode cX2_hasColumn 20 = .ok (.invokevirtual 118, 3) := by decide +kernel
theorem dX2_hasColumn_23 : decode cX2_hasColumn 23 = .ok (.invokestatic 69, 3) := by decide +kernel
theorem dX2_hasColumn_26 : decode cX2_hasColumn 26 = .ok (.ifCond .eq 7, 3) := by decide +kernel
theorem dX2_hasColumn_29 : decode cX2_hasColumn 29 = .ok (.iconst 1, 1) := by decide +kernel
theorem dX2_hasColumn_30 : decode cX2_hasColumn 30 = .ok (.goto 4, 3) := by decide +kernel
theorem dX2_hasColumn_33 : decode cX2_hasColumn 33 = .ok (.iconst 0, 1) := by decide +kernel
theorem dX2_hasColumn_34 : decode cX2_hasColumn 34 = .ok (.ireturn, 1) := by decide +kernel
set_option maxRecDepth 20000 in
theorem ggX2_columnOf_X4_cell : GoodIn wsX2_columnOf wsX4_cell := goodIn_r _ [4] (by decide +kernel) (by decide +kernel)
set_option maxRecDepth 20000 in
theorem gX2_columnOf_X4_cell_n114 : GoodIn wsX2_columnOf (wsX4_cell) := ggX2_columnOf_X4_cell
theorem dX2_columnOf_0 : decode cX2_columnOf 0 = .ok (.aload_n 0, 1) := by decide +kernel
theorem dX2_columnOf_1 : decode cX2_columnOf 1 = .ok (.getfield 21, 3) := by decide +kernel
theorem dX2_columnOf_4 : decode cX2_columnOf 4 = .ok (.iload_n 1, 1) := by decide +kernel
theorem dX2_columnOf_5 : decode cX2_columnOf 5 = .ok (.bipush 13, 2) := by decide +kernel
theorem dX2_columnOf_7 : decode cX2_columnOf 7 = .ok (.imul, 1) := by decide +kernel
theorem dX2_columnOf_8 : decode cX2_columnOf 8 = .ok (.iload_n 2, 1) := by decide +kernel
theorem dX2_columnOf_9 : decode cX2_columnOf 9 = .ok (.iadd, 1) := by decide +kernel
theorem dX2_columnOf_10 : decode cX2_columnOf 10 = .ok (.invokestatic 114, 3) := by decide +kernel
theorem dX2_columnOf_13 : decode cX2_columnOf 13 = .ok (.ireturn, 1) := by decide +kernel
set_option maxRecDepth 20000 in
theorem ggX2_setColumn_X4_setCell : GoodIn wsX2_setColumn wsX4_setCell := goodIn_r _ [4] (by decide +kernel) (by decide +kernel)
set_option maxRecDepth 20000 in
theorem gX2_setColumn_X4_setCell_n139 : GoodIn wsX2_setColumn (wsX4_setCell) := ggX2_setColumn_X4_setCell
theorem dX2_setColumn_0 : decode cX2_setColumn 0 = .ok (.aload_n 0, 1) := by decide +kernel
theorem dX2_setColumn_1 : decode cX2_setColumn 1 = .ok (.getfield 21, 3) := by decide +kernel
theorem dX2_setColumn_4 : decode cX2_setColumn 4 = .ok (.iload_n 1, 1) := by decide +kernel
theorem dX2_setColumn_5 : decode cX2_setColumn 5 = .ok (.bipush 13, 2) := by decide +kernel
theorem dX2_setColumn_7 : decode cX2_setColumn 7 = .ok (.imul, 1) := by decide +kernel
theorem dX2_setColumn_8 : decode cX2_setColumn 8 = .ok (.iload_n 2, 1) := by decide +kernel
theorem dX2_setColumn_9 : decode cX2_setColumn 9 = .ok (.iadd, 1) := by decide +kernel
theorem dX2_setColumn_10 : decode cX2_setColumn 10 = .ok (.iload_n 3, 1) := by decide +kernel
theorem dX2_setColumn_11 : decode cX2_setColumn 11 = .ok (.invokestatic 139, 3) := by decide +kernel
theorem dX2_setColumn_14 : decode cX2_setColumn 14 = .ok (.return_, 1) := by decide +kernel
set_option maxRecDepth 20000 in
theorem ggX2_turnBit_X2_columnOf : GoodIn wsX2_turnBit wsX2_columnOf := goodIn_r _ [5, 6, 7, 8, 9, 16, 17, 18, 19, 20, 21, 22, 23, 24, 25, 26, 27, 28, 29] (by decide +kernel) (by decide +kernel)
set_option maxRecDepth 20000 in
theorem gX2_turnBit_X2_columnOf : GoodIn wsX2_turnBit (wsV RX2 161 RX2 yX2_columnOf wsX2_columnOf) := goodIn_app (goodIn_of _ (by decide +kernel)) ggX2_turnBit_X2_columnOf
set_option maxRecDepth 20000 in
theorem ggX2_turnBit_X2_setColumn : GoodIn wsX2_turnBit wsX2_setColumn := goodIn_r _ [13, 6, 14, 8, 15, 16, 17, 18, 19, 20, 21, 22, 23, 24, 25, 26, 27, 28, 29] (by decide +kernel) (by decide +kernel)
set_option maxRecDepth 20000 in
theorem gX2_turnBit_X2_setColumn : GoodIn wsX2_turnBit (wsV RX2 155 RX2 yX2_setColumn wsX2_setColumn) := goodIn_app (goodIn_of _ (by decide +kernel)) ggX2_turnBit_X2_setColumn
theorem dX2_turnBit_0 : decode cX2_turnBit 0 = .ok (.aload_n 0, 1) := by decide +kernel
theorem dX2_turnBit_1 : decode cX2_turnBit 1 = .ok (.iload_n 1, 1) := by decide +kernel
theorem dX2_turnBit_2 : decode cX2_turnBit 2 = .ok (.iload_n 2, 1) := by decide +kernel
theorem dX2_turnBit_3 : decode cX2_turnBit 3 = .ok (.aload_n 0, 1) := by decide +kernel
theorem dX2_turnBit_4 : decode cX2_turnBit 4 = .ok (.iload_n 1, 1) := by decide +kernel
theorem dX2_turnBit_5 : decode cX2_turnBit 5 = .ok (.iload_n 2, 1) := by decide +kernel
theorem dX2_turnBit_6 : decode cX2_turnBit 6 = .ok (.invokevirtual 161, 3) := by decide +kernel
theorem dX2_turnBit_9 : decode cX2_turnBit 9 = .ok (.iconst 1, 1) := by decide +kernel
theorem dX2_turnBit_10 : decode cX2_turnBit 10 = .ok (.iload_n 3, 1) := by decide +kernel
theorem dX2_turnBit_11 : decode cX2_turnBit 11 = .ok (.ishl, 1) := by decide +kernel
theorem dX2_turnBit_12 : decode cX2_turnBit 12 = .ok (.ixor, 1) := by decide +kernel
theorem dX2_turnBit_13 : decode cX2_turnBit 13 = .ok (.invokevirtual 155, 3) := by decide +kernel
theorem dX2_turnBit_16 : decode cX2_turnBit 16 = .ok (.aload_n 0, 1) := by decide +kernel
theorem dX2_turnBit_17 : decode cX2_turnBit 17 = .ok (.iload_n 1, 1) := by decide +kernel
theorem dX2_turnBit_18 : decode cX2_turnBit 18 = .ok (.iload_n 2, 1) := by decide +kernel
theorem dX2_turnBit_19 : decode cX2_turnBit 19 = .ok (.invokevirtual 161, 3) := by decide +kernel
theorem dX2_turnBit_22 : decode cX2_turnBit 22 = .ok (.ireturn, 1) := by decide +kernel
set_option maxRecDepth 20000 in
theorem ggX2_originalOf_X4_cell : GoodIn wsX2_originalOf wsX4_cell := goodIn_r _ [4] (by decide +kernel) (by decide +kernel)
set_option maxRecDepth 20000 in
theorem gX2_originalOf_X4_cell_n114 : GoodIn wsX2_originalOf (wsX4_cell) := ggX2_originalOf_X4_cell
theorem dX2_originalOf_0 : decode cX2_originalOf 0 = .ok (.aload_n 0, 1) := by decide +kernel
theorem dX2_originalOf_1 : decode cX2_originalOf 1 = .ok (.getfield 24, 3) := by decide +kernel
theorem dX2_originalOf_4 : decode cX2_originalOf 4 = .ok (.iload_n 1, 1) := by decide +kernel
theorem dX2_originalOf_5 : decode cX2_originalOf 5 = .ok (.bipush 12, 2) := by decide +kernel
theorem dX2_originalOf_7 : decode cX2_originalOf 7 = .ok (.imul, 1) := by decide +kernel
theorem dX2_originalOf_8 : decode cX2_originalOf 8 = .ok (.iload_n 2, 1) := by decide +kernel
theorem dX2_originalOf_9 : decode cX2_originalOf 9 = .ok (.iadd, 1) := by decide +kernel
theorem dX2_originalOf_10 : decode cX2_originalOf 10 = .ok (.invokestatic 114, 3) := by decide +kernel
theorem dX2_originalOf_13 : decode cX2_originalOf 13 = .ok (.ireturn, 1) := by decide +kernel
set_option maxRecDepth 20000 in
theorem ggX2_isWrongAlong_X2_columnOf : GoodIn wsX2_isWrongAlong wsX2_columnOf := goodIn_r _ [5, 6, 7, 8, 9, 17, 18, 19, 20, 21, 22, 23, 24, 25, 26, 27, 28, 29, 30] (by decide +kernel) (by decide +kernel)
set_option maxRecDepth 20000 in
theorem gX2_isWrongAlong_X2_columnOf : GoodIn wsX2_isWrongAlong (wsV RX2 161 RX2 yX2_columnOf wsX2_columnOf) := goodIn_app (goodIn_of _ (by decide +kernel)) ggX2_isWrongAlong_X2_columnOf
set_option maxRecDepth 20000 in
theorem ggX2_isWrongAlong_J6_bitCount_0f7a4 : GoodIn wsX2_isWrongAlong wsJ6_bitCount_0f7a4 := goodIn_r _ [13, 14, 15, 16] (by decide +kernel) (by decide +kernel)
set_option maxRecDepth 20000 in
theorem gX2_isWrongAlong_J6_bitCount_0f7a4 : GoodIn wsX2_isWrongAlong (va_wsS RX2 150 yJ6_bitCount_0f7a4 wsJ6_bitCount_0f7a4) := goodIn_app (goodIn_of _ (by decide +kernel)) ggX2_isWrongAlong_J6_bitCount_0f7a4
theorem dX2_isWrongAlong_0 : decode cX2_isWrongAlong 0 = .ok (.aload_n 0, 1) := by decide +kernel
theorem dX2_isWrongAlong_1 : decode cX2_isWrongAlong 1 = .ok (.iload_n 1, 1) := by decide +kernel
theorem dX2_isWrongAlong_2 : decode cX2_isWrongAlong 2 = .ok (.iload_n 2, 1) := by decide +kernel
theorem dX2_isWrongAlong_3 : decode cX2_isWrongAlong 3 = .ok (.invokevirtual 161, 3) := by decide +kernel
theorem dX2_isWrongAlong_6 : decode cX2_isWrongAlong 6 = .ok (.invokestatic 150, 3) := by decide +kernel
theorem dX2_isWrongAlong_9 : decode cX2_isWrongAlong 9 = .ok (.iconst 2, 1) := by decide +kernel
theorem dX2_isWrongAlong_10 : decode cX2_isWrongAlong 10 = .ok (.irem, 1) := by decide +kernel
theorem dX2_isWrongAlong_11 : decode cX2_isWrongAlong 11 = .ok (.ifCond .ne 7, 3) := by decide +kernel
theorem dX2_isWrongAlong_14 : decode cX2_isWrongAlong 14 = .ok (.iconst 1, 1) := by decide +kernel
theorem dX2_isWrongAlong_15 : decode cX2_isWrongAlong 15 = .ok (.goto 4, 3) := by decide +kernel
theorem dX2_isWrongAlong_18 : decode cX2_isWrongAlong 18 = .ok (.iconst 0, 1) := by decide +kernel
theorem dX2_isWrongAlong_19 : decode cX2_isWrongAlong 19 = .ok (.ireturn, 1) := by decide +kernel
set_option maxRecDepth 20000 in
theorem ggX2_wrongAlongCount_X2_sizeOf : GoodIn wsX2_wrongAlongCount wsX2_sizeOf := goodIn_r _ [5, 6, 7, 8, 9, 26, 27, 28, 29, 30, 31, 32, 33, 34, 35, 36, 37, 38, 39] (by decide +kernel) (by decide +kernel)
set_option maxRecDepth 20000 in
theorem gX2_wrongAlongCount_X2_sizeOf : GoodIn wsX2_wrongAlongCount (wsV RX2 118 RX2 yX2_sizeOf wsX2_sizeOf) := goodIn_app (goodIn_of _ (by decide +kernel)) ggX2_wrongAlongCount_X2_sizeOf
set_option maxRecDepth 20000 in
theorem ggX2_wrongAlongCount_X2_isWrongAlong : GoodIn wsX2_wrongAlongCount wsX2_isWrongAlong := goodIn_r _ [13, 14, 15, 16, 4, 17, 18, 7, 8, 9, 19, 20, 21, 22, 23, 24, 25, 26, 27, 28, 29, 30, 31, 32, 33, 34, 35, 36, 37, 38, 39] (by decide +kernel) (by decide +kernel)
set_option maxRecDepth 20000 in
theorem gX2_wrongAlongCount_X2_isWrongAlong : GoodIn wsX2_wrongAlongCount (wsV RX2 167 RX2 yX2_isWrongAlong wsX2_isWrongAlong) := goodIn_app (goodIn_of _ (by decide +kernel)) ggX2_wrongAlongCount_X2_isWrongAlong
theorem dX2_wrongAlongCount_0 : decode cX2_wrongAlongCount 0 = .ok (.iconst 0, 1) := by decide +kernel
theorem dX2_wrongAlongCount_1 : decode cX2_wrongAlongCount 1 = .ok (.istore_n 2, 1) := by decide +kernel
theorem dX2_wrongAlongCount_2 : decode cX2_wrongAlongCount 2 = .ok (.iconst 0, 1) := by decide +kernel
theorem dX2_wrongAlongCount_3 : decode cX2_wrongAlongCount 3 = .ok (.istore_n 3, 1) := by decide +kernel
theorem dX2_wrongAlongCount_4 : decode cX2_wrongAlongCount 4 = .ok (.iload_n 3, 1) := by decide +kernel
theorem dX2_wrongAlongCount_5 : decode cX2_wrongAlongCount 5 = .ok (.aload_n 0, 1) := by decide +kernel
theorem dX2_wrongAlongCount_6 : decode cX2_wrongAlongCount 6 = .ok (.iload_n 1, 1) := by decide +kernel
theorem dX2_wrongAlongCount_7 : decode cX2_wrongAlongCount 7 = .ok (.invokevirtual 118, 3) := by decide +kernel
theorem dX2_wrongAlongCount_10 : decode cX2_wrongAlongCount 10 = .ok (.if_icmp .ge 21, 3) := by decide +kernel
theorem dX2_wrongAlongCount_13 : decode cX2_wrongAlongCount 13 = .ok (.aload_n 0, 1) := by decide +kernel
theorem dX2_wrongAlongCount_14 : decode cX2_wrongAlongCount 14 = .ok (.iload_n 1, 1) := by decide +kernel
theorem dX2_wrongAlongCount_15 : decode cX2_wrongAlongCount 15 = .ok (.iload_n 3, 1) := by decide +kernel
theorem dX2_wrongAlongCount_16 : decode cX2_wrongAlongCount 16 = .ok (.invokevirtual 167, 3) := by decide +kernel
theorem dX2_wrongAlongCount_19 : decode cX2_wrongAlongCount 19 = .ok (.ifCond .eq 6, 3) := by decide +kernel
theorem dX2_wrongAlongCount_22 : decode cX2_wrongAlongCount 22 = .ok (.iinc 2 1, 3) := by decide +kernel
theorem dX2_wrongAlongCount_25 : decode cX2_wrongAlongCount 25 = .ok (.iinc 3 1, 3) := by decide +kernel
theorem dX2_wrongAlongCount_28 : decode cX2_wrongAlongCount 28 = .ok (.goto (-24), 3) := by decide +kernel
theorem dX2_wrongAlongCount_31 : decode cX2_wrongAlongCount 31 = .ok (.iload_n 2, 1) := by decide +kernel
theorem dX2_wrongAlongCount_32 : decode cX2_wrongAlongCount 32 = .ok (.ireturn, 1) := by decide +kernel
set_option maxRecDepth 20000 in
theorem ggX2_wrongAcross_X2_sizeOf : GoodIn wsX2_wrongAcross wsX2_sizeOf := goodIn_r _ [5, 6, 7, 8, 9, 15, 16, 17, 18, 19, 20, 21, 22, 23, 24, 25, 26, 27, 28] (by decide +kernel) (by decide +kernel)
set_option maxRecDepth 20000 in
theorem gX2_wrongAcross_X2_sizeOf : GoodIn wsX2_wrongAcross (wsV RX2 118 RX2 yX2_sizeOf wsX2_sizeOf) := goodIn_app (goodIn_of _ (by decide +kernel)) ggX2_wrongAcross_X2_sizeOf
set_option maxRecDepth 20000 in
theorem ggX2_wrongAcross_X2_columnOf : GoodIn wsX2_wrongAcross wsX2_columnOf := goodIn_r _ [13, 14, 7, 8, 9, 15, 16, 17, 18, 19, 20, 21, 22, 23, 24, 25, 26, 27, 28] (by decide +kernel) (by decide +kernel)
set_option maxRecDepth 20000 in
theorem gX2_wrongAcross_X2_columnOf : GoodIn wsX2_wrongAcross (wsV RX2 161 RX2 yX2_columnOf wsX2_columnOf) := goodIn_app (goodIn_of _ (by decide +kernel)) ggX2_wrongAcross_X2_columnOf
theorem dX2_wrongAcross_0 : decode cX2_wrongAcross 0 = .ok (.aload_n 0, 1) := by decide +kernel
theorem dX2_wrongAcross_1 : decode cX2_wrongAcross 1 = .ok (.iload_n 1, 1) := by decide +kernel
theorem dX2_wrongAcross_2 : decode cX2_wrongAcross 2 = .ok (.invokevirtual 118, 3) := by decide +kernel
theorem dX2_wrongAcross_5 : decode cX2_wrongAcross 5 = .ok (.istore_n 2, 1) := by decide +kernel
theorem dX2_wrongAcross_6 : decode cX2_wrongAcross 6 = .ok (.iconst 0, 1) := by decide +kernel
theorem dX2_wrongAcross_7 : decode cX2_wrongAcross 7 = .ok (.istore_n 3, 1) := by decide +kernel
theorem dX2_wrongAcross_8 : decode cX2_wrongAcross 8 = .ok (.iconst 0, 1) := by decide +kernel
theorem dX2_wrongAcross_9 : decode cX2_wrongAcross 9 = .ok (.istore 4, 2) := by decide +kernel
theorem dX2_wrongAcross_11 : decode cX2_wrongAcross 11 = .ok (.iload_n 2, 1) := by decide +kernel
theorem dX2_wrongAcross_12 : decode cX2_wrongAcross 12 = .ok (.ifCond .le 25, 3) := by decide +kernel
theorem dX2_wrongAcross_15 : decode cX2_wrongAcross 15 = .ok (.iload 4, 2) := by decide +kernel
theorem dX2_wrongAcross_17 : decode cX2_wrongAcross 17 = .ok (.iload_n 2, 1) := by decide +kernel
theorem dX2_wrongAcross_18 : decode cX2_wrongAcross 18 = .ok (.if_icmp .gt 19, 3) := by decide +kernel
theorem dX2_wrongAcross_21 : decode cX2_wrongAcross 21 = .ok (.iload_n 3, 1) := by decide +kernel
theorem dX2_wrongAcross_22 : decode cX2_wrongAcross 22 = .ok (.aload_n 0, 1) := by decide +kernel
theorem dX2_wrongAcross_23 : decode cX2_wrongAcross 23 = .ok (.iload_n 1, 1) := by decide +kernel
theorem dX2_wrongAcross_24 : decode cX2_wrongAcross 24 = .ok (.iload 4, 2) := by decide +kernel
theorem dX2_wrongAcross_26 : decode cX2_wrongAcross 26 = .ok (.invokevirtual 161, 3) := by decide +kernel
theorem dX2_wrongAcross_29 : decode cX2_wrongAcross 29 = .ok (.ixor, 1) := by decide +kernel
theorem dX2_wrongAcross_30 : decode cX2_wrongAcross 30 = .ok (.istore_n 3, 1) := by decide +kernel
theorem dX2_wrongAcross_31 : decode cX2_wrongAcross 31 = .ok (.iinc 4 1, 3) := by decide +kernel
theorem dX2_wrongAcross_34 : decode cX2_wrongAcross 34 = .ok (.goto (-23), 3) := by decide +kernel
theorem dX2_wrongAcross_37 : decode cX2_wrongAcross 37 = .ok (.iload_n 3, 1) := by decide +kernel
theorem dX2_wrongAcross_38 : decode cX2_wrongAcross 38 = .ok (.ireturn, 1) := by decide +kernel
set_option maxRecDepth 20000 in
theorem ggX2_readingOf_X2_wrongAlongCount : GoodIn wsX2_readingOf wsX2_wrongAlongCount := goodIn_r _ [5, 6, 7, 8, 4, 9, 10, 11, 12, 13, 14, 15, 16, 17, 18, 19, 20, 21, 22, 23, 24, 25, 26, 27, 28, 29, 34, 35, 36, 37, 38, 39, 40, 41, 42, 43, 44, 45, 46, 47] (by decide +kernel) (by decide +kernel)
set_option maxRecDepth 20000 in
theorem gX2_readingOf_X2_wrongAlongCount : GoodIn wsX2_readingOf (wsV RX2 171 RX2 yX2_wrongAlongCount wsX2_wrongAlongCount) := goodIn_app (goodIn_of _ (by decide +kernel)) ggX2_readingOf_X2_wrongAlongCount
set_option maxRecDepth 20000 in
theorem ggX2_readingOf_X2_wrongAcross : GoodIn wsX2_readingOf wsX2_wrongAcross := goodIn_r _ [33, 6, 7, 8, 4, 9, 10, 11, 12, 13, 18, 19, 20, 21, 22, 34, 35, 36, 37, 38, 39, 40, 41, 42, 43, 44, 45, 46, 47] (by decide +kernel) (by decide +kernel)
set_option maxRecDepth 20000 in
theorem gX2_readingOf_X2_wrongAcross : GoodIn wsX2_readingOf (wsV RX2 174 RX2 yX2_wrongAcross wsX2_wrongAcross) := goodIn_app (goodIn_of _ (by decide +kernel)) ggX2_readingOf_X2_wrongAcross
set_option maxRecDepth 20000 in
theorem ggX2_readingOf_J6_bitCount_0f7a4 : GoodIn wsX2_readingOf wsJ6_bitCount_0f7a4 := goodIn_r _ [26, 27, 28, 29] (by decide +kernel) (by decide +kernel)
set_option maxRecDepth 20000 in
theorem gX2_readingOf_J6_bitCount_0f7a4 : GoodIn wsX2_readingOf (va_wsS RX2 150 yJ6_bitCount_0f7a4 wsJ6_bitCount_0f7a4) := goodIn_app (goodIn_of _ (by decide +kernel)) ggX2_readingOf_J6_bitCount_0f7a4
theorem dX2_readingOf_0 : decode cX2_readingOf 0 = .ok (.aload_n 0, 1) := by decide +kernel
theorem dX2_readingOf_1 : decode cX2_readingOf 1 = .ok (.iload_n 1, 1) := by decide +kernel
theorem dX2_readingOf_2 : decode cX2_readingOf 2 = .ok (.invokevirtual 171, 3) := by decide +kernel
theorem dX2_readingOf_5 : decode cX2_readingOf 5 = .ok (.istore_n 3, 1) := by decide +kernel
theorem dX2_readingOf_6 : decode cX2_readingOf 6 = .ok (.aload_n 0, 1) := by decide +kernel
theorem dX2_readingOf_7 : decode cX2_readingOf 7 = .ok (.iload_n 1, 1) := by decide +kernel
theorem dX2_readingOf_8 : decode cX2_readingOf 8 = .ok (.invokevirtual 174, 3) := by decide +kernel
theorem dX2_readingOf_11 : decode cX2_readingOf 11 = .ok (.istore 4, 2) := by decide +kernel
theorem dX2_readingOf_13 : decode cX2_readingOf 13 = .ok (.iload_n 3, 1) := by decide +kernel
theorem dX2_readingOf_14 : decode cX2_readingOf 14 = .ok (.ifCond .ne 10, 3) := by decide +kernel
theorem dX2_readingOf_17 : decode cX2_readingOf 17 = .ok (.iload 4, 2) := by decide +kernel
theorem dX2_readingOf_19 : decode cX2_readingOf 19 = .ok (.ifCond .ne 5, 3) := by decide +kernel
theorem dX2_readingOf_22 : decode cX2_readingOf 22 = .ok (.iconst 0, 1) := by decide +kernel
theorem dX2_readingOf_23 : decode cX2_readingOf 23 = .ok (.ireturn, 1) := by decide +kernel
theorem dX2_readingOf_24 : decode cX2_readingOf 24 = .ok (.iload_n 2, 1) := by decide +kernel
theorem dX2_readingOf_25 : decode cX2_readingOf 25 = .ok (.bipush (-4), 2) := by decide +kernel
theorem dX2_readingOf_27 : decode cX2_readingOf 27 = .ok (.if_icmp .eq 33, 3) := by decide +kernel
theorem dX2_readingOf_30 : decode cX2_readingOf 30 = .ok (.iload_n 3, 1) := by decide +kernel
theorem dX2_readingOf_31 : decode cX2_readingOf 31 = .ok (.iconst 2, 1) := by decide +kernel
theorem dX2_readingOf_32 : decode cX2_readingOf 32 = .ok (.irem, 1) := by decide +kernel
theorem dX2_readingOf_33 : decode cX2_readingOf 33 = .ok (.ifCond .ne 8, 3) := by decide +kernel
theorem dX2_readingOf_36 : decode cX2_readingOf 36 = .ok (.iload 4, 2) := by decide +kernel
theorem dX2_readingOf_38 : decode cX2_readingOf 38 = .ok (.goto 9, 3) := by decide +kernel
theorem dX2_readingOf_41 : decode cX2_readingOf 41 = .ok (.iload 4, 2) := by decide +kernel
theorem dX2_readingOf_43 : decode cX2_readingOf 43 = .ok (.iconst 1, 1) := by decide +kernel
theorem dX2_readingOf_44 : decode cX2_readingOf 44 = .ok (.iload_n 2, 1) := by decide +kernel
theorem dX2_readingOf_45 : decode cX2_readingOf 45 = .ok (.ishl, 1) := by decide +kernel
theorem dX2_readingOf_46 : decode cX2_readingOf 46 = .ok (.ixor, 1) := by decide +kernel
theorem dX2_readingOf_47 : decode cX2_readingOf 47 = .ok (.istore 5, 2) := by decide +kernel
theorem dX2_readingOf_49 : decode cX2_readingOf 49 = .ok (.iload 5, 2) := by decide +kernel
theorem dX2_readingOf_51 : decode cX2_readingOf 51 = .ok (.ifCond .ne 7, 3) := by decide +kernel
theorem dX2_readingOf_54 : decode cX2_readingOf 54 = .ok (.iconst 2, 1) := by decide +kernel
theorem dX2_readingOf_55 : decode cX2_readingOf 55 = .ok (.goto 4, 3) := by decide +kernel
theorem dX2_readingOf_58 : decode cX2_readingOf 58 = .ok (.iconst 3, 1) := by decide +kernel
theorem dX2_readingOf_59 : decode cX2_readingOf 59 = .ok (.ireturn, 1) := by decide +kernel
theorem dX2_readingOf_60 : decode cX2_readingOf 60 = .ok (.iload_n 3, 1) := by decide +kernel
theorem dX2_readingOf_61 : decode cX2_readingOf 61 = .ok (.iconst 1, 1) := by decide +kernel
theorem dX2_readingOf_62 : decode cX2_readingOf 62 = .ok (.if_icmp .gt 16, 3) := by decide +kernel
theorem dX2_readingOf_65 : decode cX2_readingOf 65 = .ok (.iload 4, 2) := by decide +kernel
theorem dX2_readingOf_67 : decode cX2_readingOf 67 = .ok (.invokestatic 150, 3) := by decide +kernel
theorem dX2_readingOf_70 : decode cX2_readingOf 70 = .ok (.iconst 1, 1) := by decide +kernel
theorem dX2_readingOf_71 : decode cX2_readingOf 71 = .ok (.if_icmp .ne 7, 3) := by decide +kernel
theorem dX2_readingOf_74 : decode cX2_readingOf 74 = .ok (.iconst 1, 1) := by decide +kernel
theorem dX2_readingOf_75 : decode cX2_readingOf 75 = .ok (.goto 4, 3) := by decide +kernel
theorem dX2_readingOf_78 : decode cX2_readingOf 78 = .ok (.iconst 3, 1) := by decide +kernel
theorem dX2_readingOf_79 : decode cX2_readingOf 79 = .ok (.ireturn, 1) := by decide +kernel
set_option maxRecDepth 20000 in
theorem ggX2_byteAsRead_X2_columnOf : GoodIn wsX2_byteAsRead wsX2_columnOf := goodIn_r _ [6, 7, 8, 9, 10, 31, 32, 33, 34, 35, 36, 37, 38, 39, 40, 41, 42, 43, 44] (by decide +kernel) (by decide +kernel)
set_option maxRecDepth 20000 in
theorem gX2_byteAsRead_X2_columnOf : GoodIn wsX2_byteAsRead (wsV RX2 161 RX2 yX2_columnOf wsX2_columnOf) := goodIn_app (goodIn_of _ (by decide +kernel)) ggX2_byteAsRead_X2_columnOf
set_option maxRecDepth 20000 in
theorem ggX2_byteAsRead_X2_isWrongAlong : GoodIn wsX2_byteAsRead wsX2_isWrongAlong := goodIn_r _ [14, 2, 3, 4, 5, 6, 7, 8, 9, 10, 15, 16, 17, 18, 19, 20, 21, 31, 32, 33, 34, 35, 36, 37, 38, 39, 40, 41, 42, 43, 44] (by decide +kernel) (by decide +kernel)
set_option maxRecDepth 20000 in
theorem gX2_byteAsRead_X2_isWrongAlong : GoodIn wsX2_byteAsRead (wsV RX2 167 RX2 yX2_isWrongAlong wsX2_isWrongAlong) := goodIn_app (goodIn_of _ (by decide +kernel)) ggX2_byteAsRead_X2_isWrongAlong
set_option maxRecDepth 20000 in
theorem ggX2_byteAsRead_X2_wrongAcross : GoodIn wsX2_byteAsRead wsX2_wrongAcross := goodIn_r _ [25, 26, 27, 28, 5, 29, 30, 8, 9, 10, 2, 3, 4, 6, 7, 31, 32, 33, 34, 35, 36, 37, 38, 39, 40, 41, 42, 43, 44] (by decide +kernel) (by decide +kernel)
set_option maxRecDepth 20000 in
theorem gX2_byteAsRead_X2_wrongAcross : GoodIn wsX2_byteAsRead (wsV RX2 174 RX2 yX2_wrongAcross wsX2_wrongAcross) := goodIn_app (goodIn_of _ (by decide +kernel)) ggX2_byteAsRead_X2_wrongAcross
theorem dX2_byteAsRead_0 : decode cX2_byteAsRead 0 = .ok (.aload_n 0, 1) := by decide +kernel
theorem dX2_byteAsRead_1 : decode cX2_byteAsRead 1 = .ok (.iload_n 1, 1) := by decide +kernel
theorem dX2_byteAsRead_2 : decode cX2_byteAsRead 2 = .ok (.iload_n 2, 1) := by decide +kernel
theorem dX2_byteAsRead_3 : decode cX2_byteAsRead 3 = .ok (.invokevirtual 161, 3) := by decide +kernel
theorem dX2_byteAsRead_6 : decode cX2_byteAsRead 6 = .ok (.istore_n 3, 1) := by decide +kernel
theorem dX2_byteAsRead_7 : decode cX2_byteAsRead 7 = .ok (.aload_n 0, 1) := by decide +kernel
theorem dX2_byteAsRead_8 : decode cX2_byteAsRead 8 = .ok (.iload_n 1, 1) := by decide +kernel
theorem dX2_byteAsRead_9 : decode cX2_byteAsRead 9 = .ok (.iload_n 2, 1) := by decide +kernel
theorem dX2_byteAsRead_10 : decode cX2_byteAsRead 10 = .ok (.invokevirtual 167, 3) := by decide +kernel
theorem dX2_byteAsRead_13 : decode cX2_byteAsRead 13 = .ok (.ifCond .eq 29, 3) := by decide +kernel
theorem dX2_byteAsRead_16 : decode cX2_byteAsRead 16 = .ok (.iload_n 3, 1) := by decide +kernel
theorem dX2_byteAsRead_17 : decode cX2_byteAsRead 17 = .ok (.aload_n 0, 1) := by decide +kernel
theorem dX2_byteAsRead_18 : decode cX2_byteAsRead 18 = .ok (.getfield 59, 3) := by decide +kernel
theorem dX2_byteAsRead_21 : decode cX2_byteAsRead 21 = .ok (.bipush (-4), 2) := by decide +kernel
theorem dX2_byteAsRead_23 : decode cX2_byteAsRead 23 = .ok (.if_icmp .ne 11, 3) := by decide +kernel
theorem dX2_byteAsRead_26 : decode cX2_byteAsRead 26 = .ok (.aload_n 0, 1) := by decide +kernel
theorem dX2_byteAsRead_27 : decode cX2_byteAsRead 27 = .ok (.iload_n 1, 1) := by decide +kernel
theorem dX2_byteAsRead_28 : decode cX2_byteAsRead 28 = .ok (.invokevirtual 174, 3) := by decide +kernel
theorem dX2_byteAsRead_31 : decode cX2_byteAsRead 31 = .ok (.goto 9, 3) := by decide +kernel
theorem dX2_byteAsRead_34 : decode cX2_byteAsRead 34 = .ok (.iconst 1, 1) := by decide +kernel
theorem dX2_byteAsRead_35 : decode cX2_byteAsRead 35 = .ok (.aload_n 0, 1) := by decide +kernel
theorem dX2_byteAsRead_36 : decode cX2_byteAsRead 36 = .ok (.getfield 59, 3) := by decide +kernel
theorem dX2_byteAsRead_39 : decode cX2_byteAsRead 39 = .ok (.ishl, 1) := by decide +kernel
theorem dX2_byteAsRead_40 : decode cX2_byteAsRead 40 = .ok (.ixor, 1) := by decide +kernel
theorem dX2_byteAsRead_41 : decode cX2_byteAsRead 41 = .ok (.istore_n 3, 1) := by decide +kernel
theorem dX2_byteAsRead_42 : decode cX2_byteAsRead 42 = .ok (.iload_n 3, 1) := by decide +kernel
theorem dX2_byteAsRead_43 : decode cX2_byteAsRead 43 = .ok (.sipush 255, 3) := by decide +kernel
theorem dX2_byteAsRead_46 : decode cX2_byteAsRead 46 = .ok (.iand, 1) := by decide +kernel
theorem dX2_byteAsRead_47 : decode cX2_byteAsRead 47 = .ok (.ireturn, 1) := by decide +kernel
set_option maxRecDepth 20000 in
theorem ggX2_isReadAsWritten_X2_sizeOf : GoodIn wsX2_isReadAsWritten wsX2_sizeOf := goodIn_r _ [5, 6, 7, 8, 9, 40, 41, 42, 43, 44, 45, 46, 47, 48, 49, 50, 51, 52, 53] (by decide +kernel) (by decide +kernel)
set_option maxRecDepth 20000 in
theorem gX2_isReadAsWritten_X2_sizeOf : GoodIn wsX2_isReadAsWritten (wsV RX2 118 RX2 yX2_sizeOf wsX2_sizeOf) := goodIn_app (goodIn_of _ (by decide +kernel)) ggX2_isReadAsWritten_X2_sizeOf
set_option maxRecDepth 20000 in
theorem ggX2_isReadAsWritten_X2_byteAsRead : GoodIn wsX2_isReadAsWritten wsX2_byteAsRead := goodIn_r _ [13, 14, 15, 16, 17, 4, 18, 19, 7, 8, 9, 20, 21, 22, 23, 24, 25, 26, 27, 28, 29, 30, 31, 32, 33, 34, 1, 2, 3, 5, 6, 40, 41, 42, 43, 44, 45, 46, 47, 48, 49, 50, 51, 52, 53] (by decide +kernel) (by decide +kernel)
set_option maxRecDepth 20000 in
theorem gX2_isReadAsWritten_X2_byteAsRead : GoodIn wsX2_isReadAsWritten (wsV RX2 177 RX2 yX2_byteAsRead wsX2_byteAsRead) := goodIn_app (goodIn_of _ (by decide +kernel)) ggX2_isReadAsWritten_X2_byteAsRead
set_option maxRecDepth 20000 in
theorem ggX2_isReadAsWritten_X2_originalOf : GoodIn wsX2_isReadAsWritten wsX2_originalOf := goodIn_r _ [38, 39, 7, 8, 9, 40, 41, 42, 43, 44, 45, 46, 47, 48, 49, 50, 51, 52, 53] (by decide +kernel) (by decide +kernel)
set_option maxRecDepth 20000 in
theorem gX2_isReadAsWritten_X2_originalOf : GoodIn wsX2_isReadAsWritten (wsV RX2 164 RX2 yX2_originalOf wsX2_originalOf) := goodIn_app (goodIn_of _ (by decide +kernel)) ggX2_isReadAsWritten_X2_originalOf
theorem dX2_isReadAsWritten_0 : decode cX2_isReadAsWritten 0 = .ok (.iconst 0, 1) := by decide +kernel
theorem dX2_isReadAsWritten_1 : decode cX2_isReadAsWritten 1 = .ok (.istore_n 2, 1) := by decide +kernel
theorem dX2_isReadAsWritten_2 : decode cX2_isReadAsWritten 2 = .ok (.iload_n 2, 1) := by decide +kernel
theorem dX2_isReadAsWritten_3 : decode cX2_isReadAsWritten 3 = .ok (.aload_n 0, 1) := by decide +kernel
theorem dX2_isReadAsWritten_4 : decode cX2_isReadAsWritten 4 = .ok (.iload_n 1, 1) := by decide +kernel
theorem dX2_isReadAsWritten_5 : decode cX2_isReadAsWritten 5 = .ok (.invokevirtual 118, 3) := by decide +kernel
theorem dX2_isReadAsWritten_8 : decode cX2_isReadAsWritten 8 = .ok (.if_icmp .ge 26, 3) := by decide +kernel
theorem dX2_isReadAsWritten_11 : decode cX2_isReadAsWritten 11 = .ok (.aload_n 0, 1) := by decide +kernel
theorem dX2_isReadAsWritten_12 : decode cX2_isReadAsWritten 12 = .ok (.iload_n 1, 1) := by decide +kernel
theorem dX2_isReadAsWritten_13 : decode cX2_isReadAsWritten 13 = .ok (.iload_n 2, 1) := by decide +kernel
theorem dX2_isReadAsWritten_14 : decode cX2_isReadAsWritten 14 = .ok (.invokevirtual 177, 3) := by decide +kernel
theorem dX2_isReadAsWritten_17 : decode cX2_isReadAsWritten 17 = .ok (.aload_n 0, 1) := by decide +kernel
theorem dX2_isReadAsWritten_18 : decode cX2_isReadAsWritten 18 = .ok (.iload_n 1, 1) := by decide +kernel
theorem dX2_isReadAsWritten_19 : decode cX2_isReadAsWritten 19 = .ok (.iload_n 2, 1) := by decide +kernel
theorem dX2_isReadAsWritten_20 : decode cX2_isReadAsWritten 20 = .ok (.invokevirtual 164, 3) := by decide +kernel
theorem dX2_isReadAsWritten_23 : decode cX2_isReadAsWritten 23 = .ok (.if_icmp .eq 5, 3) := by decide +kernel
theorem dX2_isReadAsWritten_26 : decode cX2_isReadAsWritten 26 = .ok (.iconst 0, 1) := by decide +kernel
theorem dX2_isReadAsWritten_27 : decode cX2_isReadAsWritten 27 = .ok (.ireturn, 1) := by decide +kernel
theorem dX2_isReadAsWritten_28 : decode cX2_isReadAsWritten 28 = .ok (.iinc 2 1, 3) := by decide +kernel
theorem dX2_isReadAsWritten_31 : decode cX2_isReadAsWritten 31 = .ok (.goto (-29), 3) := by decide +kernel
theorem dX2_isReadAsWritten_34 : decode cX2_isReadAsWritten 34 = .ok (.iconst 1, 1) := by decide +kernel
theorem dX2_isReadAsWritten_35 : decode cX2_isReadAsWritten 35 = .ok (.ireturn, 1) := by decide +kernel
set_option maxRecDepth 20000 in
theorem ggX2_lostBlocksBy_X2_readingOf : GoodIn wsX2_lostBlocksBy wsX2_readingOf := goodIn_r _ [6, 7, 8, 9, 5, 10, 11, 12, 13, 14, 15, 16, 17, 18, 19, 20, 21, 22, 23, 24, 25, 26, 27, 28, 29, 30, 31, 32, 33, 34, 35, 36, 37, 38, 39, 40, 41, 42, 43, 44, 45, 46, 47, 48, 49, 50, 51, 52] (by decide +kernel) (by decide +kernel)
set_option maxRecDepth 20000 in
theorem gX2_lostBlocksBy_X2_readingOf : GoodIn wsX2_lostBlocksBy (wsV RX2 180 RX2 yX2_readingOf wsX2_readingOf) := goodIn_app (goodIn_of _ (by decide +kernel)) ggX2_lostBlocksBy_X2_readingOf
theorem dX2_lostBlocksBy_0 : decode cX2_lostBlocksBy 0 = .ok (.iconst 0, 1) := by decide +kernel
theorem dX2_lostBlocksBy_1 : decode cX2_lostBlocksBy 1 = .ok (.istore_n 2, 1) := by decide +kernel
theorem dX2_lostBlocksBy_2 : decode cX2_lostBlocksBy 2 = .ok (.iconst 0, 1) := by decide +kernel
theorem dX2_lostBlocksBy_3 : decode cX2_lostBlocksBy 3 = .ok (.istore_n 3, 1) := by decide +kernel
theorem dX2_lostBlocksBy_4 : decode cX2_lostBlocksBy 4 = .ok (.iload_n 3, 1) := by decide +kernel
theorem dX2_lostBlocksBy_5 : decode cX2_lostBlocksBy 5 = .ok (.aload_n 0, 1) := by decide +kernel
theorem dX2_lostBlocksBy_6 : decode cX2_lostBlocksBy 6 = .ok (.getfield 46, 3) := by decide +kernel
theorem dX2_lostBlocksBy_9 : decode cX2_lostBlocksBy 9 = .ok (.if_icmp .ge 25, 3) := by decide +kernel
theorem dX2_lostBlocksBy_12 : decode cX2_lostBlocksBy 12 = .ok (.aload_n 0, 1) := by decide +kernel
theorem dX2_lostBlocksBy_13 : decode cX2_lostBlocksBy 13 = .ok (.iload_n 3, 1) := by decide +kernel
theorem dX2_lostBlocksBy_14 : decode cX2_lostBlocksBy 14 = .ok (.iload_n 1, 1) := by decide +kernel
theorem dX2_lostBlocksBy_15 : decode cX2_lostBlocksBy 15 = .ok (.invokevirtual 180, 3) := by decide +kernel
theorem dX2_lostBlocksBy_18 : decode cX2_lostBlocksBy 18 = .ok (.iconst 3, 1) := by decide +kernel
theorem dX2_lostBlocksBy_19 : decode cX2_lostBlocksBy 19 = .ok (.if_icmp .ne 9, 3) := by decide +kernel
theorem dX2_lostBlocksBy_22 : decode cX2_lostBlocksBy 22 = .ok (.iload_n 2, 1) := by decide +kernel
theorem dX2_lostBlocksBy_23 : decode cX2_lostBlocksBy 23 = .ok (.iconst 1, 1) := by decide +kernel
theorem dX2_lostBlocksBy_24 : decode cX2_lostBlocksBy 24 = .ok (.iload_n 3, 1) := by decide +kernel
theorem dX2_lostBlocksBy_25 : decode cX2_lostBlocksBy 25 = .ok (.ishl, 1) := by decide +kernel
theorem dX2_lostBlocksBy_26 : decode cX2_lostBlocksBy 26 = .ok (.ior, 1) := by decide +kernel
theorem dX2_lostBlocksBy_27 : decode cX2_lostBlocksBy 27 = .ok (.istore_n 2, 1) := by decide +kernel
theorem dX2_lostBlocksBy_28 : decode cX2_lostBlocksBy 28 = .ok (.iinc 3 1, 3) := by decide +kernel
theorem dX2_lostBlocksBy_31 : decode cX2_lostBlocksBy 31 = .ok (.goto (-27), 3) := by decide +kernel
theorem dX2_lostBlocksBy_34 : decode cX2_lostBlocksBy 34 = .ok (.iload_n 2, 1) := by decide +kernel
theorem dX2_lostBlocksBy_35 : decode cX2_lostBlocksBy 35 = .ok (.ireturn, 1) := by decide +kernel
set_option maxRecDepth 20000 in
theorem ggX2_fooledBlocks_X2_readingOf : GoodIn wsX2_fooledBlocks wsX2_readingOf := goodIn_r _ [7, 8, 9, 10, 6, 11, 12, 13, 14, 15, 16, 17, 18, 19, 20, 21, 22, 23, 24, 25, 26, 27, 28, 29, 30, 31, 32, 33, 34, 35, 36, 37, 38, 39, 53, 54, 55, 56, 57, 58, 59, 60, 61, 62, 63, 64, 65, 66] (by decide +kernel) (by decide +kernel)
set_option maxRecDepth 20000 in
theorem gX2_fooledBlocks_X2_readingOf : GoodIn wsX2_fooledBlocks (wsV RX2 180 RX2 yX2_readingOf wsX2_readingOf) := goodIn_app (goodIn_of _ (by decide +kernel)) ggX2_fooledBlocks_X2_readingOf
set_option maxRecDepth 20000 in
theorem ggX2_fooledBlocks_X2_isReadAsWritten : GoodIn wsX2_fooledBlocks wsX2_isReadAsWritten := goodIn_r _ [43, 12, 13, 14, 6, 15, 16, 17, 18, 19, 44, 45, 46, 47, 2, 24, 25, 26, 27, 28, 20, 21, 22, 23, 29, 30, 31, 32, 33, 34, 35, 36, 37, 38, 39, 48, 49, 50, 51, 52, 53, 54, 55, 56, 57, 58, 59, 60, 61, 62, 63, 64, 65, 66] (by decide +kernel) (by decide +kernel)
set_option maxRecDepth 20000 in
theorem gX2_fooledBlocks_X2_isReadAsWritten : GoodIn wsX2_fooledBlocks (wsV RX2 183 RX2 yX2_isReadAsWritten wsX2_isReadAsWritten) := goodIn_app (goodIn_of _ (by decide +kernel)) ggX2_fooledBlocks_X2_isReadAsWritten
theorem dX2_fooledBlocks_0 : decode cX2_fooledBlocks 0 = .ok (.iconst 0, 1) := by decide +kernel
theorem dX2_fooledBlocks_1 : decode cX2_fooledBlocks 1 = .ok (.istore_n 1, 1) := by decide +kernel
theorem dX2_fooledBlocks_2 : decode cX2_fooledBlocks 2 = .ok (.iconst 0, 1) := by decide +kernel
theorem dX2_fooledBlocks_3 : decode cX2_fooledBlocks 3 = .ok (.istore_n 2, 1) := by decide +kernel
theorem dX2_fooledBlocks_4 : decode cX2_fooledBlocks 4 = .ok (.iload_n 2, 1) := by decide +kernel
theorem dX2_fooledBlocks_5 : decode cX2_fooledBlocks 5 = .ok (.aload_n 0, 1) := by decide +kernel
theorem dX2_fooledBlocks_6 : decode cX2_fooledBlocks 6 = .ok (.getfield 46, 3) := by decide +kernel
theorem dX2_fooledBlocks_9 : decode cX2_fooledBlocks 9 = .ok (.if_icmp .ge 36, 3) := by decide +kernel
theorem dX2_fooledBlocks_12 : decode cX2_fooledBlocks 12 = .ok (.aload_n 0, 1) := by decide +kernel
theorem dX2_fooledBlocks_13 : decode cX2_fooledBlocks 13 = .ok (.iload_n 2, 1) := by decide +kernel
theorem dX2_fooledBlocks_14 : decode cX2_fooledBlocks 14 = .ok (.aload_n 0, 1) := by decide +kernel
theorem dX2_fooledBlocks_15 : decode cX2_fooledBlocks 15 = .ok (.getfield 59, 3) := by decide +kernel
theorem dX2_fooledBlocks_18 : decode cX2_fooledBlocks 18 = .ok (.invokevirtual 180, 3) := by decide +kernel
theorem dX2_fooledBlocks_21 : decode cX2_fooledBlocks 21 = .ok (.iconst 3, 1) := by decide +kernel
theorem dX2_fooledBlocks_22 : decode cX2_fooledBlocks 22 = .ok (.if_icmp .eq 17, 3) := by decide +kernel
theorem dX2_fooledBlocks_25 : decode cX2_fooledBlocks 25 = .ok (.aload_n 0, 1) := by decide +kernel
theorem dX2_fooledBlocks_26 : decode cX2_fooledBlocks 26 = .ok (.iload_n 2, 1) := by decide +kernel
theorem dX2_fooledBlocks_27 : decode cX2_fooledBlocks 27 = .ok (.invokevirtual 183, 3) := by decide +kernel
theorem dX2_fooledBlocks_30 : decode cX2_fooledBlocks 30 = .ok (.ifCond .ne 9, 3) := by decide +kernel
theorem dX2_fooledBlocks_33 : decode cX2_fooledBlocks 33 = .ok (.iload_n 1, 1) := by decide +kernel
theorem dX2_fooledBlocks_34 : decode cX2_fooledBlocks 34 = .ok (.iconst 1, 1) := by decide +kernel
theorem dX2_fooledBlocks_35 : decode cX2_fooledBlocks 35 = .ok (.iload_n 2, 1) := by decide +kernel
theorem dX2_fooledBlocks_36 : decode cX2_fooledBlocks 36 = .ok (.ishl, 1) := by decide +kernel
theorem dX2_fooledBlocks_37 : decode cX2_fooledBlocks 37 = .ok (.ior, 1) := by decide +kernel
theorem dX2_fooledBlocks_38 : decode cX2_fooledBlocks 38 = .ok (.istore_n 1, 1) := by decide +kernel
theorem dX2_fooledBlocks_39 : decode cX2_fooledBlocks 39 = .ok (.iinc 2 1, 3) := by decide +kernel
theorem dX2_fooledBlocks_42 : decode cX2_fooledBlocks 42 = .ok (.goto (-38), 3) := by decide +kernel
theorem dX2_fooledBlocks_45 : decode cX2_fooledBlocks 45 = .ok (.iload_n 1, 1) := by decide +kernel
theorem dX2_fooledBlocks_46 : decode cX2_fooledBlocks 46 = .ok (.ireturn, 1) := by decide +kernel
set_option maxRecDepth 20000 in
theorem ggX2_mendedBlocks_X2_readingOf : GoodIn wsX2_mendedBlocks wsX2_readingOf := goodIn_r _ [7, 8, 9, 10, 6, 11, 12, 13, 14, 15, 16, 17, 18, 19, 20, 21, 22, 23, 24, 25, 26, 27, 28, 29, 30, 31, 32, 33, 34, 35, 36, 37, 38, 39, 40, 41, 42, 43, 44, 45, 46, 47, 48, 49, 50, 51, 52, 53] (by decide +kernel) (by decide +kernel)
set_option maxRecDepth 20000 in
theorem gX2_mendedBlocks_X2_readingOf : GoodIn wsX2_mendedBlocks (wsV RX2 180 RX2 yX2_readingOf wsX2_readingOf) := goodIn_app (goodIn_of _ (by decide +kernel)) ggX2_mendedBlocks_X2_readingOf
theorem dX2_mendedBlocks_0 : decode cX2_mendedBlocks 0 = .ok (.iconst 0, 1) := by decide +kernel
theorem dX2_mendedBlocks_1 : decode cX2_mendedBlocks 1 = .ok (.istore_n 1, 1) := by decide +kernel
theorem dX2_mendedBlocks_2 : decode cX2_mendedBlocks 2 = .ok (.iconst 0, 1) := by decide +kernel
theorem dX2_mendedBlocks_3 : decode cX2_mendedBlocks 3 = .ok (.istore_n 2, 1) := by decide +kernel
theorem dX2_mendedBlocks_4 : decode cX2_mendedBlocks 4 = .ok (.iload_n 2, 1) := by decide +kernel
theorem dX2_mendedBlocks_5 : decode cX2_mendedBlocks 5 = .ok (.aload_n 0, 1) := by decide +kernel
theorem dX2_mendedBlocks_6 : decode cX2_mendedBlocks 6 = .ok (.getfield 46, 3) := by decide +kernel
theorem dX2_mendedBlocks_9 : decode cX2_mendedBlocks 9 = .ok (.if_icmp .ge 35, 3) := by decide +kernel
theorem dX2_mendedBlocks_12 : decode cX2_mendedBlocks 12 = .ok (.aload_n 0, 1) := by decide +kernel
theorem dX2_mendedBlocks_13 : decode cX2_mendedBlocks 13 = .ok (.iload_n 2, 1) := by decide +kernel
theorem dX2_mendedBlocks_14 : decode cX2_mendedBlocks 14 = .ok (.aload_n 0, 1) := by decide +kernel
theorem dX2_mendedBlocks_15 : decode cX2_mendedBlocks 15 = .ok (.getfield 59, 3) := by decide +kernel
theorem dX2_mendedBlocks_18 : decode cX2_mendedBlocks 18 = .ok (.invokevirtual 180, 3) := by decide +kernel
theorem dX2_mendedBlocks_21 : decode cX2_mendedBlocks 21 = .ok (.istore_n 3, 1) := by decide +kernel
theorem dX2_mendedBlocks_22 : decode cX2_mendedBlocks 22 = .ok (.iload_n 3, 1) := by decide +kernel
theorem dX2_mendedBlocks_23 : decode cX2_mendedBlocks 23 = .ok (.iconst 1, 1) := by decide +kernel
theorem dX2_mendedBlocks_24 : decode cX2_mendedBlocks 24 = .ok (.if_icmp .eq 8, 3) := by decide +kernel
theorem dX2_mendedBlocks_27 : decode cX2_mendedBlocks 27 = .ok (.iload_n 3, 1) := by decide +kernel
theorem dX2_mendedBlocks_28 : decode cX2_mendedBlocks 28 = .ok (.iconst 2, 1) := by decide +kernel
theorem dX2_mendedBlocks_29 : decode cX2_mendedBlocks 29 = .ok (.if_icmp .ne 9, 3) := by decide +kernel
theorem dX2_mendedBlocks_32 : decode cX2_mendedBlocks 32 = .ok (.iload_n 1, 1) := by decide +kernel
theorem dX2_mendedBlocks_33 : decode cX2_mendedBlocks 33 = .ok (.iconst 1, 1) := by decide +kernel
theorem dX2_mendedBlocks_34 : decode cX2_mendedBlocks 34 = .ok (.iload_n 2, 1) := by decide +kernel
theorem dX2_mendedBlocks_35 : decode cX2_mendedBlocks 35 = .ok (.ishl, 1) := by decide +kernel
theorem dX2_mendedBlocks_36 : decode cX2_mendedBlocks 36 = .ok (.ior, 1) := by decide +kernel
theorem dX2_mendedBlocks_37 : decode cX2_mendedBlocks 37 = .ok (.istore_n 1, 1) := by decide +kernel
theorem dX2_mendedBlocks_38 : decode cX2_mendedBlocks 38 = .ok (.iinc 2 1, 3) := by decide +kernel
theorem dX2_mendedBlocks_41 : decode cX2_mendedBlocks 41 = .ok (.goto (-37), 3) := by decide +kernel
theorem dX2_mendedBlocks_44 : decode cX2_mendedBlocks 44 = .ok (.iload_n 1, 1) := by decide +kernel
theorem dX2_mendedBlocks_45 : decode cX2_mendedBlocks 45 = .ok (.ireturn, 1) := by decide +kernel
set_option maxRecDepth 20000 in
theorem ggX2_roomFor_X2_ruled : GoodIn wsX2_roomFor wsX2_ruled := goodIn_r _ [5, 6, 14, 15, 16, 17, 18, 19, 20, 21, 22, 23, 24, 25, 26, 27] (by decide +kernel) (by decide +kernel)
set_option maxRecDepth 20000 in
theorem gX2_roomFor_X2_ruled : GoodIn wsX2_roomFor (wsV RX2 65 RX2 yX2_ruled wsX2_ruled) := goodIn_app (goodIn_of _ (by decide +kernel)) ggX2_roomFor_X2_ruled
set_option maxRecDepth 20000 in
theorem ggX2_roomFor_X2_longWith : GoodIn wsX2_roomFor wsX2_longWith := goodIn_r _ [10, 1, 2, 3, 4, 5, 6, 11, 12, 13, 14, 15, 16, 17, 18, 19, 20, 21, 22, 23, 24, 25, 26, 27] (by decide +kernel) (by decide +kernel)
set_option maxRecDepth 20000 in
theorem gX2_roomFor_X2_longWith : GoodIn wsX2_roomFor (wsV RX2 124 RX2 yX2_longWith wsX2_longWith) := goodIn_app (goodIn_of _ (by decide +kernel)) ggX2_roomFor_X2_longWith
theorem dX2_roomFor_0 : decode cX2_roomFor 0 = .ok (.aload_n 0, 1) := by decide +kernel
theorem dX2_roomFor_1 : decode cX2_roomFor 1 = .ok (.bipush 6, 2) := by decide +kernel
theorem dX2_roomFor_3 : decode cX2_roomFor 3 = .ok (.invokevirtual 65, 3) := by decide +kernel
theorem dX2_roomFor_6 : decode cX2_roomFor 6 = .ok (.aload_n 0, 1) := by decide +kernel
theorem dX2_roomFor_7 : decode cX2_roomFor 7 = .ok (.iload_n 1, 1) := by decide +kernel
theorem dX2_roomFor_8 : decode cX2_roomFor 8 = .ok (.invokevirtual 124, 3) := by decide +kernel
theorem dX2_roomFor_11 : decode cX2_roomFor 11 = .ok (.iadd, 1) := by decide +kernel
theorem dX2_roomFor_12 : decode cX2_roomFor 12 = .ok (.istore_n 2, 1) := by decide +kernel
theorem dX2_roomFor_13 : decode cX2_roomFor 13 = .ok (.iload_n 2, 1) := by decide +kernel
theorem dX2_roomFor_14 : decode cX2_roomFor 14 = .ok (.iconst 1, 1) := by decide +kernel
theorem dX2_roomFor_15 : decode cX2_roomFor 15 = .ok (.if_icmp .ge 7, 3) := by decide +kernel
theorem dX2_roomFor_18 : decode cX2_roomFor 18 = .ok (.iconst 0, 1) := by decide +kernel
theorem dX2_roomFor_19 : decode cX2_roomFor 19 = .ok (.goto 10, 3) := by decide +kernel
theorem dX2_roomFor_22 : decode cX2_roomFor 22 = .ok (.aload_n 0, 1) := by decide +kernel
theorem dX2_roomFor_23 : decode cX2_roomFor 23 = .ok (.iconst 0, 1) := by decide +kernel
theorem dX2_roomFor_24 : decode cX2_roomFor 24 = .ok (.invokevirtual 65, 3) := by decide +kernel
theorem dX2_roomFor_27 : decode cX2_roomFor 27 = .ok (.iload_n 2, 1) := by decide +kernel
theorem dX2_roomFor_28 : decode cX2_roomFor 28 = .ok (.idiv, 1) := by decide +kernel
theorem dX2_roomFor_29 : decode cX2_roomFor 29 = .ok (.ireturn, 1) := by decide +kernel
set_option maxRecDepth 20000 in
theorem ggX2_streamed_X2_ruled : GoodIn wsX2_streamed wsX2_ruled := goodIn_r _ [5, 6, 21, 22, 23, 24, 25, 26, 27, 28, 29, 30, 31, 32, 33, 34] (by decide +kernel) (by decide +kernel)
set_option maxRecDepth 20000 in
theorem gX2_streamed_X2_ruled : GoodIn wsX2_streamed (wsV RX2 65 RX2 yX2_ruled wsX2_ruled) := goodIn_app (goodIn_of _ (by decide +kernel)) ggX2_streamed_X2_ruled
set_option maxRecDepth 20000 in
theorem ggX2_streamed_X2_playedThrough : GoodIn wsX2_streamed wsX2_playedThrough := goodIn_r _ [10, 1, 2, 3, 4, 5, 6, 21, 22, 23, 24, 25, 26, 27, 28, 29, 30, 31, 32, 33, 34] (by decide +kernel) (by decide +kernel)
set_option maxRecDepth 20000 in
theorem gX2_streamed_X2_playedThrough : GoodIn wsX2_streamed (wsV RX2 102 RX2 yX2_playedThrough wsX2_playedThrough) := goodIn_app (goodIn_of _ (by decide +kernel)) ggX2_streamed_X2_playedThrough
set_option maxRecDepth 20000 in
theorem ggX2_streamed_X2_timeWhenFilled : GoodIn wsX2_streamed wsX2_timeWhenFilled := goodIn_r _ [13, 14, 15, 16, 17, 18, 19, 20] (by decide +kernel) (by decide +kernel)
set_option maxRecDepth 20000 in
theorem gX2_streamed_X2_timeWhenFilled : GoodIn wsX2_streamed (va_wsS RX2 186 yX2_timeWhenFilled wsX2_timeWhenFilled) := goodIn_app (goodIn_of _ (by decide +kernel)) ggX2_streamed_X2_timeWhenFilled
theorem dX2_streamed_0 : decode cX2_streamed 0 = .ok (.aload_n 0, 1) := by decide +kernel
theorem dX2_streamed_1 : decode cX2_streamed 1 = .ok (.iload_n 2, 1) := by decide +kernel
theorem dX2_streamed_2 : decode cX2_streamed 2 = .ok (.aload_n 0, 1) := by decide +kernel
theorem dX2_streamed_3 : decode cX2_streamed 3 = .ok (.bipush 6, 2) := by decide +kernel
theorem dX2_streamed_5 : decode cX2_streamed 5 = .ok (.invokevirtual 65, 3) := by decide +kernel
theorem dX2_streamed_8 : decode cX2_streamed 8 = .ok (.iadd, 1) := by decide +kernel
theorem dX2_streamed_9 : decode cX2_streamed 9 = .ok (.invokevirtual 102, 3) := by decide +kernel
theorem dX2_streamed_12 : decode cX2_streamed 12 = .ok (.istore 6, 2) := by decide +kernel
theorem dX2_streamed_14 : decode cX2_streamed 14 = .ok (.iconst 0, 1) := by decide +kernel
theorem dX2_streamed_15 : decode cX2_streamed 15 = .ok (.istore 7, 2) := by decide +kernel
theorem dX2_streamed_17 : decode cX2_streamed 17 = .ok (.iconst 0, 1) := by decide +kernel
theorem dX2_streamed_18 : decode cX2_streamed 18 = .ok (.iconst 0, 1) := by decide +kernel
theorem dX2_streamed_19 : decode cX2_streamed 19 = .ok (.iload_n 1, 1) := by decide +kernel
theorem dX2_streamed_20 : decode cX2_streamed 20 = .ok (.iload_n 3, 1) := by decide +kernel
theorem dX2_streamed_21 : decode cX2_streamed 21 = .ok (.iload 4, 2) := by decide +kernel
theorem dX2_streamed_23 : decode cX2_streamed 23 = .ok (.invokestatic 186, 3) := by decide +kernel
theorem dX2_streamed_26 : decode cX2_streamed 26 = .ok (.istore 8, 2) := by decide +kernel
theorem dX2_streamed_28 : decode cX2_streamed 28 = .ok (.iconst 0, 1) := by decide +kernel
theorem dX2_streamed_29 : decode cX2_streamed 29 = .ok (.istore 9, 2) := by decide +kernel
theorem dX2_streamed_31 : decode cX2_streamed 31 = .ok (.iload 9, 2) := by decide +kernel
theorem dX2_streamed_33 : decode cX2_streamed 33 = .ok (.iload_n 1, 1) := by decide +kernel
theorem dX2_streamed_34 : decode cX2_streamed 34 = .ok (.if_icmp .ge 48, 3) := by decide +kernel
theorem dX2_streamed_37 : decode cX2_streamed 37 = .ok (.iload 9, 2) := by decide +kernel
theorem dX2_streamed_39 : decode cX2_streamed 39 = .ok (.iload_n 3, 1) := by decide +kernel
theorem dX2_streamed_40 : decode cX2_streamed 40 = .ok (.imul, 1) := by decide +kernel
theorem dX2_streamed_41 : decode cX2_streamed 41 = .ok (.iload 8, 2) := by decide +kernel
theorem dX2_streamed_43 : decode cX2_streamed 43 = .ok (.if_icmp .le 26, 3) := by decide +kernel
theorem dX2_streamed_46 : decode cX2_streamed 46 = .ok (.iinc 7 1, 3) := by decide +kernel
theorem dX2_streamed_49 : decode cX2_streamed 49 = .ok (.iload 8, 2) := by decide +kernel
theorem dX2_streamed_51 : decode cX2_streamed 51 = .ok (.aload_n 0, 1) := by decide +kernel
theorem dX2_streamed_52 : decode cX2_streamed 52 = .ok (.bipush 8, 2) := by decide +kernel
theorem dX2_streamed_54 : decode cX2_streamed 54 = .ok (.invokevirtual 65, 3) := by decide +kernel
theorem dX2_streamed_57 : decode cX2_streamed 57 = .ok (.iadd, 1) := by decide +kernel
theorem dX2_streamed_58 : decode cX2_streamed 58 = .ok (.iload 9, 2) := by decide +kernel
theorem dX2_streamed_60 : decode cX2_streamed 60 = .ok (.iload_n 1, 1) := by decide +kernel
theorem dX2_streamed_61 : decode cX2_streamed 61 = .ok (.iload_n 3, 1) := by decide +kernel
theorem dX2_streamed_62 : decode cX2_streamed 62 = .ok (.iload 4, 2) := by decide +kernel
theorem dX2_streamed_64 : decode cX2_streamed 64 = .ok (.invokestatic 186, 3) := by decide +kernel
theorem dX2_streamed_67 : decode cX2_streamed 67 = .ok (.istore 8, 2) := by decide +kernel
theorem dX2_streamed_69 : decode cX2_streamed 69 = .ok (.iload 8, 2) := by decide +kernel
theorem dX2_streamed_71 : decode cX2_streamed 71 = .ok (.iload 6, 2) := by decide +kernel
theorem dX2_streamed_73 : decode cX2_streamed 73 = .ok (.iadd, 1) := by decide +kernel
theorem dX2_streamed_74 : decode cX2_streamed 74 = .ok (.istore 8, 2) := by decide +kernel
theorem dX2_streamed_76 : decode cX2_streamed 76 = .ok (.iinc 9 1, 3) := by decide +kernel
theorem dX2_streamed_79 : decode cX2_streamed 79 = .ok (.goto (-48), 3) := by decide +kernel
theorem dX2_streamed_82 : decode cX2_streamed 82 = .ok (.iload 5, 2) := by decide +kernel
theorem dX2_streamed_84 : decode cX2_streamed 84 = .ok (.ifCond .eq 8, 3) := by decide +kernel
theorem dX2_streamed_87 : decode cX2_streamed 87 = .ok (.iload 7, 2) := by decide +kernel
theorem dX2_streamed_89 : decode cX2_streamed 89 = .ok (.goto 5, 3) := by decide +kernel
theorem dX2_streamed_92 : decode cX2_streamed 92 = .ok (.iload 8, 2) := by decide +kernel
theorem dX2_streamed_94 : decode cX2_streamed 94 = .ok (.ireturn, 1) := by decide +kernel
theorem dX2_timeWhenFilled_0 : decode cX2_timeWhenFilled 0 = .ok (.iload_n 1, 1) := by decide +kernel
theorem dX2_timeWhenFilled_1 : decode cX2_timeWhenFilled 1 = .ok (.iload 4, 2) := by decide +kernel
theorem dX2_timeWhenFilled_3 : decode cX2_timeWhenFilled 3 = .ok (.iadd, 1) := by decide +kernel
theorem dX2_timeWhenFilled_4 : decode cX2_timeWhenFilled 4 = .ok (.iload_n 2, 1) := by decide +kernel
theorem dX2_timeWhenFilled_5 : decode cX2_timeWhenFilled 5 = .ok (.invokestatic 87, 3) := by decide +kernel
theorem dX2_timeWhenFilled_8 : decode cX2_timeWhenFilled 8 = .ok (.iconst 1, 1) := by decide +kernel
theorem dX2_timeWhenFilled_9 : decode cX2_timeWhenFilled 9 = .ok (.isub, 1) := by decide +kernel
theorem dX2_timeWhenFilled_10 : decode cX2_timeWhenFilled 10 = .ok (.istore 5, 2) := by decide +kernel
theorem dX2_timeWhenFilled_12 : decode cX2_timeWhenFilled 12 = .ok (.iload_n 0, 1) := by decide +kernel
theorem dX2_timeWhenFilled_13 : decode cX2_timeWhenFilled 13 = .ok (.iload 5, 2) := by decide +kernel
theorem dX2_timeWhenFilled_15 : decode cX2_timeWhenFilled 15 = .ok (.iload_n 3, 1) := by decide +kernel
theorem dX2_timeWhenFilled_16 : decode cX2_timeWhenFilled 16 = .ok (.imul, 1) := by decide +kernel
theorem dX2_timeWhenFilled_17 : decode cX2_timeWhenFilled 17 = .ok (.invokestatic 190, 3) := by decide +kernel
theorem dX2_timeWhenFilled_20 : decode cX2_timeWhenFilled 20 = .ok (.ireturn, 1) := by decide +kernel
set_option maxRecDepth 20000 in
theorem ggX2_addSeen_X4_setCell : GoodIn wsX2_addSeen wsX4_setCell := goodIn_r _ [6] (by decide +kernel) (by decide +kernel)
set_option maxRecDepth 20000 in
theorem gX2_addSeen_X4_setCell_n139 : GoodIn wsX2_addSeen (wsX4_setCell) := ggX2_addSeen_X4_setCell
theorem dX2_addSeen_0 : decode cX2_addSeen 0 = .ok (.aload_n 0, 1) := by decide +kernel
theorem dX2_addSeen_1 : decode cX2_addSeen 1 = .ok (.getfield 30, 3) := by decide +kernel
theorem dX2_addSeen_4 : decode cX2_addSeen 4 = .ok (.aload_n 0, 1) := by decide +kernel
theorem dX2_addSeen_5 : decode cX2_addSeen 5 = .ok (.getfield 62, 3) := by decide +kernel
theorem dX2_addSeen_8 : decode cX2_addSeen 8 = .ok (.iload_n 1, 1) := by decide +kernel
theorem dX2_addSeen_9 : decode cX2_addSeen 9 = .ok (.invokestatic 139, 3) := by decide +kernel
theorem dX2_addSeen_12 : decode cX2_addSeen 12 = .ok (.aload_n 0, 1) := by decide +kernel
theorem dX2_addSeen_13 : decode cX2_addSeen 13 = .ok (.getfield 33, 3) := by decide +kernel
theorem dX2_addSeen_16 : decode cX2_addSeen 16 = .ok (.aload_n 0, 1) := by decide +kernel
theorem dX2_addSeen_17 : decode cX2_addSeen 17 = .ok (.getfield 62, 3) := by decide +kernel
theorem dX2_addSeen_20 : decode cX2_addSeen 20 = .ok (.iload_n 2, 1) := by decide +kernel
theorem dX2_addSeen_21 : decode cX2_addSeen 21 = .ok (.invokestatic 139, 3) := by decide +kernel
theorem dX2_addSeen_24 : decode cX2_addSeen 24 = .ok (.aload_n 0, 1) := by decide +kernel
theorem dX2_addSeen_25 : decode cX2_addSeen 25 = .ok (.dup, 1) := by decide +kernel
theorem dX2_addSeen_26 : decode cX2_addSeen 26 = .ok (.getfield 62, 3) := by decide +kernel
theorem dX2_addSeen_29 : decode cX2_addSeen 29 = .ok (.iconst 1, 1) := by decide +kernel
theorem dX2_addSeen_30 : decode cX2_addSeen 30 = .ok (.iadd, 1) := by decide +kernel
theorem dX2_addSeen_31 : decode cX2_addSeen 31 = .ok (.putfield 62, 3) := by decide +kernel
theorem dX2_addSeen_34 : decode cX2_addSeen 34 = .ok (.aload_n 0, 1) := by decide +kernel
theorem dX2_addSeen_35 : decode cX2_addSeen 35 = .ok (.getfield 62, 3) := by decide +kernel
theorem dX2_addSeen_38 : decode cX2_addSeen 38 = .ok (.ireturn, 1) := by decide +kernel
set_option maxRecDepth 20000 in
theorem ggX2_canBe_X4_cell : GoodIn wsX2_canBe wsX4_cell := goodIn_r _ [6] (by decide +kernel) (by decide +kernel)
set_option maxRecDepth 20000 in
theorem gX2_canBe_X4_cell_n114 : GoodIn wsX2_canBe (wsX4_cell) := ggX2_canBe_X4_cell
set_option maxRecDepth 20000 in
theorem ggX2_canBe_X4_lengthOfTurns : GoodIn wsX2_canBe wsX4_lengthOfTurns := goodIn_r _ [8] (by decide +kernel) (by decide +kernel)
set_option maxRecDepth 20000 in
theorem gX2_canBe_X4_lengthOfTurns_n73 : GoodIn wsX2_canBe (wsX4_lengthOfTurns) := ggX2_canBe_X4_lengthOfTurns
theorem dX2_canBe_0 : decode cX2_canBe 0 = .ok (.iconst 0, 1) := by decide +kernel
theorem dX2_canBe_1 : decode cX2_canBe 1 = .ok (.istore_n 3, 1) := by decide +kernel
theorem dX2_canBe_2 : decode cX2_canBe 2 = .ok (.iload_n 3, 1) := by decide +kernel
theorem dX2_canBe_3 : decode cX2_canBe 3 = .ok (.aload_n 0, 1) := by decide +kernel
theorem dX2_canBe_4 : decode cX2_canBe 4 = .ok (.getfield 62, 3) := by decide +kernel
theorem dX2_canBe_7 : decode cX2_canBe 7 = .ok (.if_icmp .ge 57, 3) := by decide +kernel
theorem dX2_canBe_10 : decode cX2_canBe 10 = .ok (.aload_n 0, 1) := by decide +kernel
theorem dX2_canBe_11 : decode cX2_canBe 11 = .ok (.getfield 30, 3) := by decide +kernel
theorem dX2_canBe_14 : decode cX2_canBe 14 = .ok (.iload_n 3, 1) := by decide +kernel
theorem dX2_canBe_15 : decode cX2_canBe 15 = .ok (.invokestatic 114, 3) := by decide +kernel
theorem dX2_canBe_18 : decode cX2_canBe 18 = .ok (.istore 4, 2) := by decide +kernel
theorem dX2_canBe_20 : decode cX2_canBe 20 = .ok (.aload_n 0, 1) := by decide +kernel
theorem dX2_canBe_21 : decode cX2_canBe 21 = .ok (.getfield 33, 3) := by decide +kernel
theorem dX2_canBe_24 : decode cX2_canBe 24 = .ok (.iload_n 3, 1) := by decide +kernel
theorem dX2_canBe_25 : decode cX2_canBe 25 = .ok (.invokestatic 114, 3) := by decide +kernel
theorem dX2_canBe_28 : decode cX2_canBe 28 = .ok (.istore 5, 2) := by decide +kernel
theorem dX2_canBe_30 : decode cX2_canBe 30 = .ok (.iload 5, 2) := by decide +kernel
theorem dX2_canBe_32 : decode cX2_canBe 32 = .ok (.iload 4, 2) := by decide +kernel
theorem dX2_canBe_34 : decode cX2_canBe 34 = .ok (.iload_n 1, 1) := by decide +kernel
theorem dX2_canBe_35 : decode cX2_canBe 35 = .ok (.iload_n 2, 1) := by decide +kernel
theorem dX2_canBe_36 : decode cX2_canBe 36 = .ok (.invokestatic 73, 3) := by decide +kernel
theorem dX2_canBe_39 : decode cX2_canBe 39 = .ok (.if_icmp .lt 17, 3) := by decide +kernel
theorem dX2_canBe_42 : decode cX2_canBe 42 = .ok (.iload 5, 2) := by decide +kernel
theorem dX2_canBe_44 : decode cX2_canBe 44 = .ok (.iload 4, 2) := by decide +kernel
theorem dX2_canBe_46 : decode cX2_canBe 46 = .ok (.iconst 1, 1) := by decide +kernel
theorem dX2_canBe_47 : decode cX2_canBe 47 = .ok (.iadd, 1) := by decide +kernel
theorem dX2_canBe_48 : decode cX2_canBe 48 = .ok (.iload_n 1, 1) := by decide +kernel
theorem dX2_canBe_49 : decode cX2_canBe 49 = .ok (.iload_n 2, 1) := by decide +kernel
theorem dX2_canBe_50 : decode cX2_canBe 50 = .ok (.invokestatic 73, 3) := by decide +kernel
theorem dX2_canBe_53 : decode cX2_canBe 53 = .ok (.if_icmp .lt 5, 3) := by decide +kernel
theorem dX2_canBe_56 : decode cX2_canBe 56 = .ok (.iconst 0, 1) := by decide +kernel
theorem dX2_canBe_57 : decode cX2_canBe 57 = .ok (.ireturn, 1) := by decide +kernel
theorem dX2_canBe_58 : decode cX2_canBe 58 = .ok (.iinc 3 1, 3) := by decide +kernel
theorem dX2_canBe_61 : decode cX2_canBe 61 = .ok (.goto (-59), 3) := by decide +kernel
theorem dX2_canBe_64 : decode cX2_canBe 64 = .ok (.iconst 1, 1) := by decide +kernel
theorem dX2_canBe_65 : decode cX2_canBe 65 = .ok (.ireturn, 1) := by decide +kernel
set_option maxRecDepth 20000 in
theorem ggX3_init_X2_init : GoodIn wsX3_init wsX2_init := goodIn_r _ [12, 13, 2, 3, 14, 15, 16, 17, 18, 19, 20, 21, 22, 23, 24, 25, 8, 26, 27, 28, 29, 30, 31, 32, 33, 34, 35, 36, 37, 38, 39, 40, 41, 42, 43, 54, 55, 56, 57, 58, 59, 60, 61, 62, 63, 64, 65, 66, 67] (by decide +kernel) (by decide +kernel)
set_option maxRecDepth 20000 in
theorem gX3_init_X2_init : GoodIn wsX3_init (wsX2_init) := ggX3_init_X2_init
theorem dX3_init_0 : decode cX3_init 0 = .ok (.aload_n 0, 1) := by decide +kernel
theorem dX3_init_1 : decode cX3_init 1 = .ok (.invokespecial 3, 3) := by decide +kernel
theorem dX3_init_4 : decode cX3_init 4 = .ok (.aload_n 0, 1) := by decide +kernel
theorem dX3_init_5 : decode cX3_init 5 = .ok (.sipush 400, 3) := by decide +kernel
theorem dX3_init_8 : decode cX3_init 8 = .ok (.newarray .byte, 2) := by decide +kernel
theorem dX3_init_10 : decode cX3_init 10 = .ok (.putfield 9, 3) := by decide +kernel
theorem dX3_init_13 : decode cX3_init 13 = .ok (.aload_n 0, 1) := by decide +kernel
theorem dX3_init_14 : decode cX3_init 14 = .ok (.new 15, 3) := by decide +kernel
theorem dX3_init_17 : decode cX3_init 17 = .ok (.dup, 1) := by decide +kernel
theorem dX3_init_18 : decode cX3_init 18 = .ok (.invokespecial 17, 3) := by decide +kernel
theorem dX3_init_21 : decode cX3_init 21 = .ok (.putfield 18, 3) := by decide +kernel
theorem dX3_init_24 : decode cX3_init 24 = .ok (.return_, 1) := by decide +kernel
theorem dX3_addLetter_0 : decode cX3_addLetter 0 = .ok (.aload_n 0, 1) := by decide +kernel
theorem dX3_addLetter_1 : decode cX3_addLetter 1 = .ok (.getfield 22, 3) := by decide +kernel
theorem dX3_addLetter_4 : decode cX3_addLetter 4 = .ok (.ifCond .lt 25, 3) := by decide +kernel
theorem dX3_addLetter_7 : decode cX3_addLetter 7 = .ok (.aload_n 0, 1) := by decide +kernel
theorem dX3_addLetter_8 : decode cX3_addLetter 8 = .ok (.getfield 22, 3) := by decide +kernel
theorem dX3_addLetter_11 : decode cX3_addLetter 11 = .ok (.aload_n 0, 1) := by decide +kernel
theorem dX3_addLetter_12 : decode cX3_addLetter 12 = .ok (.getfield 9, 3) := by decide +kernel
theorem dX3_addLetter_15 : decode cX3_addLetter 15 = .ok (.arraylength, 1) := by decide +kernel
theorem dX3_addLetter_16 : decode cX3_addLetter 16 = .ok (.if_icmp .ge 13, 3) := by decide +kernel
theorem dX3_addLetter_19 : decode cX3_addLetter 19 = .ok (.aload_n 0, 1) := by decide +kernel
theorem dX3_addLetter_20 : decode cX3_addLetter 20 = .ok (.getfield 9, 3) := by decide +kernel
theorem dX3_addLetter_23 : decode cX3_addLetter 23 = .ok (.aload_n 0, 1) := by decide +kernel
theorem dX3_addLetter_24 : decode cX3_addLetter 24 = .ok (.getfield 22, 3) := by decide +kernel
theorem dX3_addLetter_27 : decode cX3_addLetter 27 = .ok (.iload_n 1, 1) := by decide +kernel
theorem dX3_addLetter_28 : decode cX3_addLetter 28 = .ok (.bastore, 1) := by decide +kernel
theorem dX3_addLetter_29 : decode cX3_addLetter 29 = .ok (.aload_n 0, 1) := by decide +kernel
theorem dX3_addLetter_30 : decode cX3_addLetter 30 = .ok (.dup, 1) := by decide +kernel
theorem dX3_addLetter_31 : decode cX3_addLetter 31 = .ok (.getfield 22, 3) := by decide +kernel
theorem dX3_addLetter_34 : decode cX3_addLetter 34 = .ok (.iconst 1, 1) := by decide +kernel
theorem dX3_addLetter_35 : decode cX3_addLetter 35 = .ok (.iadd, 1) := by decide +kernel
theorem dX3_addLetter_36 : decode cX3_addLetter 36 = .ok (.putfield 22, 3) := by decide +kernel
theorem dX3_addLetter_39 : decode cX3_addLetter 39 = .ok (.return_, 1) := by decide +kernel
set_option maxRecDepth 20000 in
theorem ggX3_takeAll_X2_reset : GoodIn wsX3_takeAll wsX2_reset := goodIn_r _ [14, 15, 16, 17, 18, 19, 20, 21, 22, 23, 24, 25, 26, 27, 28, 29, 30, 31, 32, 221, 222, 223, 224, 225, 226, 227, 228, 229, 230, 231, 232, 233, 234] (by decide +kernel) (by decide +kernel)
set_option maxRecDepth 20000 in
theorem gX3_takeAll_X2_reset : GoodIn wsX3_takeAll (wsV RX3 26 RX2 yX2_reset wsX2_reset) := goodIn_app (goodIn_of _ (by decide +kernel)) ggX3_takeAll_X2_reset
set_option maxRecDepth 20000 in
theorem ggX3_takeAll_X3_readToken : GoodIn wsX3_takeAll wsX3_readToken := goodIn_r _ [37, 2, 9, 38, 6, 39, 40, 41, 36, 42, 43, 44, 45, 46, 47, 48, 49, 50, 51, 52, 53, 54, 55, 56, 57, 58, 4, 5, 211, 212, 213, 214, 215, 216, 217, 218, 219, 220] (by decide +kernel) (by decide +kernel)
set_option maxRecDepth 20000 in
theorem gX3_takeAll_X3_readToken : GoodIn wsX3_takeAll (wsV RX3 41 RX3 yX3_readToken wsX3_readToken) := goodIn_app (goodIn_of _ (by decide +kernel)) ggX3_takeAll_X3_readToken
set_option maxRecDepth 20000 in
theorem ggX3_takeAll_X3_takeLine : GoodIn wsX3_takeAll wsX3_takeLine := goodIn_r _ [62, 38, 4, 63, 64, 65, 36, 66, 67, 68, 69, 70, 6, 2, 71, 72, 73, 74, 75, 76, 77, 78, 79, 80, 81, 82, 39, 40, 41, 42, 9, 43, 83, 84, 85, 86, 87, 88, 89, 90, 91, 92, 93, 94, 95, 96, 97, 98, 99, 100, 101, 102, 103, 104, 105, 106, 107, 108, 109, 110, 111, 112, 113, 114, 115, 116, 117, 118, 119, 120, 121, 122, 123, 3, 1, 124, 54, 55, 56, 57, 58, 5, 33, 34, 35, 37, 44, 45, 46, 47, 48, 49, 50, 51, 52, 53, 125, 23, 126, 127, 128, 129, 130, 131, 132, 133, 134, 135, 136, 137, 138, 7, 8, 139, 140, 141, 142, 143, 144, 145, 13, 146, 147, 19, 148, 149, 150, 151, 16, 152, 153, 154, 155, 156, 157, 158, 159, 160, 161, 162, 163, 164, 165, 166, 167, 168, 169, 170, 171, 172, 173, 174, 211, 212, 213, 214, 215, 216, 217, 218, 219, 220, 221, 222, 223, 224, 225, 226, 227, 228, 229, 230, 231, 232, 233, 234] (by decide +kernel) (by decide +kernel)
set_option maxRecDepth 20000 in
theorem gX3_takeAll_X3_takeLine : GoodIn wsX3_takeAll (wsV RX3 47 RX3 yX3_takeLine wsX3_takeLine) := goodIn_app (goodIn_of _ (by decide +kernel)) ggX3_takeAll_X3_takeLine
set_option maxRecDepth 20000 in
theorem ggX3_takeAll_X2_layOutBlocks : GoodIn wsX3_takeAll wsX2_layOutBlocks := goodIn_r _ [178, 16, 152, 179, 180, 181, 13, 182, 183, 184, 185, 186, 187, 188, 189, 190, 131, 23, 132, 191, 192, 193, 194, 125, 126, 195, 196, 197, 198, 153, 199, 200, 201, 202, 203, 204, 205, 206, 15, 207, 208, 133, 134, 221, 222, 223, 224, 225, 226, 227, 228, 229, 230, 231, 232, 233, 234] (by decide +kernel) (by decide +kernel)
set_option maxRecDepth 20000 in
theorem gX3_takeAll_X2_layOutBlocks : GoodIn wsX3_takeAll (wsV RX3 50 RX2 yX2_layOutBlocks wsX2_layOutBlocks) := goodIn_app (goodIn_of _ (by decide +kernel)) ggX3_takeAll_X2_layOutBlocks
set_option maxRecDepth 20000 in
theorem ggX3_takeAll_X2_endOf : GoodIn wsX3_takeAll wsX2_endOf := goodIn_r _ [186, 187, 188, 189, 13, 190, 16, 131, 23, 132, 191, 192, 193, 194, 152, 125, 126, 195, 196, 197, 198, 153, 199, 200, 201, 202, 203, 204, 205, 206, 15, 207, 208, 221, 222, 223, 224, 225, 226, 227, 228, 229, 230, 231, 232, 233, 234] (by decide +kernel) (by decide +kernel)
set_option maxRecDepth 20000 in
theorem gX3_takeAll_X2_endOf : GoodIn wsX3_takeAll (wsV RX3 59 RX2 yX2_endOf wsX2_endOf) := goodIn_app (goodIn_of _ (by decide +kernel)) ggX3_takeAll_X2_endOf
set_option maxRecDepth 20000 in
theorem ggX3_takeAll_X2_ruled : GoodIn wsX3_takeAll wsX2_ruled := goodIn_r _ [206, 15, 221, 222, 223, 224, 225, 226, 227, 228, 229, 230, 231, 232, 233, 234] (by decide +kernel) (by decide +kernel)
set_option maxRecDepth 20000 in
theorem gX3_takeAll_X2_ruled : GoodIn wsX3_takeAll (wsV RX3 63 RX2 yX2_ruled wsX2_ruled) := goodIn_app (goodIn_of _ (by decide +kernel)) ggX3_takeAll_X2_ruled
set_option maxRecDepth 20000 in
theorem ggX3_takeAll_X3_refuse : GoodIn wsX3_takeAll wsX3_refuse := goodIn_r _ [58, 4, 5, 211, 212, 213, 214, 215, 216, 217, 218, 219, 220] (by decide +kernel) (by decide +kernel)
set_option maxRecDepth 20000 in
theorem gX3_takeAll_X3_refuse : GoodIn wsX3_takeAll (wsV RX3 66 RX3 yX3_refuse wsX3_refuse) := goodIn_app (goodIn_of _ (by decide +kernel)) ggX3_takeAll_X3_refuse
theorem dX3_takeAll_0 : decode cX3_takeAll 0 = .ok (.aload_n 0, 1) := by decide +kernel
theorem dX3_takeAll_1 : decode cX3_takeAll 1 = .ok (.getfield 18, 3) := by decide +kernel
theorem dX3_takeAll_4 : decode cX3_takeAll 4 = .ok (.invokevirtual 26, 3) := by decide +kernel
theorem dX3_takeAll_7 : decode cX3_takeAll 7 = .ok (.aload_n 0, 1) := by decide +kernel
theorem dX3_takeAll_8 : decode cX3_takeAll 8 = .ok (.iconst 0, 1) := by decide +kernel
theorem dX3_takeAll_9 : decode cX3_takeAll 9 = .ok (.putfield 29, 3) := by decide +kernel
theorem dX3_takeAll_12 : decode cX3_takeAll 12 = .ok (.aload_n 0, 1) := by decide +kernel
theorem dX3_takeAll_13 : decode cX3_takeAll 13 = .ok (.iconst 0, 1) := by decide +kernel
theorem dX3_takeAll_14 : decode cX3_takeAll 14 = .ok (.putfield 32, 3) := by decide +kernel
theorem dX3_takeAll_17 : decode cX3_takeAll 17 = .ok (.aload_n 0, 1) := by decide +kernel
theorem dX3_takeAll_18 : decode cX3_takeAll 18 = .ok (.iconst 0, 1) := by decide +kernel
theorem dX3_takeAll_19 : decode cX3_takeAll 19 = .ok (.putfield 35, 3) := by decide +kernel
theorem dX3_takeAll_22 : decode cX3_takeAll 22 = .ok (.aload_n 0, 1) := by decide +kernel
theorem dX3_takeAll_23 : decode cX3_takeAll 23 = .ok (.iconst 0, 1) := by decide +kernel
theorem dX3_takeAll_24 : decode cX3_takeAll 24 = .ok (.putfield 38, 3) := by decide +kernel
theorem dX3_takeAll_27 : decode cX3_takeAll 27 = .ok (.iconst 0, 1) := by decide +kernel
theorem dX3_takeAll_28 : decode cX3_takeAll 28 = .ok (.istore_n 1, 1) := by decide +kernel
theorem dX3_takeAll_29 : decode cX3_takeAll 29 = .ok (.aload_n 0, 1) := by decide +kernel
theorem dX3_takeAll_30 : decode cX3_takeAll 30 = .ok (.invokevirtual 41, 3) := by decide +kernel
theorem dX3_takeAll_33 : decode cX3_takeAll 33 = .ok (.aload_n 0, 1) := by decide +kernel
theorem dX3_takeAll_34 : decode cX3_takeAll 34 = .ok (.getfield 44, 3) := by decide +kernel
theorem dX3_takeAll_37 : decode cX3_takeAll 37 = .ok (.ifCond .eq 27, 3) := by decide +kernel
theorem dX3_takeAll_40 : decode cX3_takeAll 40 = .ok (.aload_n 0, 1) := by decide +kernel
theorem dX3_takeAll_41 : decode cX3_takeAll 41 = .ok (.getfield 35, 3) := by decide +kernel
theorem dX3_takeAll_44 : decode cX3_takeAll 44 = .ok (.ifCond .ne 20, 3) := by decide +kernel
theorem dX3_takeAll_47 : decode cX3_takeAll 47 = .ok (.iload_n 1, 1) := by decide +kernel
theorem dX3_takeAll_48 : decode cX3_takeAll 48 = .ok (.sipush 400, 3) := by decide +kernel
theorem dX3_takeAll_51 : decode cX3_takeAll 51 = .ok (.if_icmp .ge 13, 3) := by decide +kernel
theorem dX3_takeAll_54 : decode cX3_takeAll 54 = .ok (.aload_n 0, 1) := by decide +kernel
theorem dX3_takeAll_55 : decode cX3_takeAll 55 = .ok (.invokevirtual 47, 3) := by decide +kernel
theorem dX3_takeAll_58 : decode cX3_takeAll 58 = .ok (.iinc 1 1, 3) := by decide +kernel
theorem dX3_takeAll_61 : decode cX3_takeAll 61 = .ok (.goto (-28), 3) := by decide +kernel
theorem dX3_takeAll_64 : decode cX3_takeAll 64 = .ok (.aload_n 0, 1) := by decide +kernel
theorem dX3_takeAll_65 : decode cX3_takeAll 65 = .ok (.getfield 18, 3) := by decide +kernel
theorem dX3_takeAll_68 : decode cX3_takeAll 68 = .ok (.invokevirtual 50, 3) := by decide +kernel
theorem dX3_takeAll_71 : decode cX3_takeAll 71 = .ok (.aload_n 0, 1) := by decide +kernel
theorem dX3_takeAll_72 : decode cX3_takeAll 72 = .ok (.getfield 18, 3) := by decide +kernel
theorem dX3_takeAll_75 : decode cX3_takeAll 75 = .ok (.iconst 0, 1) := by decide +kernel
theorem dX3_takeAll_76 : decode cX3_takeAll 76 = .ok (.putfield 53, 3) := by decide +kernel
theorem dX3_takeAll_79 : decode cX3_takeAll 79 = .ok (.aload_n 0, 1) := by decide +kernel
theorem dX3_takeAll_80 : decode cX3_takeAll 80 = .ok (.getfield 18, 3) := by decide +kernel
theorem dX3_takeAll_83 : decode cX3_takeAll 83 = .ok (.aload_n 0, 1) := by decide +kernel
theorem dX3_takeAll_84 : decode cX3_takeAll 84 = .ok (.getfield 18, 3) := by decide +kernel
theorem dX3_takeAll_87 : decode cX3_takeAll 87 = .ok (.getfield 56, 3) := by decide +kernel
theorem dX3_takeAll_90 : decode cX3_takeAll 90 = .ok (.iconst 1, 1) := by decide +kernel
theorem dX3_takeAll_91 : decode cX3_takeAll 91 = .ok (.isub, 1) := by decide +kernel
theorem dX3_takeAll_92 : decode cX3_takeAll 92 = .ok (.invokevirtual 59, 3) := by decide +kernel
theorem dX3_takeAll_95 : decode cX3_takeAll 95 = .ok (.aload_n 0, 1) := by decide +kernel
theorem dX3_takeAll_96 : decode cX3_takeAll 96 = .ok (.getfield 18, 3) := by decide +kernel
theorem dX3_takeAll_99 : decode cX3_takeAll 99 = .ok (.iconst 0, 1) := by decide +kernel
theorem dX3_takeAll_100 : decode cX3_takeAll 100 = .ok (.invokevirtual 63, 3) := by decide +kernel
theorem dX3_takeAll_103 : decode cX3_takeAll 103 = .ok (.if_icmp .le 13, 3) := by decide +kernel
theorem dX3_takeAll_106 : decode cX3_takeAll 106 = .ok (.aload_n 0, 1) := by decide +kernel
theorem dX3_takeAll_107 : decode cX3_takeAll 107 = .ok (.bipush 6, 2) := by decide +kernel
theorem dX3_takeAll_109 : decode cX3_takeAll 109 = .ok (.aload_n 0, 1) := by decide +kernel
theorem dX3_takeAll_110 : decode cX3_takeAll 110 = .ok (.getfield 22, 3) := by decide +kernel
theorem dX3_takeAll_113 : decode cX3_takeAll 113 = .ok (.invokevirtual 66, 3) := by decide +kernel
theorem dX3_takeAll_116 : decode cX3_takeAll 116 = .ok (.iload_n 1, 1) := by decide +kernel
theorem dX3_takeAll_117 : decode cX3_takeAll 117 = .ok (.ireturn, 1) := by decide +kernel
theorem dX3_refuse_0 : decode cX3_refuse 0 = .ok (.aload_n 0, 1) := by decide +kernel
theorem dX3_refuse_1 : decode cX3_refuse 1 = .ok (.getfield 35, 3) := by decide +kernel
theorem dX3_refuse_4 : decode cX3_refuse 4 = .ok (.ifCond .eq 4, 3) := by decide +kernel
theorem dX3_refuse_7 : decode cX3_refuse 7 = .ok (.return_, 1) := by decide +kernel
theorem dX3_refuse_8 : decode cX3_refuse 8 = .ok (.aload_n 0, 1) := by decide +kernel
theorem dX3_refuse_9 : decode cX3_refuse 9 = .ok (.iload_n 1, 1) := by decide +kernel
theorem dX3_refuse_10 : decode cX3_refuse 10 = .ok (.putfield 35, 3) := by decide +kernel
theorem dX3_refuse_13 : decode cX3_refuse 13 = .ok (.aload_n 0, 1) := by decide +kernel
theorem dX3_refuse_14 : decode cX3_refuse 14 = .ok (.iload_n 2, 1) := by decide +kernel
theorem dX3_refuse_15 : decode cX3_refuse 15 = .ok (.putfield 38, 3) := by decide +kernel
theorem dX3_refuse_18 : decode cX3_refuse 18 = .ok (.return_, 1) := by decide +kernel
theorem dX3_letterAt_0 : decode cX3_letterAt 0 = .ok (.iload_n 1, 1) := by decide +kernel
theorem dX3_letterAt_1 : decode cX3_letterAt 1 = .ok (.ifCond .lt 33, 3) := by decide +kernel
theorem dX3_letterAt_4 : decode cX3_letterAt 4 = .ok (.iload_n 1, 1) := by decide +kernel
theorem dX3_letterAt_5 : decode cX3_letterAt 5 = .ok (.aload_n 0, 1) := by decide +kernel
theorem dX3_letterAt_6 : decode cX3_letterAt 6 = .ok (.getfield 22, 3) := by decide +kernel
theorem dX3_letterAt_9 : decode cX3_letterAt 9 = .ok (.if_icmp .ge 25, 3) := by decide +kernel
theorem dX3_letterAt_12 : decode cX3_letterAt 12 = .ok (.iload_n 1, 1) := by decide +kernel
theorem dX3_letterAt_13 : decode cX3_letterAt 13 = .ok (.aload_n 0, 1) := by decide +kernel
theorem dX3_letterAt_14 : decode cX3_letterAt 14 = .ok (.getfield 9, 3) := by decide +kernel
theorem dX3_letterAt_17 : decode cX3_letterAt 17 = .ok (.arraylength, 1) := by decide +kernel
theorem dX3_letterAt_18 : decode cX3_letterAt 18 = .ok (.if_icmp .ge 16, 3) := by decide +kernel
theorem dX3_letterAt_21 : decode cX3_letterAt 21 = .ok (.aload_n 0, 1) := by decide +kernel
theorem dX3_letterAt_22 : decode cX3_letterAt 22 = .ok (.getfield 9, 3) := by decide +kernel
theorem dX3_letterAt_25 : decode cX3_letterAt 25 = .ok (.iload_n 1, 1) := by decide +kernel
theorem dX3_letterAt_26 : decode cX3_letterAt 26 = .ok (.baload, 1) := by decide +kernel
theorem dX3_letterAt_27 : decode cX3_letterAt 27 = .ok (.sipush 255, 3) := by decide +kernel
theorem dX3_letterAt_30 : decode cX3_letterAt 30 = .ok (.iand, 1) := by decide +kernel
theorem dX3_letterAt_31 : decode cX3_letterAt 31 = .ok (.goto 4, 3) := by decide +kernel
theorem dX3_letterAt_34 : decode cX3_letterAt 34 = .ok (.iconst (-1), 1) := by decide +kernel
theorem dX3_letterAt_35 : decode cX3_letterAt 35 = .ok (.ireturn, 1) := by decide +kernel
theorem dX3_isSmallLetter_0 : decode cX3_isSmallLetter 0 = .ok (.iload_n 0, 1) := by decide +kernel
theorem dX3_isSmallLetter_1 : decode cX3_isSmallLetter 1 = .ok (.bipush 97, 2) := by decide +kernel
theorem dX3_isSmallLetter_3 : decode cX3_isSmallLetter 3 = .ok (.if_icmp .lt 13, 3) := by decide +kernel
theorem dX3_isSmallLetter_6 : decode cX3_isSmallLetter 6 = .ok (.iload_n 0, 1) := by decide +kernel
theorem dX3_isSmallLetter_7 : decode cX3_isSmallLetter 7 = .ok (.bipush 122, 2) := by decide +kernel
theorem dX3_isSmallLetter_9 : decode cX3_isSmallLetter 9 = .ok (.if_icmp .gt 7, 3) := by decide +kernel
theorem dX3_isSmallLetter_12 : decode cX3_isSmallLetter 12 = .ok (.iconst 1, 1) := by decide +kernel
theorem dX3_isSmallLetter_13 : decode cX3_isSmallLetter 13 = .ok (.goto 4, 3) := by decide +kernel
theorem dX3_isSmallLetter_16 : decode cX3_isSmallLetter 16 = .ok (.iconst 0, 1) := by decide +kernel
theorem dX3_isSmallLetter_17 : decode cX3_isSmallLetter 17 = .ok (.ireturn, 1) := by decide +kernel
theorem dX3_isFigure_0 : decode cX3_isFigure 0 = .ok (.iload_n 0, 1) := by decide +kernel
theorem dX3_isFigure_1 : decode cX3_isFigure 1 = .ok (.bipush 48, 2) := by decide +kernel
theorem dX3_isFigure_3 : decode cX3_isFigure 3 = .ok (.if_icmp .lt 13, 3) := by decide +kernel
theorem dX3_isFigure_6 : decode cX3_isFigure 6 = .ok (.iload_n 0, 1) := by decide +kernel
theorem dX3_isFigure_7 : decode cX3_isFigure 7 = .ok (.bipush 57, 2) := by decide +kernel
theorem dX3_isFigure_9 : decode cX3_isFigure 9 = .ok (.if_icmp .gt 7, 3) := by decide +kernel
theorem dX3_isFigure_12 : decode cX3_isFigure 12 = .ok (.iconst 1, 1) := by decide +kernel
theorem dX3_isFigure_13 : decode cX3_isFigure 13 = .ok (.goto 4, 3) := by decide +kernel
theorem dX3_isFigure_16 : decode cX3_isFigure 16 = .ok (.iconst 0, 1) := by decide +kernel
theorem dX3_isFigure_17 : decode cX3_isFigure 17 = .ok (.ireturn, 1) := by decide +kernel
set_option maxRecDepth 20000 in
theorem ggX3_readToken_X3_letterAt : GoodIn wsX3_readToken wsX3_letterAt := goodIn_r _ [9, 2, 10, 28, 29, 30, 31, 32, 33, 34, 35, 36, 37] (by decide +kernel) (by decide +kernel)
set_option maxRecDepth 20000 in
theorem gX3_readToken_X3_letterAt : GoodIn wsX3_readToken (wsV RX3 70 RX3 yX3_letterAt wsX3_letterAt) := goodIn_app (goodIn_of _ (by decide +kernel)) ggX3_readToken_X3_letterAt
set_option maxRecDepth 20000 in
theorem ggX3_readToken_X3_isSmallLetter : GoodIn wsX3_readToken wsX3_isSmallLetter := goodIn_r _ [13] (by decide +kernel) (by decide +kernel)
set_option maxRecDepth 20000 in
theorem gX3_readToken_X3_isSmallLetter : GoodIn wsX3_readToken (va_wsS RX3 76 yX3_isSmallLetter wsX3_isSmallLetter) := goodIn_app (goodIn_of _ (by decide +kernel)) ggX3_readToken_X3_isSmallLetter
set_option maxRecDepth 20000 in
theorem ggX3_readToken_X3_isFigure : GoodIn wsX3_readToken wsX3_isFigure := goodIn_r _ [16] (by decide +kernel) (by decide +kernel)
set_option maxRecDepth 20000 in
theorem gX3_readToken_X3_isFigure : GoodIn wsX3_readToken (va_wsS RX3 80 yX3_isFigure wsX3_isFigure) := goodIn_app (goodIn_of _ (by decide +kernel)) ggX3_readToken_X3_isFigure
set_option maxRecDepth 20000 in
theorem ggX3_readToken_X3_readNumber : GoodIn wsX3_readToken wsX3_readNumber := goodIn_r _ [20, 1, 2, 3, 4, 21, 5, 6, 7, 8, 9, 10, 14, 15, 16, 28, 29, 30, 31, 32, 33, 34, 35, 36, 37] (by decide +kernel) (by decide +kernel)
set_option maxRecDepth 20000 in
theorem gX3_readToken_X3_readNumber : GoodIn wsX3_readToken (wsV RX3 83 RX3 yX3_readNumber wsX3_readNumber) := goodIn_app (goodIn_of _ (by decide +kernel)) ggX3_readToken_X3_readNumber
set_option maxRecDepth 20000 in
theorem ggX3_readToken_X3_refuse : GoodIn wsX3_readToken wsX3_refuse := goodIn_r _ [25, 26, 27, 28, 29, 30, 31, 32, 33, 34, 35, 36, 37] (by decide +kernel) (by decide +kernel)
set_option maxRecDepth 20000 in
theorem gX3_readToken_X3_refuse : GoodIn wsX3_readToken (wsV RX3 66 RX3 yX3_refuse wsX3_refuse) := goodIn_app (goodIn_of _ (by decide +kernel)) ggX3_readToken_X3_refuse
theorem dX3_readToken_0 : decode cX3_readToken 0 = .ok (.aload_n 0, 1) := by decide +kernel
theorem dX3_readToken_1 : decode cX3_readToken 1 = .ok (.getfield 29, 3) := by decide +kernel
theorem dX3_readToken_4 : decode cX3_readToken 4 = .ok (.aload_n 0, 1) := by decide +kernel
theorem dX3_readToken_5 : decode cX3_readToken 5 = .ok (.getfield 22, 3) := by decide +kernel
theorem dX3_readToken_8 : decode cX3_readToken 8 = .ok (.if_icmp .ge 29, 3) := by decide +kernel
theorem dX3_readToken_11 : decode cX3_readToken 11 = .ok (.aload_n 0, 1) := by decide +kernel
theorem dX3_readToken_12 : decode cX3_readToken 12 = .ok (.aload_n 0, 1) := by decide +kernel
theorem dX3_readToken_13 : decode cX3_readToken 13 = .ok (.getfield 29, 3) := by decide +kernel
theorem dX3_readToken_16 : decode cX3_readToken 16 = .ok (.invokevirtual 70, 3) := by decide +kernel
theorem dX3_readToken_19 : decode cX3_readToken 19 = .ok (.bipush 32, 2) := by decide +kernel
theorem dX3_readToken_21 : decode cX3_readToken 21 = .ok (.if_icmp .ne 16, 3) := by decide +kernel
theorem dX3_readToken_24 : decode cX3_readToken 24 = .ok (.aload_n 0, 1) := by decide +kernel
theorem dX3_readToken_25 : decode cX3_readToken 25 = .ok (.dup, 1) := by decide +kernel
theorem dX3_readToken_26 : decode cX3_readToken 26 = .ok (.getfield 29, 3) := by decide +kernel
theorem dX3_readToken_29 : decode cX3_readToken 29 = .ok (.iconst 1, 1) := by decide +kernel
theorem dX3_readToken_30 : decode cX3_readToken 30 = .ok (.iadd, 1) := by decide +kernel
theorem dX3_readToken_31 : decode cX3_readToken 31 = .ok (.putfield 29, 3) := by decide +kernel
theorem dX3_readToken_34 : decode cX3_readToken 34 = .ok (.goto (-34), 3) := by decide +kernel
theorem dX3_readToken_37 : decode cX3_readToken 37 = .ok (.aload_n 0, 1) := by decide +kernel
theorem dX3_readToken_38 : decode cX3_readToken 38 = .ok (.aload_n 0, 1) := by decide +kernel
theorem dX3_readToken_39 : decode cX3_readToken 39 = .ok (.getfield 29, 3) := by decide +kernel
theorem dX3_readToken_42 : decode cX3_readToken 42 = .ok (.putfield 73, 3) := by decide +kernel
theorem dX3_readToken_45 : decode cX3_readToken 45 = .ok (.aload_n 0, 1) := by decide +kernel
theorem dX3_readToken_46 : decode cX3_readToken 46 = .ok (.aload_n 0, 1) := by decide +kernel
theorem dX3_readToken_47 : decode cX3_readToken 47 = .ok (.getfield 73, 3) := by decide +kernel
theorem dX3_readToken_50 : decode cX3_readToken 50 = .ok (.invokevirtual 70, 3) := by decide +kernel
theorem dX3_readToken_53 : decode cX3_readToken 53 = .ok (.istore_n 1, 1) := by decide +kernel
theorem dX3_readToken_54 : decode cX3_readToken 54 = .ok (.iload_n 1, 1) := by decide +kernel
theorem dX3_readToken_55 : decode cX3_readToken 55 = .ok (.ifCond .ge 11, 3) := by decide +kernel
theorem dX3_readToken_58 : decode cX3_readToken 58 = .ok (.aload_n 0, 1) := by decide +kernel
theorem dX3_readToken_59 : decode cX3_readToken 59 = .ok (.iconst 0, 1) := by decide +kernel
theorem dX3_readToken_60 : decode cX3_readToken 60 = .ok (.putfield 44, 3) := by decide +kernel
theorem dX3_readToken_63 : decode cX3_readToken 63 = .ok (.goto 92, 3) := by decide +kernel
theorem dX3_readToken_66 : decode cX3_readToken 66 = .ok (.iload_n 1, 1) := by decide +kernel
theorem dX3_readToken_67 : decode cX3_readToken 67 = .ok (.invokestatic 76, 3) := by decide +kernel
theorem dX3_readToken_70 : decode cX3_readToken 70 = .ok (.ifCond .eq 46, 3) := by decide +kernel
theorem dX3_readToken_73 : decode cX3_readToken 73 = .ok (.aload_n 0, 1) := by decide +kernel
theorem dX3_readToken_74 : decode cX3_readToken 74 = .ok (.iconst 1, 1) := by decide +kernel
theorem dX3_readToken_75 : decode cX3_readToken 75 = .ok (.putfield 44, 3) := by decide +kernel
theorem dX3_readToken_78 : decode cX3_readToken 78 = .ok (.aload_n 0, 1) := by decide +kernel
theorem dX3_readToken_79 : decode cX3_readToken 79 = .ok (.getfield 29, 3) := by decide +kernel
theorem dX3_readToken_82 : decode cX3_readToken 82 = .ok (.aload_n 0, 1) := by decide +kernel
theorem dX3_readToken_83 : decode cX3_readToken 83 = .ok (.getfield 22, 3) := by decide +kernel
theorem dX3_readToken_86 : decode cX3_readToken 86 = .ok (.if_icmp .ge 69, 3) := by decide +kernel
theorem dX3_readToken_89 : decode cX3_readToken 89 = .ok (.aload_n 0, 1) := by decide +kernel
theorem dX3_readToken_90 : decode cX3_readToken 90 = .ok (.aload_n 0, 1) := by decide +kernel
theorem dX3_readToken_91 : decode cX3_readToken 91 = .ok (.getfield 29, 3) := by decide +kernel
theorem dX3_readToken_94 : decode cX3_readToken 94 = .ok (.invokevirtual 70, 3) := by decide +kernel
theorem dX3_readToken_97 : decode cX3_readToken 97 = .ok (.invokestatic 76, 3) := by decide +kernel
theorem dX3_readToken_100 : decode cX3_readToken 100 = .ok (.ifCond .eq 55, 3) := by decide +kernel
theorem dX3_readToken_103 : decode cX3_readToken 103 = .ok (.aload_n 0, 1) := by decide +kernel
theorem dX3_readToken_104 : decode cX3_readToken 104 = .ok (.dup, 1) := by decide +kernel
theorem dX3_readToken_105 : decode cX3_readToken 105 = .ok (.getfield 29, 3) := by decide +kernel
theorem dX3_readToken_108 : decode cX3_readToken 108 = .ok (.iconst 1, 1) := by decide +kernel
theorem dX3_readToken_109 : decode cX3_readToken 109 = .ok (.iadd, 1) := by decide +kernel
theorem dX3_readToken_110 : decode cX3_readToken 110 = .ok (.putfield 29, 3) := by decide +kernel
theorem dX3_readToken_113 : decode cX3_readToken 113 = .ok (.goto (-35), 3) := by decide +kernel
theorem dX3_readToken_116 : decode cX3_readToken 116 = .ok (.iload_n 1, 1) := by decide +kernel
theorem dX3_readToken_117 : decode cX3_readToken 117 = .ok (.invokestatic 80, 3) := by decide +kernel
theorem dX3_readToken_120 : decode cX3_readToken 120 = .ok (.ifCond .eq 10, 3) := by decide +kernel
theorem dX3_readToken_123 : decode cX3_readToken 123 = .ok (.aload_n 0, 1) := by decide +kernel
theorem dX3_readToken_124 : decode cX3_readToken 124 = .ok (.invokevirtual 83, 3) := by decide +kernel
theorem dX3_readToken_127 : decode cX3_readToken 127 = .ok (.goto 28, 3) := by decide +kernel
theorem dX3_readToken_130 : decode cX3_readToken 130 = .ok (.aload_n 0, 1) := by decide +kernel
theorem dX3_readToken_131 : decode cX3_readToken 131 = .ok (.iload_n 1, 1) := by decide +kernel
theorem dX3_readToken_132 : decode cX3_readToken 132 = .ok (.bipush 59, 2) := by decide +kernel
theorem dX3_readToken_134 : decode cX3_readToken 134 = .ok (.if_icmp .ne 7, 3) := by decide +kernel
theorem dX3_readToken_137 : decode cX3_readToken 137 = .ok (.iconst 3, 1) := by decide +kernel
theorem dX3_readToken_138 : decode cX3_readToken 138 = .ok (.goto 4, 3) := by decide +kernel
theorem dX3_readToken_141 : decode cX3_readToken 141 = .ok (.iconst 4, 1) := by decide +kernel
theorem dX3_readToken_142 : decode cX3_readToken 142 = .ok (.putfield 44, 3) := by decide +kernel
theorem dX3_readToken_145 : decode cX3_readToken 145 = .ok (.aload_n 0, 1) := by decide +kernel
theorem dX3_readToken_146 : decode cX3_readToken 146 = .ok (.dup, 1) := by decide +kernel
theorem dX3_readToken_147 : decode cX3_readToken 147 = .ok (.getfield 29, 3) := by decide +kernel
theorem dX3_readToken_150 : decode cX3_readToken 150 = .ok (.iconst 1, 1) := by decide +kernel
theorem dX3_readToken_151 : decode cX3_readToken 151 = .ok (.iadd, 1) := by decide +kernel
theorem dX3_readToken_152 : decode cX3_readToken 152 = .ok (.putfield 29, 3) := by decide +kernel
theorem dX3_readToken_155 : decode cX3_readToken 155 = .ok (.aload_n 0, 1) := by decide +kernel
theorem dX3_readToken_156 : decode cX3_readToken 156 = .ok (.getfield 44, 3) := by decide +kernel
theorem dX3_readToken_159 : decode cX3_readToken 159 = .ok (.iconst 4, 1) := by decide +kernel
theorem dX3_readToken_160 : decode cX3_readToken 160 = .ok (.if_icmp .ne 12, 3) := by decide +kernel
theorem dX3_readToken_163 : decode cX3_readToken 163 = .ok (.aload_n 0, 1) := by decide +kernel
theorem dX3_readToken_164 : decode cX3_readToken 164 = .ok (.iconst 1, 1) := by decide +kernel
theorem dX3_readToken_165 : decode cX3_readToken 165 = .ok (.aload_n 0, 1) := by decide +kernel
theorem dX3_readToken_166 : decode cX3_readToken 166 = .ok (.getfield 73, 3) := by decide +kernel
theorem dX3_readToken_169 : decode cX3_readToken 169 = .ok (.invokevirtual 66, 3) := by decide +kernel
theorem dX3_readToken_172 : decode cX3_readToken 172 = .ok (.return_, 1) := by decide +kernel
set_option maxRecDepth 20000 in
theorem ggX3_readNumber_X3_letterAt : GoodIn wsX3_readNumber wsX3_letterAt := goodIn_r _ [10, 2, 11, 15, 16, 17, 18, 19, 20, 21, 22, 23, 24] (by decide +kernel) (by decide +kernel)
set_option maxRecDepth 20000 in
theorem gX3_readNumber_X3_letterAt : GoodIn wsX3_readNumber (wsV RX3 70 RX3 yX3_letterAt wsX3_letterAt) := goodIn_app (goodIn_of _ (by decide +kernel)) ggX3_readNumber_X3_letterAt
set_option maxRecDepth 20000 in
theorem ggX3_readNumber_X3_isFigure : GoodIn wsX3_readNumber wsX3_isFigure := goodIn_r _ [14] (by decide +kernel) (by decide +kernel)
set_option maxRecDepth 20000 in
theorem gX3_readNumber_X3_isFigure : GoodIn wsX3_readNumber (va_wsS RX3 80 yX3_isFigure wsX3_isFigure) := goodIn_app (goodIn_of _ (by decide +kernel)) ggX3_readNumber_X3_isFigure
theorem dX3_readNumber_0 : decode cX3_readNumber 0 = .ok (.aload_n 0, 1) := by decide +kernel
theorem dX3_readNumber_1 : decode cX3_readNumber 1 = .ok (.getfield 29, 3) := by decide +kernel
theorem dX3_readNumber_4 : decode cX3_readNumber 4 = .ok (.aload_n 0, 1) := by decide +kernel
theorem dX3_readNumber_5 : decode cX3_readNumber 5 = .ok (.getfield 22, 3) := by decide +kernel
theorem dX3_readNumber_8 : decode cX3_readNumber 8 = .ok (.if_icmp .ge 30, 3) := by decide +kernel
theorem dX3_readNumber_11 : decode cX3_readNumber 11 = .ok (.aload_n 0, 1) := by decide +kernel
theorem dX3_readNumber_12 : decode cX3_readNumber 12 = .ok (.aload_n 0, 1) := by decide +kernel
theorem dX3_readNumber_13 : decode cX3_readNumber 13 = .ok (.getfield 29, 3) := by decide +kernel
theorem dX3_readNumber_16 : decode cX3_readNumber 16 = .ok (.invokevirtual 70, 3) := by decide +kernel
theorem dX3_readNumber_19 : decode cX3_readNumber 19 = .ok (.invokestatic 80, 3) := by decide +kernel
theorem dX3_readNumber_22 : decode cX3_readNumber 22 = .ok (.ifCond .eq 16, 3) := by decide +kernel
theorem dX3_readNumber_25 : decode cX3_readNumber 25 = .ok (.aload_n 0, 1) := by decide +kernel
theorem dX3_readNumber_26 : decode cX3_readNumber 26 = .ok (.dup, 1) := by decide +kernel
theorem dX3_readNumber_27 : decode cX3_readNumber 27 = .ok (.getfield 29, 3) := by decide +kernel
theorem dX3_readNumber_30 : decode cX3_readNumber 30 = .ok (.iconst 1, 1) := by decide +kernel
theorem dX3_readNumber_31 : decode cX3_readNumber 31 = .ok (.iadd, 1) := by decide +kernel
theorem dX3_readNumber_32 : decode cX3_readNumber 32 = .ok (.putfield 29, 3) := by decide +kernel
theorem dX3_readNumber_35 : decode cX3_readNumber 35 = .ok (.goto (-35), 3) := by decide +kernel
theorem dX3_readNumber_38 : decode cX3_readNumber 38 = .ok (.aload_n 0, 1) := by decide +kernel
theorem dX3_readNumber_39 : decode cX3_readNumber 39 = .ok (.aload_n 0, 1) := by decide +kernel
theorem dX3_readNumber_40 : decode cX3_readNumber 40 = .ok (.getfield 29, 3) := by decide +kernel
theorem dX3_readNumber_43 : decode cX3_readNumber 43 = .ok (.aload_n 0, 1) := by decide +kernel
theorem dX3_readNumber_44 : decode cX3_readNumber 44 = .ok (.getfield 73, 3) := by decide +kernel
theorem dX3_readNumber_47 : decode cX3_readNumber 47 = .ok (.isub, 1) := by decide +kernel
theorem dX3_readNumber_48 : decode cX3_readNumber 48 = .ok (.iconst 4, 1) := by decide +kernel
theorem dX3_readNumber_49 : decode cX3_readNumber 49 = .ok (.if_icmp .le 7, 3) := by decide +kernel
theorem dX3_readNumber_52 : decode cX3_readNumber 52 = .ok (.iconst 4, 1) := by decide +kernel
theorem dX3_readNumber_53 : decode cX3_readNumber 53 = .ok (.goto 4, 3) := by decide +kernel
theorem dX3_readNumber_56 : decode cX3_readNumber 56 = .ok (.iconst 2, 1) := by decide +kernel
theorem dX3_readNumber_57 : decode cX3_readNumber 57 = .ok (.putfield 44, 3) := by decide +kernel
theorem dX3_readNumber_60 : decode cX3_readNumber 60 = .ok (.aload_n 0, 1) := by decide +kernel
theorem dX3_readNumber_61 : decode cX3_readNumber 61 = .ok (.iconst 0, 1) := by decide +kernel
theorem dX3_readNumber_62 : decode cX3_readNumber 62 = .ok (.putfield 86, 3) := by decide +kernel
theorem dX3_readNumber_65 : decode cX3_readNumber 65 = .ok (.aload_n 0, 1) := by decide +kernel
theorem dX3_readNumber_66 : decode cX3_readNumber 66 = .ok (.getfield 44, 3) := by decide +kernel
theorem dX3_readNumber_69 : decode cX3_readNumber 69 = .ok (.iconst 4, 1) := by decide +kernel
theorem dX3_readNumber_70 : decode cX3_readNumber 70 = .ok (.if_icmp .ne 4, 3) := by decide +kernel
theorem dX3_readNumber_73 : decode cX3_readNumber 73 = .ok (.return_, 1) := by decide +kernel
theorem dX3_readNumber_74 : decode cX3_readNumber 74 = .ok (.aload_n 0, 1) := by decide +kernel
theorem dX3_readNumber_75 : decode cX3_readNumber 75 = .ok (.getfield 73, 3) := by decide +kernel
theorem dX3_readNumber_78 : decode cX3_readNumber 78 = .ok (.istore_n 1, 1) := by decide +kernel
theorem dX3_readNumber_79 : decode cX3_readNumber 79 = .ok (.iload_n 1, 1) := by decide +kernel
theorem dX3_readNumber_80 : decode cX3_readNumber 80 = .ok (.aload_n 0, 1) := by decide +kernel
theorem dX3_readNumber_81 : decode cX3_readNumber 81 = .ok (.getfield 29, 3) := by decide +kernel
theorem dX3_readNumber_84 : decode cX3_readNumber 84 = .ok (.if_icmp .ge 29, 3) := by decide +kernel
theorem dX3_readNumber_87 : decode cX3_readNumber 87 = .ok (.aload_n 0, 1) := by decide +kernel
theorem dX3_readNumber_88 : decode cX3_readNumber 88 = .ok (.aload_n 0, 1) := by decide +kernel
theorem dX3_readNumber_89 : decode cX3_readNumber 89 = .ok (.getfield 86, 3) := by decide +kernel
theorem dX3_readNumber_92 : decode cX3_readNumber 92 = .ok (.bipush 10, 2) := by decide +kernel
theorem dX3_readNumber_94 : decode cX3_readNumber 94 = .ok (.imul, 1) := by decide +kernel
theorem dX3_readNumber_95 : decode cX3_readNumber 95 = .ok (.aload_n 0, 1) := by decide +kernel
theorem dX3_readNumber_96 : decode cX3_readNumber 96 = .ok (.iload_n 1, 1) := by decide +kernel
theorem dX3_readNumber_97 : decode cX3_readNumber 97 = .ok (.invokevirtual 70, 3) := by decide +kernel
theorem dX3_readNumber_100 : decode cX3_readNumber 100 = .ok (.iadd, 1) := by decide +kernel
theorem dX3_readNumber_101 : decode cX3_readNumber 101 = .ok (.bipush 48, 2) := by decide +kernel
theorem dX3_readNumber_103 : decode cX3_readNumber 103 = .ok (.isub, 1) := by decide +kernel
theorem dX3_readNumber_104 : decode cX3_readNumber 104 = .ok (.putfield 86, 3) := by decide +kernel
theorem dX3_readNumber_107 : decode cX3_readNumber 107 = .ok (.iinc 1 1, 3) := by decide +kernel
theorem dX3_readNumber_110 : decode cX3_readNumber 110 = .ok (.goto (-31), 3) := by decide +kernel
theorem dX3_readNumber_113 : decode cX3_readNumber 113 = .ok (.return_, 1) := by decide +kernel
set_option maxRecDepth 20000 in
theorem ggX3_isNamed_J0_length_8abf5 : GoodIn wsX3_isNamed wsJ0_length_8abf5 := goodIn_r _ [8, 9, 10, 11, 12, 7, 13, 14, 15] (by decide +kernel) (by decide +kernel)
set_option maxRecDepth 20000 in
theorem gX3_isNamed_J0_length_8abf5 : GoodIn wsX3_isNamed (wsV RX3 89 RJ0 yJ0_length_8abf5 wsJ0_length_8abf5) := goodIn_app (goodIn_of _ (by decide +kernel)) ggX3_isNamed_J0_length_8abf5
set_option maxRecDepth 20000 in
theorem ggX3_isNamed_X3_letterAt : GoodIn wsX3_isNamed wsX3_letterAt := goodIn_r _ [20, 21, 22, 60, 61, 62, 63, 64, 65, 66, 67, 68, 69] (by decide +kernel) (by decide +kernel)
set_option maxRecDepth 20000 in
theorem gX3_isNamed_X3_letterAt : GoodIn wsX3_isNamed (wsV RX3 70 RX3 yX3_letterAt wsX3_letterAt) := goodIn_app (goodIn_of _ (by decide +kernel)) ggX3_isNamed_X3_letterAt
set_option maxRecDepth 20000 in
theorem ggX3_isNamed_J0_charAt_5068e : GoodIn wsX3_isNamed wsJ0_charAt_5068e := goodIn_r _ [26, 9, 27, 28, 29, 7, 30, 14, 15, 31, 32, 33, 34, 35, 36, 37, 38, 39, 40, 41, 42, 43, 44, 45, 46, 47, 48, 49, 50, 51, 52, 53, 54, 55, 56, 57, 58, 59] (by decide +kernel) (by decide +kernel)
set_option maxRecDepth 20000 in
theorem gX3_isNamed_J0_charAt_5068e : GoodIn wsX3_isNamed (wsV RX3 95 RJ0 yJ0_charAt_5068e wsJ0_charAt_5068e) := goodIn_app (goodIn_of _ (by decide +kernel)) ggX3_isNamed_J0_charAt_5068e
theorem dX3_isNamed_0 : decode cX3_isNamed 0 = .ok (.aload_n 0, 1) := by decide +kernel
theorem dX3_isNamed_1 : decode cX3_isNamed 1 = .ok (.getfield 44, 3) := by decide +kernel
theorem dX3_isNamed_4 : decode cX3_isNamed 4 = .ok (.iconst 1, 1) := by decide +kernel
theorem dX3_isNamed_5 : decode cX3_isNamed 5 = .ok (.if_icmp .ne 19, 3) := by decide +kernel
theorem dX3_isNamed_8 : decode cX3_isNamed 8 = .ok (.aload_n 0, 1) := by decide +kernel
theorem dX3_isNamed_9 : decode cX3_isNamed 9 = .ok (.getfield 29, 3) := by decide +kernel
theorem dX3_isNamed_12 : decode cX3_isNamed 12 = .ok (.aload_n 0, 1) := by decide +kernel
theorem dX3_isNamed_13 : decode cX3_isNamed 13 = .ok (.getfield 73, 3) := by decide +kernel
theorem dX3_isNamed_16 : decode cX3_isNamed 16 = .ok (.isub, 1) := by decide +kernel
theorem dX3_isNamed_17 : decode cX3_isNamed 17 = .ok (.aload_n 1, 1) := by decide +kernel
theorem dX3_isNamed_18 : decode cX3_isNamed 18 = .ok (.invokevirtual 89, 3) := by decide +kernel
theorem dX3_isNamed_21 : decode cX3_isNamed 21 = .ok (.if_icmp .eq 5, 3) := by decide +kernel
theorem dX3_isNamed_24 : decode cX3_isNamed 24 = .ok (.iconst 0, 1) := by decide +kernel
theorem dX3_isNamed_25 : decode cX3_isNamed 25 = .ok (.ireturn, 1) := by decide +kernel
theorem dX3_isNamed_26 : decode cX3_isNamed 26 = .ok (.iconst 0, 1) := by decide +kernel
theorem dX3_isNamed_27 : decode cX3_isNamed 27 = .ok (.istore_n 2, 1) := by decide +kernel
theorem dX3_isNamed_28 : decode cX3_isNamed 28 = .ok (.iload_n 2, 1) := by decide +kernel
theorem dX3_isNamed_29 : decode cX3_isNamed 29 = .ok (.aload_n 1, 1) := by decide +kernel
theorem dX3_isNamed_30 : decode cX3_isNamed 30 = .ok (.invokevirtual 89, 3) := by decide +kernel
theorem dX3_isNamed_33 : decode cX3_isNamed 33 = .ok (.if_icmp .ge 29, 3) := by decide +kernel
theorem dX3_isNamed_36 : decode cX3_isNamed 36 = .ok (.aload_n 0, 1) := by decide +kernel
theorem dX3_isNamed_37 : decode cX3_isNamed 37 = .ok (.aload_n 0, 1) := by decide +kernel
theorem dX3_isNamed_38 : decode cX3_isNamed 38 = .ok (.getfield 73, 3) := by decide +kernel
theorem dX3_isNamed_41 : decode cX3_isNamed 41 = .ok (.iload_n 2, 1) := by decide +kernel
theorem dX3_isNamed_42 : decode cX3_isNamed 42 = .ok (.iadd, 1) := by decide +kernel
theorem dX3_isNamed_43 : decode cX3_isNamed 43 = .ok (.invokevirtual 70, 3) := by decide +kernel
theorem dX3_isNamed_46 : decode cX3_isNamed 46 = .ok (.aload_n 1, 1) := by decide +kernel
theorem dX3_isNamed_47 : decode cX3_isNamed 47 = .ok (.iload_n 2, 1) := by decide +kernel
theorem dX3_isNamed_48 : decode cX3_isNamed 48 = .ok (.invokevirtual 95, 3) := by decide +kernel
theorem dX3_isNamed_51 : decode cX3_isNamed 51 = .ok (.if_icmp .eq 5, 3) := by decide +kernel
theorem dX3_isNamed_54 : decode cX3_isNamed 54 = .ok (.iconst 0, 1) := by decide +kernel
theorem dX3_isNamed_55 : decode cX3_isNamed 55 = .ok (.ireturn, 1) := by decide +kernel
theorem dX3_isNamed_56 : decode cX3_isNamed 56 = .ok (.iinc 2 1, 3) := by decide +kernel
theorem dX3_isNamed_59 : decode cX3_isNamed 59 = .ok (.goto (-31), 3) := by decide +kernel
theorem dX3_isNamed_62 : decode cX3_isNamed 62 = .ok (.iconst 1, 1) := by decide +kernel
theorem dX3_isNamed_63 : decode cX3_isNamed 63 = .ok (.ireturn, 1) := by decide +kernel
set_option maxRecDepth 20000 in
theorem ggX3_ruleNamed_X3_isNamed : GoodIn wsX3_ruleNamed wsX3_isNamed := goodIn_r _ [5, 6, 7, 8, 9, 10, 11, 12, 13, 14, 15, 16, 17, 18, 19, 20, 21, 22, 23, 4, 24, 25, 26, 27, 28, 29, 30, 31, 32, 33, 34, 35, 36, 37, 38, 39, 40, 41, 42, 43, 44, 45, 46, 47, 48, 49, 50, 51, 52, 53, 54, 55, 56, 57, 58, 59, 60, 61, 62, 63, 64, 65, 66, 67, 68, 69, 70, 71, 72, 73] (by decide +kernel) (by decide +kernel)
set_option maxRecDepth 20000 in
theorem gX3_ruleNamed_X3_isNamed : GoodIn wsX3_ruleNamed (wsV RX3 100 RX3 yX3_isNamed wsX3_isNamed) := goodIn_app (goodIn_of _ (by decide +kernel)) ggX3_ruleNamed_X3_isNamed
theorem dX3_ruleNamed_0 : decode cX3_ruleNamed 0 = .ok (.aload_n 0, 1) := by decide +kernel
theorem dX3_ruleNamed_1 : decode cX3_ruleNamed 1 = .ok (.ldc 99, 2) := by decide +kernel
theorem dX3_ruleNamed_3 : decode cX3_ruleNamed 3 = .ok (.invokevirtual 100, 3) := by decide +kernel
theorem dX3_ruleNamed_6 : decode cX3_ruleNamed 6 = .ok (.ifCond .eq 5, 3) := by decide +kernel
theorem dX3_ruleNamed_9 : decode cX3_ruleNamed 9 = .ok (.iconst 0, 1) := by decide +kernel
theorem dX3_ruleNamed_10 : decode cX3_ruleNamed 10 = .ok (.ireturn, 1) := by decide +kernel
theorem dX3_ruleNamed_11 : decode cX3_ruleNamed 11 = .ok (.aload_n 0, 1) := by decide +kernel
theorem dX3_ruleNamed_12 : decode cX3_ruleNamed 12 = .ok (.ldc 104, 2) := by decide +kernel
theorem dX3_ruleNamed_14 : decode cX3_ruleNamed 14 = .ok (.invokevirtual 100, 3) := by decide +kernel
theorem dX3_ruleNamed_17 : decode cX3_ruleNamed 17 = .ok (.ifCond .eq 5, 3) := by decide +kernel
theorem dX3_ruleNamed_20 : decode cX3_ruleNamed 20 = .ok (.iconst 1, 1) := by decide +kernel
theorem dX3_ruleNamed_21 : decode cX3_ruleNamed 21 = .ok (.ireturn, 1) := by decide +kernel
theorem dX3_ruleNamed_22 : decode cX3_ruleNamed 22 = .ok (.aload_n 0, 1) := by decide +kernel
theorem dX3_ruleNamed_23 : decode cX3_ruleNamed 23 = .ok (.ldc 106, 2) := by decide +kernel
theorem dX3_ruleNamed_25 : decode cX3_ruleNamed 25 = .ok (.invokevirtual 100, 3) := by decide +kernel
theorem dX3_ruleNamed_28 : decode cX3_ruleNamed 28 = .ok (.ifCond .eq 5, 3) := by decide +kernel
theorem dX3_ruleNamed_31 : decode cX3_ruleNamed 31 = .ok (.iconst 2, 1) := by decide +kernel
theorem dX3_ruleNamed_32 : decode cX3_ruleNamed 32 = .ok (.ireturn, 1) := by decide +kernel
theorem dX3_ruleNamed_33 : decode cX3_ruleNamed 33 = .ok (.aload_n 0, 1) := by decide +kernel
theorem dX3_ruleNamed_34 : decode cX3_ruleNamed 34 = .ok (.ldc 108, 2) := by decide +kernel
theorem dX3_ruleNamed_36 : decode cX3_ruleNamed 36 = .ok (.invokevirtual 100, 3) := by decide +kernel
theorem dX3_ruleNamed_39 : decode cX3_ruleNamed 39 = .ok (.ifCond .eq 5, 3) := by decide +kernel
theorem dX3_ruleNamed_42 : decode cX3_ruleNamed 42 = .ok (.iconst 3, 1) := by decide +kernel
theorem dX3_ruleNamed_43 : decode cX3_ruleNamed 43 = .ok (.ireturn, 1) := by decide +kernel
theorem dX3_ruleNamed_44 : decode cX3_ruleNamed 44 = .ok (.aload_n 0, 1) := by decide +kernel
theorem dX3_ruleNamed_45 : decode cX3_ruleNamed 45 = .ok (.ldc 110, 2) := by decide +kernel
theorem dX3_ruleNamed_47 : decode cX3_ruleNamed 47 = .ok (.invokevirtual 100, 3) := by decide +kernel
theorem dX3_ruleNamed_50 : decode cX3_ruleNamed 50 = .ok (.ifCond .eq 5, 3) := by decide +kernel
theorem dX3_ruleNamed_53 : decode cX3_ruleNamed 53 = .ok (.iconst 4, 1) := by decide +kernel
theorem dX3_ruleNamed_54 : decode cX3_ruleNamed 54 = .ok (.ireturn, 1) := by decide +kernel
theorem dX3_ruleNamed_55 : decode cX3_ruleNamed 55 = .ok (.aload_n 0, 1) := by decide +kernel
theorem dX3_ruleNamed_56 : decode cX3_ruleNamed 56 = .ok (.ldc 112, 2) := by decide +kernel
theorem dX3_ruleNamed_58 : decode cX3_ruleNamed 58 = .ok (.invokevirtual 100, 3) := by decide +kernel
theorem dX3_ruleNamed_61 : decode cX3_ruleNamed 61 = .ok (.ifCond .eq 5, 3) := by decide +kernel
theorem dX3_ruleNamed_64 : decode cX3_ruleNamed 64 = .ok (.iconst 5, 1) := by decide +kernel
theorem dX3_ruleNamed_65 : decode cX3_ruleNamed 65 = .ok (.ireturn, 1) := by decide +kernel
theorem dX3_ruleNamed_66 : decode cX3_ruleNamed 66 = .ok (.aload_n 0, 1) := by decide +kernel
theorem dX3_ruleNamed_67 : decode cX3_ruleNamed 67 = .ok (.ldc 114, 2) := by decide +kernel
theorem dX3_ruleNamed_69 : decode cX3_ruleNamed 69 = .ok (.invokevirtual 100, 3) := by decide +kernel
theorem dX3_ruleNamed_72 : decode cX3_ruleNamed 72 = .ok (.ifCond .eq 6, 3) := by decide +kernel
theorem dX3_ruleNamed_75 : decode cX3_ruleNamed 75 = .ok (.bipush 6, 2) := by decide +kernel
theorem dX3_ruleNamed_77 : decode cX3_ruleNamed 77 = .ok (.ireturn, 1) := by decide +kernel
theorem dX3_ruleNamed_78 : decode cX3_ruleNamed 78 = .ok (.aload_n 0, 1) := by decide +kernel
theorem dX3_ruleNamed_79 : decode cX3_ruleNamed 79 = .ok (.ldc 116, 2) := by decide +kernel
theorem dX3_ruleNamed_81 : decode cX3_ruleNamed 81 = .ok (.invokevirtual 100, 3) := by decide +kernel
theorem dX3_ruleNamed_84 : decode cX3_ruleNamed 84 = .ok (.ifCond .eq 6, 3) := by decide +kernel
theorem dX3_ruleNamed_87 : decode cX3_ruleNamed 87 = .ok (.bipush 7, 2) := by decide +kernel
theorem dX3_ruleNamed_89 : decode cX3_ruleNamed 89 = .ok (.ireturn, 1) := by decide +kernel
theorem dX3_ruleNamed_90 : decode cX3_ruleNamed 90 = .ok (.aload_n 0, 1) := by decide +kernel
theorem dX3_ruleNamed_91 : decode cX3_ruleNamed 91 = .ok (.ldc 118, 2) := by decide +kernel
theorem dX3_ruleNamed_93 : decode cX3_ruleNamed 93 = .ok (.invokevirtual 100, 3) := by decide +kernel
theorem dX3_ruleNamed_96 : decode cX3_ruleNamed 96 = .ok (.ifCond .eq 6, 3) := by decide +kernel
theorem dX3_ruleNamed_99 : decode cX3_ruleNamed 99 = .ok (.bipush 8, 2) := by decide +kernel
theorem dX3_ruleNamed_101 : decode cX3_ruleNamed 101 = .ok (.ireturn, 1) := by decide +kernel
theorem dX3_ruleNamed_102 : decode cX3_ruleNamed 102 = .ok (.bipush (-4), 2) := by decide +kernel
theorem dX3_ruleNamed_104 : decode cX3_ruleNamed 104 = .ok (.ireturn, 1) := by decide +kernel
set_option maxRecDepth 20000 in
theorem ggX3_takeLine_X3_ruleNamed : GoodIn wsX3_takeLine wsX3_ruleNamed := goodIn_r _ [7, 8, 9, 10, 6, 11, 12, 13, 1, 14, 15, 16, 17, 18, 19, 20, 21, 22, 23, 24, 25, 26, 27, 28, 29, 30, 31, 32, 33, 34, 35, 36, 37, 38, 39, 40, 41, 42, 43, 44, 45, 46, 47, 48, 49, 50, 51, 52, 53, 54, 55, 56, 57, 58, 59, 60, 61, 62, 63, 64, 65, 66, 67, 68, 152, 153, 154, 155, 156, 157, 158, 159, 160, 161] (by decide +kernel) (by decide +kernel)
set_option maxRecDepth 20000 in
theorem gX3_takeLine_X3_ruleNamed : GoodIn wsX3_takeLine (wsV RX3 120 RX3 yX3_ruleNamed wsX3_ruleNamed) := goodIn_app (goodIn_of _ (by decide +kernel)) ggX3_takeLine_X3_ruleNamed
set_option maxRecDepth 20000 in
theorem ggX3_takeLine_X3_takeRule : GoodIn wsX3_takeLine wsX3_takeRule := goodIn_r _ [72, 73, 1, 74, 75, 76, 77, 78, 79, 6, 80, 2, 81, 82, 83, 84, 85, 13, 30, 12, 26, 27, 28, 29, 31, 86, 87, 88, 89, 90, 91, 92, 93, 94, 95, 96, 97, 98, 99, 100, 101, 102, 103, 104, 105, 106, 152, 153, 154, 155, 156, 157, 158, 159, 160, 161, 162, 163, 164, 165, 166, 167, 168, 169, 170, 171, 172, 173, 174, 175] (by decide +kernel) (by decide +kernel)
set_option maxRecDepth 20000 in
theorem gX3_takeLine_X3_takeRule : GoodIn wsX3_takeLine (wsV RX3 123 RX3 yX3_takeRule wsX3_takeRule) := goodIn_app (goodIn_of _ (by decide +kernel)) ggX3_takeLine_X3_takeRule
set_option maxRecDepth 20000 in
theorem ggX3_takeLine_X3_isNamed : GoodIn wsX3_takeLine wsX3_isNamed := goodIn_r _ [11, 12, 13, 1, 14, 15, 16, 17, 18, 19, 20, 21, 22, 23, 24, 25, 26, 27, 28, 6, 29, 30, 31, 32, 33, 34, 35, 36, 37, 38, 39, 40, 41, 42, 43, 44, 45, 46, 47, 48, 49, 50, 51, 52, 53, 54, 55, 56, 57, 58, 59, 60, 61, 62, 63, 64, 65, 66, 67, 68, 152, 153, 154, 155, 156, 157, 158, 159, 160, 161] (by decide +kernel) (by decide +kernel)
set_option maxRecDepth 20000 in
theorem gX3_takeLine_X3_isNamed : GoodIn wsX3_takeLine (wsV RX3 100 RX3 yX3_isNamed wsX3_isNamed) := goodIn_app (goodIn_of _ (by decide +kernel)) ggX3_takeLine_X3_isNamed
set_option maxRecDepth 20000 in
theorem ggX3_takeLine_X3_takeBlock : GoodIn wsX3_takeLine wsX3_takeBlock := goodIn_r _ [110, 74, 111, 12, 1, 76, 112, 113, 114, 115, 6, 116, 77, 78, 79, 80, 2, 81, 82, 83, 84, 85, 13, 30, 26, 27, 28, 29, 31, 86, 87, 88, 89, 90, 91, 92, 93, 94, 95, 99, 100, 101, 102, 103, 97, 104, 117, 118, 119, 120, 121, 122, 123, 105, 106, 124, 125, 126, 127, 128, 129, 130, 131, 96, 98, 132, 133, 134, 135, 136, 137, 138, 139, 140, 141, 142, 143, 152, 153, 154, 155, 156, 157, 158, 159, 160, 161, 162, 163, 164, 165, 166, 167, 168, 169, 170, 171, 172, 173, 174, 175] (by decide +kernel) (by decide +kernel)
set_option maxRecDepth 20000 in
theorem gX3_takeLine_X3_takeBlock : GoodIn wsX3_takeLine (wsV RX3 129 RX3 yX3_takeBlock wsX3_takeBlock) := goodIn_app (goodIn_of _ (by decide +kernel)) ggX3_takeLine_X3_takeBlock
set_option maxRecDepth 20000 in
theorem ggX3_takeLine_X3_takeMark : GoodIn wsX3_takeLine wsX3_takeMark := goodIn_r _ [147, 74, 112, 113, 114, 115, 6, 116, 1, 77, 78, 79, 80, 2, 81, 124, 125, 126, 120, 127, 128, 129, 130, 122, 131, 105, 97, 106, 96, 98, 132, 133, 134, 135, 136, 137, 138, 139, 140, 141, 142, 143, 82, 83, 84, 85, 13, 30, 12, 26, 27, 28, 29, 31, 86, 87, 88, 89, 90, 91, 92, 93, 94, 95, 76, 152, 153, 154, 155, 156, 157, 158, 159, 160, 161, 162, 163, 164, 165, 166, 167, 168, 169, 170, 171, 172, 173, 174, 175] (by decide +kernel) (by decide +kernel)
set_option maxRecDepth 20000 in
theorem gX3_takeLine_X3_takeMark : GoodIn wsX3_takeLine (wsV RX3 134 RX3 yX3_takeMark wsX3_takeMark) := goodIn_app (goodIn_of _ (by decide +kernel)) ggX3_takeLine_X3_takeMark
set_option maxRecDepth 20000 in
theorem ggX3_takeLine_X3_refuse : GoodIn wsX3_takeLine wsX3_refuse := goodIn_r _ [80, 2, 81, 152, 153, 154, 155, 156, 157, 158, 159, 160, 161] (by decide +kernel) (by decide +kernel)
set_option maxRecDepth 20000 in
theorem gX3_takeLine_X3_refuse : GoodIn wsX3_takeLine (wsV RX3 66 RX3 yX3_refuse wsX3_refuse) := goodIn_app (goodIn_of _ (by decide +kernel)) ggX3_takeLine_X3_refuse
set_option maxRecDepth 20000 in
theorem ggX3_takeLine_X3_takeSign : GoodIn wsX3_takeLine wsX3_takeSign := goodIn_r _ [151, 12, 1, 82, 83, 84, 6, 85, 13, 30, 26, 27, 28, 29, 31, 86, 87, 88, 89, 90, 91, 92, 93, 94, 95, 76, 77, 78, 79, 80, 2, 81, 152, 153, 154, 155, 156, 157, 158, 159, 160, 161] (by decide +kernel) (by decide +kernel)
set_option maxRecDepth 20000 in
theorem gX3_takeLine_X3_takeSign : GoodIn wsX3_takeLine (wsV RX3 137 RX3 yX3_takeSign wsX3_takeSign) := goodIn_app (goodIn_of _ (by decide +kernel)) ggX3_takeLine_X3_takeSign
theorem dX3_takeLine_0 : decode cX3_takeLine 0 = .ok (.aload_n 0, 1) := by decide +kernel
theorem dX3_takeLine_1 : decode cX3_takeLine 1 = .ok (.invokevirtual 120, 3) := by decide +kernel
theorem dX3_takeLine_4 : decode cX3_takeLine 4 = .ok (.istore_n 1, 1) := by decide +kernel
theorem dX3_takeLine_5 : decode cX3_takeLine 5 = .ok (.iload_n 1, 1) := by decide +kernel
theorem dX3_takeLine_6 : decode cX3_takeLine 6 = .ok (.bipush (-4), 2) := by decide +kernel
theorem dX3_takeLine_8 : decode cX3_takeLine 8 = .ok (.if_icmp .eq 11, 3) := by decide +kernel
theorem dX3_takeLine_11 : decode cX3_takeLine 11 = .ok (.aload_n 0, 1) := by decide +kernel
theorem dX3_takeLine_12 : decode cX3_takeLine 12 = .ok (.iload_n 1, 1) := by decide +kernel
theorem dX3_takeLine_13 : decode cX3_takeLine 13 = .ok (.invokevirtual 123, 3) := by decide +kernel
theorem dX3_takeLine_16 : decode cX3_takeLine 16 = .ok (.goto 44, 3) := by decide +kernel
theorem dX3_takeLine_19 : decode cX3_takeLine 19 = .ok (.aload_n 0, 1) := by decide +kernel
theorem dX3_takeLine_20 : decode cX3_takeLine 20 = .ok (.ldc 127, 2) := by decide +kernel
theorem dX3_takeLine_22 : decode cX3_takeLine 22 = .ok (.invokevirtual 100, 3) := by decide +kernel
theorem dX3_takeLine_25 : decode cX3_takeLine 25 = .ok (.ifCond .eq 10, 3) := by decide +kernel
theorem dX3_takeLine_28 : decode cX3_takeLine 28 = .ok (.aload_n 0, 1) := by decide +kernel
theorem dX3_takeLine_29 : decode cX3_takeLine 29 = .ok (.invokevirtual 129, 3) := by decide +kernel
theorem dX3_takeLine_32 : decode cX3_takeLine 32 = .ok (.goto 28, 3) := by decide +kernel
theorem dX3_takeLine_35 : decode cX3_takeLine 35 = .ok (.aload_n 0, 1) := by decide +kernel
theorem dX3_takeLine_36 : decode cX3_takeLine 36 = .ok (.ldc 132, 2) := by decide +kernel
theorem dX3_takeLine_38 : decode cX3_takeLine 38 = .ok (.invokevirtual 100, 3) := by decide +kernel
theorem dX3_takeLine_41 : decode cX3_takeLine 41 = .ok (.ifCond .eq 10, 3) := by decide +kernel
theorem dX3_takeLine_44 : decode cX3_takeLine 44 = .ok (.aload_n 0, 1) := by decide +kernel
theorem dX3_takeLine_45 : decode cX3_takeLine 45 = .ok (.invokevirtual 134, 3) := by decide +kernel
theorem dX3_takeLine_48 : decode cX3_takeLine 48 = .ok (.goto 12, 3) := by decide +kernel
theorem dX3_takeLine_51 : decode cX3_takeLine 51 = .ok (.aload_n 0, 1) := by decide +kernel
theorem dX3_takeLine_52 : decode cX3_takeLine 52 = .ok (.iconst 2, 1) := by decide +kernel
theorem dX3_takeLine_53 : decode cX3_takeLine 53 = .ok (.aload_n 0, 1) := by decide +kernel
theorem dX3_takeLine_54 : decode cX3_takeLine 54 = .ok (.getfield 73, 3) := by decide +kernel
theorem dX3_takeLine_57 : decode cX3_takeLine 57 = .ok (.invokevirtual 66, 3) := by decide +kernel
theorem dX3_takeLine_60 : decode cX3_takeLine 60 = .ok (.aload_n 0, 1) := by decide +kernel
theorem dX3_takeLine_61 : decode cX3_takeLine 61 = .ok (.getfield 35, 3) := by decide +kernel
theorem dX3_takeLine_64 : decode cX3_takeLine 64 = .ok (.ifCond .ne 7, 3) := by decide +kernel
theorem dX3_takeLine_67 : decode cX3_takeLine 67 = .ok (.aload_n 0, 1) := by decide +kernel
theorem dX3_takeLine_68 : decode cX3_takeLine 68 = .ok (.invokevirtual 137, 3) := by decide +kernel
theorem dX3_takeLine_71 : decode cX3_takeLine 71 = .ok (.return_, 1) := by decide +kernel
set_option maxRecDepth 20000 in
theorem ggX3_takeRule_X3_refuse : GoodIn wsX3_takeRule wsX3_refuse := goodIn_r _ [10, 11, 12, 46, 47, 48, 49, 50, 51, 52, 53, 54, 55] (by decide +kernel) (by decide +kernel)
set_option maxRecDepth 20000 in
theorem gX3_takeRule_X3_refuse : GoodIn wsX3_takeRule (wsV RX3 66 RX3 yX3_refuse wsX3_refuse) := goodIn_app (goodIn_of _ (by decide +kernel)) ggX3_takeRule_X3_refuse
set_option maxRecDepth 20000 in
theorem ggX3_takeRule_X3_readToken : GoodIn wsX3_takeRule wsX3_readToken := goodIn_r _ [16, 17, 18, 2, 19, 20, 21, 22, 9, 23, 24, 25, 26, 27, 28, 29, 30, 31, 32, 33, 34, 5, 6, 7, 8, 10, 11, 12, 46, 47, 48, 49, 50, 51, 52, 53, 54, 55] (by decide +kernel) (by decide +kernel)
set_option maxRecDepth 20000 in
theorem gX3_takeRule_X3_readToken : GoodIn wsX3_takeRule (wsV RX3 41 RX3 yX3_readToken wsX3_readToken) := goodIn_app (goodIn_of _ (by decide +kernel)) ggX3_takeRule_X3_readToken
set_option maxRecDepth 20000 in
theorem ggX3_takeRule_X4_cell : GoodIn wsX3_takeRule wsX4_cell := goodIn_r _ [37] (by decide +kernel) (by decide +kernel)
set_option maxRecDepth 20000 in
theorem gX3_takeRule_X4_cell_n144 : GoodIn wsX3_takeRule (wsX4_cell) := ggX3_takeRule_X4_cell
set_option maxRecDepth 20000 in
theorem ggX3_takeRule_X3_isNumberWithin : GoodIn wsX3_takeRule wsX3_isNumberWithin := goodIn_r _ [41, 19, 2, 5, 11, 6, 7, 8, 9, 10, 12, 42, 36, 43, 46, 47, 48, 49, 50, 51, 52, 53, 54, 55] (by decide +kernel) (by decide +kernel)
set_option maxRecDepth 20000 in
theorem gX3_takeRule_X3_isNumberWithin : GoodIn wsX3_takeRule (wsV RX3 151 RX3 yX3_isNumberWithin wsX3_isNumberWithin) := goodIn_app (goodIn_of _ (by decide +kernel)) ggX3_takeRule_X3_isNumberWithin
set_option maxRecDepth 20000 in
theorem ggX3_takeRule_X4_setCell : GoodIn wsX3_takeRule wsX4_setCell := goodIn_r _ [45] (by decide +kernel) (by decide +kernel)
set_option maxRecDepth 20000 in
theorem gX3_takeRule_X4_setCell_n158 : GoodIn wsX3_takeRule (wsX4_setCell) := ggX3_takeRule_X4_setCell
theorem dX3_takeRule_0 : decode cX3_takeRule 0 = .ok (.aload_n 0, 1) := by decide +kernel
theorem dX3_takeRule_1 : decode cX3_takeRule 1 = .ok (.getfield 32, 3) := by decide +kernel
theorem dX3_takeRule_4 : decode cX3_takeRule 4 = .ok (.iload_n 1, 1) := by decide +kernel
theorem dX3_takeRule_5 : decode cX3_takeRule 5 = .ok (.ishr, 1) := by decide +kernel
theorem dX3_takeRule_6 : decode cX3_takeRule 6 = .ok (.iconst 1, 1) := by decide +kernel
theorem dX3_takeRule_7 : decode cX3_takeRule 7 = .ok (.iand, 1) := by decide +kernel
theorem dX3_takeRule_8 : decode cX3_takeRule 8 = .ok (.iconst 1, 1) := by decide +kernel
theorem dX3_takeRule_9 : decode cX3_takeRule 9 = .ok (.if_icmp .ne 13, 3) := by decide +kernel
theorem dX3_takeRule_12 : decode cX3_takeRule 12 = .ok (.aload_n 0, 1) := by decide +kernel
theorem dX3_takeRule_13 : decode cX3_takeRule 13 = .ok (.iconst 4, 1) := by decide +kernel
theorem dX3_takeRule_14 : decode cX3_takeRule 14 = .ok (.aload_n 0, 1) := by decide +kernel
theorem dX3_takeRule_15 : decode cX3_takeRule 15 = .ok (.getfield 73, 3) := by decide +kernel
theorem dX3_takeRule_18 : decode cX3_takeRule 18 = .ok (.invokevirtual 66, 3) := by decide +kernel
theorem dX3_takeRule_21 : decode cX3_takeRule 21 = .ok (.return_, 1) := by decide +kernel
theorem dX3_takeRule_22 : decode cX3_takeRule 22 = .ok (.aload_n 0, 1) := by decide +kernel
theorem dX3_takeRule_23 : decode cX3_takeRule 23 = .ok (.dup, 1) := by decide +kernel
theorem dX3_takeRule_24 : decode cX3_takeRule 24 = .ok (.getfield 32, 3) := by decide +kernel
theorem dX3_takeRule_27 : decode cX3_takeRule 27 = .ok (.iconst 1, 1) := by decide +kernel
theorem dX3_takeRule_28 : decode cX3_takeRule 28 = .ok (.iload_n 1, 1) := by decide +kernel
theorem dX3_takeRule_29 : decode cX3_takeRule 29 = .ok (.ishl, 1) := by decide +kernel
theorem dX3_takeRule_30 : decode cX3_takeRule 30 = .ok (.ior, 1) := by decide +kernel
theorem dX3_takeRule_31 : decode cX3_takeRule 31 = .ok (.putfield 32, 3) := by decide +kernel
theorem dX3_takeRule_34 : decode cX3_takeRule 34 = .ok (.aload_n 0, 1) := by decide +kernel
theorem dX3_takeRule_35 : decode cX3_takeRule 35 = .ok (.invokevirtual 41, 3) := by decide +kernel
theorem dX3_takeRule_38 : decode cX3_takeRule 38 = .ok (.aload_n 0, 1) := by decide +kernel
theorem dX3_takeRule_39 : decode cX3_takeRule 39 = .ok (.getstatic 140, 3) := by decide +kernel
theorem dX3_takeRule_42 : decode cX3_takeRule 42 = .ok (.iload_n 1, 1) := by decide +kernel
theorem dX3_takeRule_43 : decode cX3_takeRule 43 = .ok (.invokestatic 144, 3) := by decide +kernel
theorem dX3_takeRule_46 : decode cX3_takeRule 46 = .ok (.getstatic 148, 3) := by decide +kernel
theorem dX3_takeRule_49 : decode cX3_takeRule 49 = .ok (.iload_n 1, 1) := by decide +kernel
theorem dX3_takeRule_50 : decode cX3_takeRule 50 = .ok (.invokestatic 144, 3) := by decide +kernel
theorem dX3_takeRule_53 : decode cX3_takeRule 53 = .ok (.invokevirtual 151, 3) := by decide +kernel
theorem dX3_takeRule_56 : decode cX3_takeRule 56 = .ok (.ifCond .ne 4, 3) := by decide +kernel
theorem dX3_takeRule_59 : decode cX3_takeRule 59 = .ok (.return_, 1) := by decide +kernel
theorem dX3_takeRule_60 : decode cX3_takeRule 60 = .ok (.aload_n 0, 1) := by decide +kernel
theorem dX3_takeRule_61 : decode cX3_takeRule 61 = .ok (.getfield 18, 3) := by decide +kernel
theorem dX3_takeRule_64 : decode cX3_takeRule 64 = .ok (.getfield 155, 3) := by decide +kernel
theorem dX3_takeRule_67 : decode cX3_takeRule 67 = .ok (.iload_n 1, 1) := by decide +kernel
theorem dX3_takeRule_68 : decode cX3_takeRule 68 = .ok (.aload_n 0, 1) := by decide +kernel
theorem dX3_takeRule_69 : decode cX3_takeRule 69 = .ok (.getfield 86, 3) := by decide +kernel
theorem dX3_takeRule_72 : decode cX3_takeRule 72 = .ok (.invokestatic 158, 3) := by decide +kernel
theorem dX3_takeRule_75 : decode cX3_takeRule 75 = .ok (.aload_n 0, 1) := by decide +kernel
theorem dX3_takeRule_76 : decode cX3_takeRule 76 = .ok (.invokevirtual 41, 3) := by decide +kernel
theorem dX3_takeRule_79 : decode cX3_takeRule 79 = .ok (.return_, 1) := by decide +kernel
set_option maxRecDepth 20000 in
theorem ggX3_takeBlock_X3_hasRoomForBlock : GoodIn wsX3_takeBlock wsX3_hasRoomForBlock := goodIn_r _ [11, 1, 6, 4, 12, 13, 14, 10, 15, 16, 17, 77, 78, 79, 80, 81, 82, 83, 84, 85, 86, 87, 88, 89, 90, 91, 92, 93, 94, 95, 96, 97, 98, 99, 100] (by decide +kernel) (by decide +kernel)
set_option maxRecDepth 20000 in
theorem gX3_takeBlock_X3_hasRoomForBlock : GoodIn wsX3_takeBlock (wsV RX3 162 RX3 yX3_hasRoomForBlock wsX3_hasRoomForBlock) := goodIn_app (goodIn_of _ (by decide +kernel)) ggX3_takeBlock_X3_hasRoomForBlock
set_option maxRecDepth 20000 in
theorem ggX3_takeBlock_X3_readToken : GoodIn wsX3_takeBlock wsX3_readToken := goodIn_r _ [21, 22, 23, 4, 3, 24, 25, 26, 10, 27, 28, 29, 30, 31, 32, 33, 34, 35, 36, 37, 38, 5, 12, 13, 14, 15, 16, 17, 77, 78, 79, 80, 81, 82, 83, 84, 85, 86] (by decide +kernel) (by decide +kernel)
set_option maxRecDepth 20000 in
theorem gX3_takeBlock_X3_readToken : GoodIn wsX3_takeBlock (wsV RX3 41 RX3 yX3_readToken wsX3_readToken) := goodIn_app (goodIn_of _ (by decide +kernel)) ggX3_takeBlock_X3_readToken
set_option maxRecDepth 20000 in
theorem ggX3_takeBlock_X3_isNumberWithin : GoodIn wsX3_takeBlock wsX3_isNumberWithin := goodIn_r _ [42, 3, 4, 5, 16, 12, 13, 14, 10, 15, 17, 43, 44, 45, 77, 78, 79, 80, 81, 82, 83, 84, 85, 86] (by decide +kernel) (by decide +kernel)
set_option maxRecDepth 20000 in
theorem gX3_takeBlock_X3_isNumberWithin : GoodIn wsX3_takeBlock (wsV RX3 151 RX3 yX3_isNumberWithin wsX3_isNumberWithin) := goodIn_app (goodIn_of _ (by decide +kernel)) ggX3_takeBlock_X3_isNumberWithin
set_option maxRecDepth 20000 in
theorem ggX3_takeBlock_X3_refuse : GoodIn wsX3_takeBlock wsX3_refuse := goodIn_r _ [15, 16, 17, 77, 78, 79, 80, 81, 82, 83, 84, 85, 86] (by decide +kernel) (by decide +kernel)
set_option maxRecDepth 20000 in
theorem gX3_takeBlock_X3_refuse : GoodIn wsX3_takeBlock (wsV RX3 66 RX3 yX3_refuse wsX3_refuse) := goodIn_app (goodIn_of _ (by decide +kernel)) ggX3_takeBlock_X3_refuse
set_option maxRecDepth 20000 in
theorem ggX3_takeBlock_X2_typeOne : GoodIn wsX3_takeBlock wsX2_typeOne := goodIn_r _ [50, 51, 52, 53, 44, 54, 87, 88, 89, 90, 91, 92, 93, 94, 95, 96, 97, 98, 99, 100] (by decide +kernel) (by decide +kernel)
set_option maxRecDepth 20000 in
theorem gX3_takeBlock_X2_typeOne : GoodIn wsX3_takeBlock (wsV RX3 166 RX2 yX2_typeOne wsX2_typeOne) := goodIn_app (goodIn_of _ (by decide +kernel)) ggX3_takeBlock_X2_typeOne
set_option maxRecDepth 20000 in
theorem ggX3_takeBlock_X2_putBlock : GoodIn wsX3_takeBlock wsX2_putBlock := goodIn_r _ [58, 59, 60, 61, 51, 62, 53, 44, 54, 63, 64, 65, 66, 67, 68, 69, 70, 71, 72, 73, 74, 49, 75, 76, 87, 88, 89, 90, 91, 92, 93, 94, 95, 96, 97, 98, 99, 100] (by decide +kernel) (by decide +kernel)
set_option maxRecDepth 20000 in
theorem gX3_takeBlock_X2_putBlock : GoodIn wsX3_takeBlock (wsV RX3 169 RX2 yX2_putBlock wsX2_putBlock) := goodIn_app (goodIn_of _ (by decide +kernel)) ggX3_takeBlock_X2_putBlock
theorem dX3_takeBlock_0 : decode cX3_takeBlock 0 = .ok (.aload_n 0, 1) := by decide +kernel
theorem dX3_takeBlock_1 : decode cX3_takeBlock 1 = .ok (.invokevirtual 162, 3) := by decide +kernel
theorem dX3_takeBlock_4 : decode cX3_takeBlock 4 = .ok (.ifCond .ne 4, 3) := by decide +kernel
theorem dX3_takeBlock_7 : decode cX3_takeBlock 7 = .ok (.return_, 1) := by decide +kernel
theorem dX3_takeBlock_8 : decode cX3_takeBlock 8 = .ok (.aload_n 0, 1) := by decide +kernel
theorem dX3_takeBlock_9 : decode cX3_takeBlock 9 = .ok (.getfield 18, 3) := by decide +kernel
theorem dX3_takeBlock_12 : decode cX3_takeBlock 12 = .ok (.iconst 0, 1) := by decide +kernel
theorem dX3_takeBlock_13 : decode cX3_takeBlock 13 = .ok (.putfield 53, 3) := by decide +kernel
theorem dX3_takeBlock_16 : decode cX3_takeBlock 16 = .ok (.aload_n 0, 1) := by decide +kernel
theorem dX3_takeBlock_17 : decode cX3_takeBlock 17 = .ok (.invokevirtual 41, 3) := by decide +kernel
theorem dX3_takeBlock_20 : decode cX3_takeBlock 20 = .ok (.iconst 0, 1) := by decide +kernel
theorem dX3_takeBlock_21 : decode cX3_takeBlock 21 = .ok (.istore_n 1, 1) := by decide +kernel
theorem dX3_takeBlock_22 : decode cX3_takeBlock 22 = .ok (.iload_n 1, 1) := by decide +kernel
theorem dX3_takeBlock_23 : decode cX3_takeBlock 23 = .ok (.bipush 12, 2) := by decide +kernel
theorem dX3_takeBlock_25 : decode cX3_takeBlock 25 = .ok (.if_icmp .gt 67, 3) := by decide +kernel
theorem dX3_takeBlock_28 : decode cX3_takeBlock 28 = .ok (.iload_n 1, 1) := by decide +kernel
theorem dX3_takeBlock_29 : decode cX3_takeBlock 29 = .ok (.ifCond .eq 11, 3) := by decide +kernel
theorem dX3_takeBlock_32 : decode cX3_takeBlock 32 = .ok (.aload_n 0, 1) := by decide +kernel
theorem dX3_takeBlock_33 : decode cX3_takeBlock 33 = .ok (.getfield 44, 3) := by decide +kernel
theorem dX3_takeBlock_36 : decode cX3_takeBlock 36 = .ok (.iconst 2, 1) := by decide +kernel
theorem dX3_takeBlock_37 : decode cX3_takeBlock 37 = .ok (.if_icmp .ne 55, 3) := by decide +kernel
theorem dX3_takeBlock_40 : decode cX3_takeBlock 40 = .ok (.aload_n 0, 1) := by decide +kernel
theorem dX3_takeBlock_41 : decode cX3_takeBlock 41 = .ok (.iconst 0, 1) := by decide +kernel
theorem dX3_takeBlock_42 : decode cX3_takeBlock 42 = .ok (.sipush 255, 3) := by decide +kernel
theorem dX3_takeBlock_45 : decode cX3_takeBlock 45 = .ok (.invokevirtual 151, 3) := by decide +kernel
theorem dX3_takeBlock_48 : decode cX3_takeBlock 48 = .ok (.ifCond .ne 4, 3) := by decide +kernel
theorem dX3_takeBlock_51 : decode cX3_takeBlock 51 = .ok (.return_, 1) := by decide +kernel
theorem dX3_takeBlock_52 : decode cX3_takeBlock 52 = .ok (.iload_n 1, 1) := by decide +kernel
theorem dX3_takeBlock_53 : decode cX3_takeBlock 53 = .ok (.bipush 12, 2) := by decide +kernel
theorem dX3_takeBlock_55 : decode cX3_takeBlock 55 = .ok (.if_icmp .ne 15, 3) := by decide +kernel
theorem dX3_takeBlock_58 : decode cX3_takeBlock 58 = .ok (.aload_n 0, 1) := by decide +kernel
theorem dX3_takeBlock_59 : decode cX3_takeBlock 59 = .ok (.iconst 5, 1) := by decide +kernel
theorem dX3_takeBlock_60 : decode cX3_takeBlock 60 = .ok (.aload_n 0, 1) := by decide +kernel
theorem dX3_takeBlock_61 : decode cX3_takeBlock 61 = .ok (.getfield 73, 3) := by decide +kernel
theorem dX3_takeBlock_64 : decode cX3_takeBlock 64 = .ok (.invokevirtual 66, 3) := by decide +kernel
theorem dX3_takeBlock_67 : decode cX3_takeBlock 67 = .ok (.goto 15, 3) := by decide +kernel
theorem dX3_takeBlock_70 : decode cX3_takeBlock 70 = .ok (.aload_n 0, 1) := by decide +kernel
theorem dX3_takeBlock_71 : decode cX3_takeBlock 71 = .ok (.getfield 18, 3) := by decide +kernel
theorem dX3_takeBlock_74 : decode cX3_takeBlock 74 = .ok (.aload_n 0, 1) := by decide +kernel
theorem dX3_takeBlock_75 : decode cX3_takeBlock 75 = .ok (.getfield 86, 3) := by decide +kernel
theorem dX3_takeBlock_78 : decode cX3_takeBlock 78 = .ok (.invokevirtual 166, 3) := by decide +kernel
theorem dX3_takeBlock_81 : decode cX3_takeBlock 81 = .ok (.pop, 1) := by decide +kernel
theorem dX3_takeBlock_82 : decode cX3_takeBlock 82 = .ok (.aload_n 0, 1) := by decide +kernel
theorem dX3_takeBlock_83 : decode cX3_takeBlock 83 = .ok (.invokevirtual 41, 3) := by decide +kernel
theorem dX3_takeBlock_86 : decode cX3_takeBlock 86 = .ok (.iinc 1 1, 3) := by decide +kernel
theorem dX3_takeBlock_89 : decode cX3_takeBlock 89 = .ok (.goto (-67), 3) := by decide +kernel
theorem dX3_takeBlock_92 : decode cX3_takeBlock 92 = .ok (.aload_n 0, 1) := by decide +kernel
theorem dX3_takeBlock_93 : decode cX3_takeBlock 93 = .ok (.getfield 18, 3) := by decide +kernel
theorem dX3_takeBlock_96 : decode cX3_takeBlock 96 = .ok (.aload_n 0, 1) := by decide +kernel
theorem dX3_takeBlock_97 : decode cX3_takeBlock 97 = .ok (.getfield 18, 3) := by decide +kernel
theorem dX3_takeBlock_100 : decode cX3_takeBlock 100 = .ok (.getfield 56, 3) := by decide +kernel
theorem dX3_takeBlock_103 : decode cX3_takeBlock 103 = .ok (.iconst 0, 1) := by decide +kernel
theorem dX3_takeBlock_104 : decode cX3_takeBlock 104 = .ok (.aload_n 0, 1) := by decide +kernel
theorem dX3_takeBlock_105 : decode cX3_takeBlock 105 = .ok (.getfield 18, 3) := by decide +kernel
theorem dX3_takeBlock_108 : decode cX3_takeBlock 108 = .ok (.getfield 53, 3) := by decide +kernel
theorem dX3_takeBlock_111 : decode cX3_takeBlock 111 = .ok (.invokevirtual 169, 3) := by decide +kernel
theorem dX3_takeBlock_114 : decode cX3_takeBlock 114 = .ok (.return_, 1) := by decide +kernel
set_option maxRecDepth 20000 in
theorem ggX3_takeMark_X3_hasRoomForBlock : GoodIn wsX3_takeMark wsX3_hasRoomForBlock := goodIn_r _ [7, 1, 2, 8, 9, 10, 11, 6, 12, 13, 14, 65, 66, 67, 68, 69, 70, 71, 72, 73, 74, 75, 76, 77, 78, 79, 80, 81, 82, 83, 84, 85, 86, 87, 88] (by decide +kernel) (by decide +kernel)
set_option maxRecDepth 20000 in
theorem gX3_takeMark_X3_hasRoomForBlock : GoodIn wsX3_takeMark (wsV RX3 162 RX3 yX3_hasRoomForBlock wsX3_hasRoomForBlock) := goodIn_app (goodIn_of _ (by decide +kernel)) ggX3_takeMark_X3_hasRoomForBlock
set_option maxRecDepth 20000 in
theorem ggX3_takeMark_X2_putBlock : GoodIn wsX3_takeMark wsX2_putBlock := goodIn_r _ [19, 20, 21, 22, 23, 24, 25, 26, 27, 28, 29, 30, 31, 32, 33, 34, 35, 36, 37, 38, 39, 18, 40, 41, 75, 76, 77, 78, 79, 80, 81, 82, 83, 84, 85, 86, 87, 88] (by decide +kernel) (by decide +kernel)
set_option maxRecDepth 20000 in
theorem gX3_takeMark_X2_putBlock : GoodIn wsX3_takeMark (wsV RX3 169 RX2 yX2_putBlock wsX2_putBlock) := goodIn_app (goodIn_of _ (by decide +kernel)) ggX3_takeMark_X2_putBlock
set_option maxRecDepth 20000 in
theorem ggX3_takeMark_X3_readToken : GoodIn wsX3_takeMark wsX3_readToken := goodIn_r _ [45, 46, 47, 8, 48, 49, 50, 51, 6, 52, 53, 54, 55, 56, 57, 58, 59, 60, 61, 62, 63, 64, 9, 10, 11, 12, 13, 14, 65, 66, 67, 68, 69, 70, 71, 72, 73, 74] (by decide +kernel) (by decide +kernel)
set_option maxRecDepth 20000 in
theorem gX3_takeMark_X3_readToken : GoodIn wsX3_takeMark (wsV RX3 41 RX3 yX3_readToken wsX3_readToken) := goodIn_app (goodIn_of _ (by decide +kernel)) ggX3_takeMark_X3_readToken
theorem dX3_takeMark_0 : decode cX3_takeMark 0 = .ok (.aload_n 0, 1) := by decide +kernel
theorem dX3_takeMark_1 : decode cX3_takeMark 1 = .ok (.invokevirtual 162, 3) := by decide +kernel
theorem dX3_takeMark_4 : decode cX3_takeMark 4 = .ok (.ifCond .ne 4, 3) := by decide +kernel
theorem dX3_takeMark_7 : decode cX3_takeMark 7 = .ok (.return_, 1) := by decide +kernel
theorem dX3_takeMark_8 : decode cX3_takeMark 8 = .ok (.aload_n 0, 1) := by decide +kernel
theorem dX3_takeMark_9 : decode cX3_takeMark 9 = .ok (.getfield 18, 3) := by decide +kernel
theorem dX3_takeMark_12 : decode cX3_takeMark 12 = .ok (.aload_n 0, 1) := by decide +kernel
theorem dX3_takeMark_13 : decode cX3_takeMark 13 = .ok (.getfield 18, 3) := by decide +kernel
theorem dX3_takeMark_16 : decode cX3_takeMark 16 = .ok (.getfield 56, 3) := by decide +kernel
theorem dX3_takeMark_19 : decode cX3_takeMark 19 = .ok (.iconst 0, 1) := by decide +kernel
theorem dX3_takeMark_20 : decode cX3_takeMark 20 = .ok (.iconst 0, 1) := by decide +kernel
theorem dX3_takeMark_21 : decode cX3_takeMark 21 = .ok (.invokevirtual 169, 3) := by decide +kernel
theorem dX3_takeMark_24 : decode cX3_takeMark 24 = .ok (.aload_n 0, 1) := by decide +kernel
theorem dX3_takeMark_25 : decode cX3_takeMark 25 = .ok (.invokevirtual 41, 3) := by decide +kernel
theorem dX3_takeMark_28 : decode cX3_takeMark 28 = .ok (.return_, 1) := by decide +kernel
set_option maxRecDepth 20000 in
theorem ggX3_hasRoomForBlock_X3_refuse : GoodIn wsX3_hasRoomForBlock wsX3_refuse := goodIn_r _ [8, 9, 10, 11, 12, 13, 14, 15, 16, 17, 18, 19, 20] (by decide +kernel) (by decide +kernel)
set_option maxRecDepth 20000 in
theorem gX3_hasRoomForBlock_X3_refuse : GoodIn wsX3_hasRoomForBlock (wsV RX3 66 RX3 yX3_refuse wsX3_refuse) := goodIn_app (goodIn_of _ (by decide +kernel)) ggX3_hasRoomForBlock_X3_refuse
theorem dX3_hasRoomForBlock_0 : decode cX3_hasRoomForBlock 0 = .ok (.aload_n 0, 1) := by decide +kernel
theorem dX3_hasRoomForBlock_1 : decode cX3_hasRoomForBlock 1 = .ok (.getfield 18, 3) := by decide +kernel
theorem dX3_hasRoomForBlock_4 : decode cX3_hasRoomForBlock 4 = .ok (.getfield 56, 3) := by decide +kernel
theorem dX3_hasRoomForBlock_7 : decode cX3_hasRoomForBlock 7 = .ok (.bipush 12, 2) := by decide +kernel
theorem dX3_hasRoomForBlock_9 : decode cX3_hasRoomForBlock 9 = .ok (.if_icmp .ge 5, 3) := by decide +kernel
theorem dX3_hasRoomForBlock_12 : decode cX3_hasRoomForBlock 12 = .ok (.iconst 1, 1) := by decide +kernel
theorem dX3_hasRoomForBlock_13 : decode cX3_hasRoomForBlock 13 = .ok (.ireturn, 1) := by decide +kernel
theorem dX3_hasRoomForBlock_14 : decode cX3_hasRoomForBlock 14 = .ok (.aload_n 0, 1) := by decide +kernel
theorem dX3_hasRoomForBlock_15 : decode cX3_hasRoomForBlock 15 = .ok (.iconst 5, 1) := by decide +kernel
theorem dX3_hasRoomForBlock_16 : decode cX3_hasRoomForBlock 16 = .ok (.aload_n 0, 1) := by decide +kernel
theorem dX3_hasRoomForBlock_17 : decode cX3_hasRoomForBlock 17 = .ok (.getfield 73, 3) := by decide +kernel
theorem dX3_hasRoomForBlock_20 : decode cX3_hasRoomForBlock 20 = .ok (.invokevirtual 66, 3) := by decide +kernel
theorem dX3_hasRoomForBlock_23 : decode cX3_hasRoomForBlock 23 = .ok (.iconst 0, 1) := by decide +kernel
theorem dX3_hasRoomForBlock_24 : decode cX3_hasRoomForBlock 24 = .ok (.ireturn, 1) := by decide +kernel
set_option maxRecDepth 20000 in
theorem ggX3_isNumberWithin_X3_refuse : GoodIn wsX3_isNumberWithin wsX3_refuse := goodIn_r _ [9, 4, 10, 14, 15, 16, 17, 18, 19, 20, 21, 22, 23] (by decide +kernel) (by decide +kernel)
set_option maxRecDepth 20000 in
theorem gX3_isNumberWithin_X3_refuse : GoodIn wsX3_isNumberWithin (wsV RX3 66 RX3 yX3_refuse wsX3_refuse) := goodIn_app (goodIn_of _ (by decide +kernel)) ggX3_isNumberWithin_X3_refuse
set_option maxRecDepth 20000 in
theorem ggX3_isNumberWithin_X4_isBetween : GoodIn wsX3_isNumberWithin wsX4_isBetween := goodIn_r _ [13] (by decide +kernel) (by decide +kernel)
set_option maxRecDepth 20000 in
theorem gX3_isNumberWithin_X4_isBetween_n173 : GoodIn wsX3_isNumberWithin (wsX4_isBetween) := ggX3_isNumberWithin_X4_isBetween
theorem dX3_isNumberWithin_0 : decode cX3_isNumberWithin 0 = .ok (.aload_n 0, 1) := by decide +kernel
theorem dX3_isNumberWithin_1 : decode cX3_isNumberWithin 1 = .ok (.getfield 44, 3) := by decide +kernel
theorem dX3_isNumberWithin_4 : decode cX3_isNumberWithin 4 = .ok (.iconst 2, 1) := by decide +kernel
theorem dX3_isNumberWithin_5 : decode cX3_isNumberWithin 5 = .ok (.if_icmp .eq 15, 3) := by decide +kernel
theorem dX3_isNumberWithin_8 : decode cX3_isNumberWithin 8 = .ok (.aload_n 0, 1) := by decide +kernel
theorem dX3_isNumberWithin_9 : decode cX3_isNumberWithin 9 = .ok (.iconst 2, 1) := by decide +kernel
theorem dX3_isNumberWithin_10 : decode cX3_isNumberWithin 10 = .ok (.aload_n 0, 1) := by decide +kernel
theorem dX3_isNumberWithin_11 : decode cX3_isNumberWithin 11 = .ok (.getfield 73, 3) := by decide +kernel
theorem dX3_isNumberWithin_14 : decode cX3_isNumberWithin 14 = .ok (.invokevirtual 66, 3) := by decide +kernel
theorem dX3_isNumberWithin_17 : decode cX3_isNumberWithin 17 = .ok (.goto 24, 3) := by decide +kernel
theorem dX3_isNumberWithin_20 : decode cX3_isNumberWithin 20 = .ok (.aload_n 0, 1) := by decide +kernel
theorem dX3_isNumberWithin_21 : decode cX3_isNumberWithin 21 = .ok (.getfield 86, 3) := by decide +kernel
theorem dX3_isNumberWithin_24 : decode cX3_isNumberWithin 24 = .ok (.iload_n 1, 1) := by decide +kernel
theorem dX3_isNumberWithin_25 : decode cX3_isNumberWithin 25 = .ok (.iload_n 2, 1) := by decide +kernel
theorem dX3_isNumberWithin_26 : decode cX3_isNumberWithin 26 = .ok (.invokestatic 173, 3) := by decide +kernel
theorem dX3_isNumberWithin_29 : decode cX3_isNumberWithin 29 = .ok (.ifCond .ne 12, 3) := by decide +kernel
theorem dX3_isNumberWithin_32 : decode cX3_isNumberWithin 32 = .ok (.aload_n 0, 1) := by decide +kernel
theorem dX3_isNumberWithin_33 : decode cX3_isNumberWithin 33 = .ok (.iconst 3, 1) := by decide +kernel
theorem dX3_isNumberWithin_34 : decode cX3_isNumberWithin 34 = .ok (.aload_n 0, 1) := by decide +kernel
theorem dX3_isNumberWithin_35 : decode cX3_isNumberWithin 35 = .ok (.getfield 73, 3) := by decide +kernel
theorem dX3_isNumberWithin_38 : decode cX3_isNumberWithin 38 = .ok (.invokevirtual 66, 3) := by decide +kernel
theorem dX3_isNumberWithin_41 : decode cX3_isNumberWithin 41 = .ok (.aload_n 0, 1) := by decide +kernel
theorem dX3_isNumberWithin_42 : decode cX3_isNumberWithin 42 = .ok (.getfield 35, 3) := by decide +kernel
theorem dX3_isNumberWithin_45 : decode cX3_isNumberWithin 45 = .ok (.ifCond .ne 7, 3) := by decide +kernel
theorem dX3_isNumberWithin_48 : decode cX3_isNumberWithin 48 = .ok (.iconst 1, 1) := by decide +kernel
theorem dX3_isNumberWithin_49 : decode cX3_isNumberWithin 49 = .ok (.goto 4, 3) := by decide +kernel
theorem dX3_isNumberWithin_52 : decode cX3_isNumberWithin 52 = .ok (.iconst 0, 1) := by decide +kernel
theorem dX3_isNumberWithin_53 : decode cX3_isNumberWithin 53 = .ok (.ireturn, 1) := by decide +kernel
set_option maxRecDepth 20000 in
theorem ggX3_takeSign_X3_readToken : GoodIn wsX3_takeSign wsX3_readToken := goodIn_r _ [7, 8, 9, 2, 1, 10, 11, 12, 6, 13, 14, 15, 16, 17, 18, 19, 20, 21, 22, 23, 24, 25, 26, 27, 28, 29, 30, 31, 32, 33, 34, 35, 36, 37, 38, 39, 40, 41] (by decide +kernel) (by decide +kernel)
set_option maxRecDepth 20000 in
theorem gX3_takeSign_X3_readToken : GoodIn wsX3_takeSign (wsV RX3 41 RX3 yX3_readToken wsX3_readToken) := goodIn_app (goodIn_of _ (by decide +kernel)) ggX3_takeSign_X3_readToken
set_option maxRecDepth 20000 in
theorem ggX3_takeSign_X3_refuse : GoodIn wsX3_takeSign wsX3_refuse := goodIn_r _ [29, 30, 31, 32, 33, 34, 35, 36, 37, 38, 39, 40, 41] (by decide +kernel) (by decide +kernel)
set_option maxRecDepth 20000 in
theorem gX3_takeSign_X3_refuse : GoodIn wsX3_takeSign (wsV RX3 66 RX3 yX3_refuse wsX3_refuse) := goodIn_app (goodIn_of _ (by decide +kernel)) ggX3_takeSign_X3_refuse
theorem dX3_takeSign_0 : decode cX3_takeSign 0 = .ok (.aload_n 0, 1) := by decide +kernel
theorem dX3_takeSign_1 : decode cX3_takeSign 1 = .ok (.getfield 44, 3) := by decide +kernel
theorem dX3_takeSign_4 : decode cX3_takeSign 4 = .ok (.iconst 3, 1) := by decide +kernel
theorem dX3_takeSign_5 : decode cX3_takeSign 5 = .ok (.if_icmp .ne 10, 3) := by decide +kernel
theorem dX3_takeSign_8 : decode cX3_takeSign 8 = .ok (.aload_n 0, 1) := by decide +kernel
theorem dX3_takeSign_9 : decode cX3_takeSign 9 = .ok (.invokevirtual 41, 3) := by decide +kernel
theorem dX3_takeSign_12 : decode cX3_takeSign 12 = .ok (.goto 12, 3) := by decide +kernel
theorem dX3_takeSign_15 : decode cX3_takeSign 15 = .ok (.aload_n 0, 1) := by decide +kernel
theorem dX3_takeSign_16 : decode cX3_takeSign 16 = .ok (.iconst 2, 1) := by decide +kernel
theorem dX3_takeSign_17 : decode cX3_takeSign 17 = .ok (.aload_n 0, 1) := by decide +kernel
theorem dX3_takeSign_18 : decode cX3_takeSign 18 = .ok (.getfield 73, 3) := by decide +kernel
theorem dX3_takeSign_21 : decode cX3_takeSign 21 = .ok (.invokevirtual 66, 3) := by decide +kernel
theorem dX3_takeSign_24 : decode cX3_takeSign 24 = .ok (.return_, 1) := by decide +kernel
set_option maxRecDepth 20000 in
theorem ggX4_init_X2_init : GoodIn wsX4_init wsX2_init := goodIn_r _ [30, 31, 2, 3, 32, 33, 34, 35, 36, 37, 38, 39, 40, 41, 42, 43, 6, 44, 45, 46, 47, 48, 49, 50, 51, 52, 53, 54, 55, 56, 57, 58, 59, 60, 61, 83, 84, 85, 86, 87, 88, 89, 90, 91, 92, 93, 94, 95, 96] (by decide +kernel) (by decide +kernel)
set_option maxRecDepth 20000 in
theorem gX4_init_X2_init : GoodIn wsX4_init (wsX2_init) := ggX4_init_X2_init
set_option maxRecDepth 20000 in
theorem ggX4_init_X3_init : GoodIn wsX4_init wsX3_init := goodIn_r _ [63, 64, 2, 3, 65, 66, 67, 5, 6, 68, 69, 29, 30, 31, 32, 33, 34, 35, 36, 37, 38, 39, 40, 41, 42, 43, 44, 45, 46, 47, 48, 49, 50, 51, 52, 53, 54, 55, 56, 57, 58, 59, 60, 61, 109, 110, 111, 112, 113, 114, 115, 116, 117, 118, 83, 84, 85, 86, 87, 88, 89, 90, 91, 92, 93, 94, 95, 96] (by decide +kernel) (by decide +kernel)
set_option maxRecDepth 20000 in
theorem gX4_init_X3_init_n18 : GoodIn wsX4_init (wsX3_init) := ggX4_init_X3_init
set_option maxRecDepth 20000 in
theorem ggX4_init_X0_init : GoodIn wsX4_init wsX0_init := goodIn_r _ [71, 72, 2, 3, 32, 73, 74, 75, 76, 119, 120, 121, 122, 123, 124] (by decide +kernel) (by decide +kernel)
set_option maxRecDepth 20000 in
theorem gX4_init_X0_init_n25 : GoodIn wsX4_init (wsX0_init) := ggX4_init_X0_init
set_option maxRecDepth 20000 in
theorem ggX4_init_X1_init : GoodIn wsX4_init wsX1_init := goodIn_r _ [78, 79, 2, 3, 32, 80, 81, 82, 125, 126, 127] (by decide +kernel) (by decide +kernel)
set_option maxRecDepth 20000 in
theorem gX4_init_X1_init_n38 : GoodIn wsX4_init (wsX1_init) := ggX4_init_X1_init
theorem dX4_init_0 : decode cX4_init 0 = .ok (.aload_n 0, 1) := by decide +kernel
theorem dX4_init_1 : decode cX4_init 1 = .ok (.invokespecial 1, 3) := by decide +kernel
theorem dX4_init_4 : decode cX4_init 4 = .ok (.aload_n 0, 1) := by decide +kernel
theorem dX4_init_5 : decode cX4_init 5 = .ok (.new 7, 3) := by decide +kernel
theorem dX4_init_8 : decode cX4_init 8 = .ok (.dup, 1) := by decide +kernel
theorem dX4_init_9 : decode cX4_init 9 = .ok (.invokespecial 9, 3) := by decide +kernel
theorem dX4_init_12 : decode cX4_init 12 = .ok (.putfield 10, 3) := by decide +kernel
theorem dX4_init_15 : decode cX4_init 15 = .ok (.aload_n 0, 1) := by decide +kernel
theorem dX4_init_16 : decode cX4_init 16 = .ok (.new 16, 3) := by decide +kernel
theorem dX4_init_19 : decode cX4_init 19 = .ok (.dup, 1) := by decide +kernel
theorem dX4_init_20 : decode cX4_init 20 = .ok (.invokespecial 18, 3) := by decide +kernel
theorem dX4_init_23 : decode cX4_init 23 = .ok (.putfield 19, 3) := by decide +kernel
theorem dX4_init_26 : decode cX4_init 26 = .ok (.aload_n 0, 1) := by decide +kernel
theorem dX4_init_27 : decode cX4_init 27 = .ok (.new 23, 3) := by decide +kernel
theorem dX4_init_30 : decode cX4_init 30 = .ok (.dup, 1) := by decide +kernel
theorem dX4_init_31 : decode cX4_init 31 = .ok (.invokespecial 25, 3) := by decide +kernel
theorem dX4_init_34 : decode cX4_init 34 = .ok (.putfield 26, 3) := by decide +kernel
theorem dX4_init_37 : decode cX4_init 37 = .ok (.aload_n 0, 1) := by decide +kernel
theorem dX4_init_38 : decode cX4_init 38 = .ok (.new 7, 3) := by decide +kernel
theorem dX4_init_41 : decode cX4_init 41 = .ok (.dup, 1) := by decide +kernel
theorem dX4_init_42 : decode cX4_init 42 = .ok (.invokespecial 9, 3) := by decide +kernel
theorem dX4_init_45 : decode cX4_init 45 = .ok (.putfield 30, 3) := by decide +kernel
theorem dX4_init_48 : decode cX4_init 48 = .ok (.aload_n 0, 1) := by decide +kernel
theorem dX4_init_49 : decode cX4_init 49 = .ok (.new 7, 3) := by decide +kernel
theorem dX4_init_52 : decode cX4_init 52 = .ok (.dup, 1) := by decide +kernel
theorem dX4_init_53 : decode cX4_init 53 = .ok (.invokespecial 9, 3) := by decide +kernel
theorem dX4_init_56 : decode cX4_init 56 = .ok (.putfield 33, 3) := by decide +kernel
theorem dX4_init_59 : decode cX4_init 59 = .ok (.aload_n 0, 1) := by decide +kernel
theorem dX4_init_60 : decode cX4_init 60 = .ok (.new 36, 3) := by decide +kernel
theorem dX4_init_63 : decode cX4_init 63 = .ok (.dup, 1) := by decide +kernel
theorem dX4_init_64 : decode cX4_init 64 = .ok (.invokespecial 38, 3) := by decide +kernel
theorem dX4_init_67 : decode cX4_init 67 = .ok (.putfield 39, 3) := by decide +kernel
theorem dX4_init_70 : decode cX4_init 70 = .ok (.aload_n 0, 1) := by decide +kernel
theorem dX4_init_71 : decode cX4_init 71 = .ok (.new 36, 3) := by decide +kernel
theorem dX4_init_74 : decode cX4_init 74 = .ok (.dup, 1) := by decide +kernel
theorem dX4_init_75 : decode cX4_init 75 = .ok (.invokespecial 38, 3) := by decide +kernel
theorem dX4_init_78 : decode cX4_init 78 = .ok (.putfield 43, 3) := by decide +kernel
theorem dX4_init_81 : decode cX4_init 81 = .ok (.aload_n 0, 1) := by decide +kernel
theorem dX4_init_82 : decode cX4_init 82 = .ok (.new 36, 3) := by decide +kernel
theorem dX4_init_85 : decode cX4_init 85 = .ok (.dup, 1) := by decide +kernel
theorem dX4_init_86 : decode cX4_init 86 = .ok (.invokespecial 38, 3) := by decide +kernel
theorem dX4_init_89 : decode cX4_init 89 = .ok (.putfield 46, 3) := by decide +kernel
theorem dX4_init_92 : decode cX4_init 92 = .ok (.aload_n 0, 1) := by decide +kernel
theorem dX4_init_93 : decode cX4_init 93 = .ok (.new 36, 3) := by decide +kernel
theorem dX4_init_96 : decode cX4_init 96 = .ok (.dup, 1) := by decide +kernel
theorem dX4_init_97 : decode cX4_init 97 = .ok (.invokespecial 38, 3) := by decide +kernel
theorem dX4_init_100 : decode cX4_init 100 = .ok (.putfield 49, 3) := by decide +kernel
theorem dX4_init_103 : decode cX4_init 103 = .ok (.aload_n 0, 1) := by decide +kernel
theorem dX4_init_104 : decode cX4_init 104 = .ok (.iconst 0, 1) := by decide +kernel
theorem dX4_init_105 : decode cX4_init 105 = .ok (.putfield 52, 3) := by decide +kernel
theorem dX4_init_108 : decode cX4_init 108 = .ok (.aload_n 0, 1) := by decide +kernel
theorem dX4_init_109 : decode cX4_init 109 = .ok (.iconst 0, 1) := by decide +kernel
theorem dX4_init_110 : decode cX4_init 110 = .ok (.putfield 56, 3) := by decide +kernel
theorem dX4_init_113 : decode cX4_init 113 = .ok (.aload_n 0, 1) := by decide +kernel
theorem dX4_init_114 : decode cX4_init 114 = .ok (.iconst 0, 1) := by decide +kernel
theorem dX4_init_115 : decode cX4_init 115 = .ok (.putfield 59, 3) := by decide +kernel
theorem dX4_init_118 : decode cX4_init 118 = .ok (.return_, 1) := by decide +kernel
set_option maxRecDepth 20000 in
theorem ggX4_feed_X3_addLetter : GoodIn wsX4_feed wsX3_addLetter := goodIn_r _ [7, 8, 9, 22, 23, 24, 25, 26, 27, 28, 29, 30, 31] (by decide +kernel) (by decide +kernel)
set_option maxRecDepth 20000 in
theorem gX4_feed_X3_addLetter : GoodIn wsX4_feed (wsV RX4 65 RX3 yX3_addLetter wsX3_addLetter) := goodIn_app (goodIn_of _ (by decide +kernel)) ggX4_feed_X3_addLetter
theorem dX4_feed_0 : decode cX4_feed 0 = .ok (.aload_n 0, 1) := by decide +kernel
theorem dX4_feed_1 : decode cX4_feed 1 = .ok (.getfield 19, 3) := by decide +kernel
theorem dX4_feed_4 : decode cX4_feed 4 = .ok (.getfield 62, 3) := by decide +kernel
theorem dX4_feed_7 : decode cX4_feed 7 = .ok (.bipush 8, 2) := by decide +kernel
theorem dX4_feed_9 : decode cX4_feed 9 = .ok (.iadd, 1) := by decide +kernel
theorem dX4_feed_10 : decode cX4_feed 10 = .ok (.sipush 400, 3) := by decide +kernel
theorem dX4_feed_13 : decode cX4_feed 13 = .ok (.if_icmp .le 6, 3) := by decide +kernel
theorem dX4_feed_16 : decode cX4_feed 16 = .ok (.bipush (-3), 2) := by decide +kernel
theorem dX4_feed_18 : decode cX4_feed 18 = .ok (.ireturn, 1) := by decide +kernel
theorem dX4_feed_19 : decode cX4_feed 19 = .ok (.bipush 56, 2) := by decide +kernel
theorem dX4_feed_21 : decode cX4_feed 21 = .ok (.istore_n 3, 1) := by decide +kernel
theorem dX4_feed_22 : decode cX4_feed 22 = .ok (.iload_n 3, 1) := by decide +kernel
theorem dX4_feed_23 : decode cX4_feed 23 = .ok (.ifCond .lt 21, 3) := by decide +kernel
theorem dX4_feed_26 : decode cX4_feed 26 = .ok (.aload_n 0, 1) := by decide +kernel
theorem dX4_feed_27 : decode cX4_feed 27 = .ok (.getfield 19, 3) := by decide +kernel
theorem dX4_feed_30 : decode cX4_feed 30 = .ok (.lload_n 1, 1) := by decide +kernel
theorem dX4_feed_31 : decode cX4_feed 31 = .ok (.iload_n 3, 1) := by decide +kernel
theorem dX4_feed_32 : decode cX4_feed 32 = .ok (.lushr, 1) := by decide +kernel
theorem dX4_feed_33 : decode cX4_feed 33 = .ok (.l2i, 1) := by decide +kernel
theorem dX4_feed_34 : decode cX4_feed 34 = .ok (.i2b, 1) := by decide +kernel
theorem dX4_feed_35 : decode cX4_feed 35 = .ok (.invokevirtual 65, 3) := by decide +kernel
theorem dX4_feed_38 : decode cX4_feed 38 = .ok (.iinc 3 (-8), 3) := by decide +kernel
theorem dX4_feed_41 : decode cX4_feed 41 = .ok (.goto (-19), 3) := by decide +kernel
theorem dX4_feed_44 : decode cX4_feed 44 = .ok (.aload_n 0, 1) := by decide +kernel
theorem dX4_feed_45 : decode cX4_feed 45 = .ok (.getfield 19, 3) := by decide +kernel
theorem dX4_feed_48 : decode cX4_feed 48 = .ok (.getfield 62, 3) := by decide +kernel
theorem dX4_feed_51 : decode cX4_feed 51 = .ok (.ireturn, 1) := by decide +kernel
set_option maxRecDepth 20000 in
theorem ggX4_end_X4_isBetween : GoodIn wsX4_end wsX4_isBetween := goodIn_r _ [6] (by decide +kernel) (by decide +kernel)
set_option maxRecDepth 20000 in
theorem gX4_end_X4_isBetween : GoodIn wsX4_end (va_wsS RX4 69 yX4_isBetween wsX4_isBetween) := goodIn_app (goodIn_of _ (by decide +kernel)) ggX4_end_X4_isBetween
theorem dX4_end_0 : decode cX4_end 0 = .ok (.aload_n 0, 1) := by decide +kernel
theorem dX4_end_1 : decode cX4_end 1 = .ok (.getfield 19, 3) := by decide +kernel
theorem dX4_end_4 : decode cX4_end 4 = .ok (.getfield 62, 3) := by decide +kernel
theorem dX4_end_7 : decode cX4_end 7 = .ok (.istore_n 2, 1) := by decide +kernel
theorem dX4_end_8 : decode cX4_end 8 = .ok (.iload_n 1, 1) := by decide +kernel
theorem dX4_end_9 : decode cX4_end 9 = .ok (.iconst 0, 1) := by decide +kernel
theorem dX4_end_10 : decode cX4_end 10 = .ok (.iload_n 2, 1) := by decide +kernel
theorem dX4_end_11 : decode cX4_end 11 = .ok (.invokestatic 69, 3) := by decide +kernel
theorem dX4_end_14 : decode cX4_end 14 = .ok (.ifCond .ne 5, 3) := by decide +kernel
theorem dX4_end_17 : decode cX4_end 17 = .ok (.iconst (-1), 1) := by decide +kernel
theorem dX4_end_18 : decode cX4_end 18 = .ok (.ireturn, 1) := by decide +kernel
theorem dX4_end_19 : decode cX4_end 19 = .ok (.aload_n 0, 1) := by decide +kernel
theorem dX4_end_20 : decode cX4_end 20 = .ok (.getfield 19, 3) := by decide +kernel
theorem dX4_end_23 : decode cX4_end 23 = .ok (.iload_n 1, 1) := by decide +kernel
theorem dX4_end_24 : decode cX4_end 24 = .ok (.putfield 62, 3) := by decide +kernel
theorem dX4_end_27 : decode cX4_end 27 = .ok (.iload_n 2, 1) := by decide +kernel
theorem dX4_end_28 : decode cX4_end 28 = .ok (.ireturn, 1) := by decide +kernel
set_option maxRecDepth 20000 in
theorem ggX4_text_X3_takeAll : GoodIn wsX4_text wsX3_takeAll := goodIn_r _ [13, 14, 15, 16, 17, 18, 19, 20, 21, 22, 23, 24, 25, 26, 27, 28, 29, 30, 31, 32, 33, 34, 35, 36, 37, 38, 39, 40, 41, 42, 43, 44, 45, 46, 47, 48, 12, 49, 50, 51, 52, 53, 54, 55, 56, 57, 58, 59, 60, 61, 62, 63, 64, 65, 66, 67, 68, 69, 70, 71, 72, 73, 74, 75, 76, 77, 78, 79, 80, 81, 82, 83, 84, 85, 86, 87, 88, 89, 90, 91, 92, 93, 94, 95, 96, 97, 98, 99, 100, 101, 102, 103, 104, 105, 106, 107, 108, 109, 110, 111, 112, 113, 114, 115, 116, 117, 118, 119, 120, 121, 122, 123, 124, 125, 126, 127, 128, 129, 130, 131, 132, 133, 134, 135, 136, 137, 138, 139, 140, 141, 142, 143, 144, 145, 146, 147, 148, 149, 150, 151, 152, 153, 154, 155, 156, 157, 158, 159, 160, 161, 162, 163, 164, 165, 166, 167, 168, 169, 170, 171, 172, 173, 174, 175, 176, 177, 178, 179, 180, 181, 182, 183, 184, 185, 186, 187, 188, 189, 190, 191, 192, 193, 194, 195, 196, 197, 198, 199, 200, 201, 202, 203, 204, 205, 206, 207, 208, 209, 210, 211, 212, 213, 214, 215, 216, 217, 218, 219, 220, 221, 222, 241, 242, 243, 244, 245, 246, 247, 248, 249, 250, 251, 252, 253, 254, 255, 256, 257, 258, 259, 260, 261, 262, 263, 264] (by decide +kernel) (by decide +kernel)
set_option maxRecDepth 20000 in
theorem gX4_text_X3_takeAll : GoodIn wsX4_text (wsV RX4 73 RX3 yX3_takeAll wsX3_takeAll) := goodIn_app (goodIn_of _ (by decide +kernel)) ggX4_text_X3_takeAll
set_option maxRecDepth 20000 in
theorem ggX4_text_X2_becomes : GoodIn wsX4_text wsX2_becomes := goodIn_r _ [226, 28, 164, 165, 178, 166, 159, 227, 228, 29, 30, 31, 32, 33, 34, 35, 36, 37, 38, 39, 40, 41, 42, 43, 44, 45, 251, 252, 253, 254, 255, 256, 257, 258, 259, 260, 261, 262, 263, 264] (by decide +kernel) (by decide +kernel)
set_option maxRecDepth 20000 in
theorem gX4_text_X2_becomes : GoodIn wsX4_text (wsV RX4 86 RX2 yX2_becomes wsX2_becomes) := goodIn_app (goodIn_of _ (by decide +kernel)) ggX4_text_X2_becomes
theorem dX4_text_0 : decode cX4_text 0 = .ok (.aload_n 0, 1) := by decide +kernel
theorem dX4_text_1 : decode cX4_text 1 = .ok (.getfield 19, 3) := by decide +kernel
theorem dX4_text_4 : decode cX4_text 4 = .ok (.invokevirtual 73, 3) := by decide +kernel
theorem dX4_text_7 : decode cX4_text 7 = .ok (.istore_n 1, 1) := by decide +kernel
theorem dX4_text_8 : decode cX4_text 8 = .ok (.aload_n 0, 1) := by decide +kernel
theorem dX4_text_9 : decode cX4_text 9 = .ok (.getfield 19, 3) := by decide +kernel
theorem dX4_text_12 : decode cX4_text 12 = .ok (.iconst 0, 1) := by decide +kernel
theorem dX4_text_13 : decode cX4_text 13 = .ok (.putfield 62, 3) := by decide +kernel
theorem dX4_text_16 : decode cX4_text 16 = .ok (.aload_n 0, 1) := by decide +kernel
theorem dX4_text_17 : decode cX4_text 17 = .ok (.aload_n 0, 1) := by decide +kernel
theorem dX4_text_18 : decode cX4_text 18 = .ok (.getfield 19, 3) := by decide +kernel
theorem dX4_text_21 : decode cX4_text 21 = .ok (.getfield 77, 3) := by decide +kernel
theorem dX4_text_24 : decode cX4_text 24 = .ok (.putfield 52, 3) := by decide +kernel
theorem dX4_text_27 : decode cX4_text 27 = .ok (.aload_n 0, 1) := by decide +kernel
theorem dX4_text_28 : decode cX4_text 28 = .ok (.getfield 52, 3) := by decide +kernel
theorem dX4_text_31 : decode cX4_text 31 = .ok (.ifCond .eq 14, 3) := by decide +kernel
theorem dX4_text_34 : decode cX4_text 34 = .ok (.bipush (-10), 2) := by decide +kernel
theorem dX4_text_36 : decode cX4_text 36 = .ok (.aload_n 0, 1) := by decide +kernel
theorem dX4_text_37 : decode cX4_text 37 = .ok (.getfield 19, 3) := by decide +kernel
theorem dX4_text_40 : decode cX4_text 40 = .ok (.getfield 80, 3) := by decide +kernel
theorem dX4_text_43 : decode cX4_text 43 = .ok (.isub, 1) := by decide +kernel
theorem dX4_text_44 : decode cX4_text 44 = .ok (.ireturn, 1) := by decide +kernel
theorem dX4_text_45 : decode cX4_text 45 = .ok (.aload_n 0, 1) := by decide +kernel
theorem dX4_text_46 : decode cX4_text 46 = .ok (.getfield 10, 3) := by decide +kernel
theorem dX4_text_49 : decode cX4_text 49 = .ok (.aload_n 0, 1) := by decide +kernel
theorem dX4_text_50 : decode cX4_text 50 = .ok (.getfield 19, 3) := by decide +kernel
theorem dX4_text_53 : decode cX4_text 53 = .ok (.getfield 83, 3) := by decide +kernel
theorem dX4_text_56 : decode cX4_text 56 = .ok (.invokevirtual 86, 3) := by decide +kernel
theorem dX4_text_59 : decode cX4_text 59 = .ok (.aload_n 0, 1) := by decide +kernel
theorem dX4_text_60 : decode cX4_text 60 = .ok (.iconst 0, 1) := by decide +kernel
theorem dX4_text_61 : decode cX4_text 61 = .ok (.putfield 59, 3) := by decide +kernel
theorem dX4_text_64 : decode cX4_text 64 = .ok (.iload_n 1, 1) := by decide +kernel
theorem dX4_text_65 : decode cX4_text 65 = .ok (.ireturn, 1) := by decide +kernel
theorem dX4_fault_0 : decode cX4_fault 0 = .ok (.aload_n 0, 1) := by decide +kernel
theorem dX4_fault_1 : decode cX4_fault 1 = .ok (.getfield 52, 3) := by decide +kernel
theorem dX4_fault_4 : decode cX4_fault 4 = .ok (.ireturn, 1) := by decide +kernel
set_option maxRecDepth 20000 in
theorem ggX4_rule_X4_isBetween : GoodIn wsX4_rule wsX4_isBetween := goodIn_r _ [5] (by decide +kernel) (by decide +kernel)
set_option maxRecDepth 20000 in
theorem gX4_rule_X4_isBetween : GoodIn wsX4_rule (va_wsS RX4 69 yX4_isBetween wsX4_isBetween) := goodIn_app (goodIn_of _ (by decide +kernel)) ggX4_rule_X4_isBetween
set_option maxRecDepth 20000 in
theorem ggX4_rule_X2_ruled : GoodIn wsX4_rule wsX2_ruled := goodIn_r _ [10, 11, 24, 25, 26, 27, 28, 29, 30, 31, 32, 33, 34, 35, 36, 37] (by decide +kernel) (by decide +kernel)
set_option maxRecDepth 20000 in
theorem gX4_rule_X2_ruled : GoodIn wsX4_rule (wsV RX4 90 RX2 yX2_ruled wsX2_ruled) := goodIn_app (goodIn_of _ (by decide +kernel)) ggX4_rule_X2_ruled
theorem dX4_rule_0 : decode cX4_rule 0 = .ok (.iload_n 1, 1) := by decide +kernel
theorem dX4_rule_1 : decode cX4_rule 1 = .ok (.iconst 0, 1) := by decide +kernel
theorem dX4_rule_2 : decode cX4_rule 2 = .ok (.bipush 8, 2) := by decide +kernel
theorem dX4_rule_4 : decode cX4_rule 4 = .ok (.invokestatic 69, 3) := by decide +kernel
theorem dX4_rule_7 : decode cX4_rule 7 = .ok (.ifCond .eq 14, 3) := by decide +kernel
theorem dX4_rule_10 : decode cX4_rule 10 = .ok (.aload_n 0, 1) := by decide +kernel
theorem dX4_rule_11 : decode cX4_rule 11 = .ok (.getfield 10, 3) := by decide +kernel
theorem dX4_rule_14 : decode cX4_rule 14 = .ok (.iload_n 1, 1) := by decide +kernel
theorem dX4_rule_15 : decode cX4_rule 15 = .ok (.invokevirtual 90, 3) := by decide +kernel
theorem dX4_rule_18 : decode cX4_rule 18 = .ok (.goto 4, 3) := by decide +kernel
theorem dX4_rule_21 : decode cX4_rule 21 = .ok (.iconst (-1), 1) := by decide +kernel
theorem dX4_rule_22 : decode cX4_rule 22 = .ok (.ireturn, 1) := by decide +kernel
set_option maxRecDepth 20000 in
theorem ggX4_turns_X2_hasPlace : GoodIn wsX4_turns wsX2_hasPlace := goodIn_r _ [6, 7, 8, 9, 5, 10, 11, 12, 13, 14, 41, 42, 43, 44, 45, 46, 47, 48, 49, 50, 51, 52, 53, 54] (by decide +kernel) (by decide +kernel)
set_option maxRecDepth 20000 in
theorem gX4_turns_X2_hasPlace : GoodIn wsX4_turns (wsV RX4 94 RX2 yX2_hasPlace wsX2_hasPlace) := goodIn_app (goodIn_of _ (by decide +kernel)) ggX4_turns_X2_hasPlace
set_option maxRecDepth 20000 in
theorem ggX4_turns_X2_leftTurns : GoodIn wsX4_turns wsX2_leftTurns := goodIn_r _ [18, 7, 8, 9, 5, 10, 11, 19, 20, 21, 22, 23, 13, 24, 41, 42, 43, 44, 45, 46, 47, 48, 49, 50, 51, 52, 53, 54] (by decide +kernel) (by decide +kernel)
set_option maxRecDepth 20000 in
theorem gX4_turns_X2_leftTurns : GoodIn wsX4_turns (wsV RX4 98 RX2 yX2_leftTurns wsX2_leftTurns) := goodIn_app (goodIn_of _ (by decide +kernel)) ggX4_turns_X2_leftTurns
set_option maxRecDepth 20000 in
theorem ggX4_turns_X2_rightTurns : GoodIn wsX4_turns wsX2_rightTurns := goodIn_r _ [28, 19, 20, 21, 5, 22, 7, 8, 9, 10, 11, 23, 13, 24, 41, 42, 43, 44, 45, 46, 47, 48, 49, 50, 51, 52, 53, 54] (by decide +kernel) (by decide +kernel)
set_option maxRecDepth 20000 in
theorem gX4_turns_X2_rightTurns : GoodIn wsX4_turns (wsV RX4 101 RX2 yX2_rightTurns wsX2_rightTurns) := goodIn_app (goodIn_of _ (by decide +kernel)) ggX4_turns_X2_rightTurns
theorem dX4_turns_0 : decode cX4_turns 0 = .ok (.aload_n 0, 1) := by decide +kernel
theorem dX4_turns_1 : decode cX4_turns 1 = .ok (.getfield 10, 3) := by decide +kernel
theorem dX4_turns_4 : decode cX4_turns 4 = .ok (.iload_n 1, 1) := by decide +kernel
theorem dX4_turns_5 : decode cX4_turns 5 = .ok (.invokevirtual 94, 3) := by decide +kernel
theorem dX4_turns_8 : decode cX4_turns 8 = .ok (.ifCond .ne 5, 3) := by decide +kernel
theorem dX4_turns_11 : decode cX4_turns 11 = .ok (.iconst (-1), 1) := by decide +kernel
theorem dX4_turns_12 : decode cX4_turns 12 = .ok (.ireturn, 1) := by decide +kernel
theorem dX4_turns_13 : decode cX4_turns 13 = .ok (.iload_n 2, 1) := by decide +kernel
theorem dX4_turns_14 : decode cX4_turns 14 = .ok (.ifCond .eq 14, 3) := by decide +kernel
theorem dX4_turns_17 : decode cX4_turns 17 = .ok (.aload_n 0, 1) := by decide +kernel
theorem dX4_turns_18 : decode cX4_turns 18 = .ok (.getfield 10, 3) := by decide +kernel
theorem dX4_turns_21 : decode cX4_turns 21 = .ok (.iload_n 1, 1) := by decide +kernel
theorem dX4_turns_22 : decode cX4_turns 22 = .ok (.invokevirtual 98, 3) := by decide +kernel
theorem dX4_turns_25 : decode cX4_turns 25 = .ok (.goto 11, 3) := by decide +kernel
theorem dX4_turns_28 : decode cX4_turns 28 = .ok (.aload_n 0, 1) := by decide +kernel
theorem dX4_turns_29 : decode cX4_turns 29 = .ok (.getfield 10, 3) := by decide +kernel
theorem dX4_turns_32 : decode cX4_turns 32 = .ok (.iload_n 1, 1) := by decide +kernel
theorem dX4_turns_33 : decode cX4_turns 33 = .ok (.invokevirtual 101, 3) := by decide +kernel
theorem dX4_turns_36 : decode cX4_turns 36 = .ok (.ireturn, 1) := by decide +kernel
set_option maxRecDepth 20000 in
theorem ggX4_shows_X4_isBetween : GoodIn wsX4_shows wsX4_isBetween := goodIn_r _ [5] (by decide +kernel) (by decide +kernel)
set_option maxRecDepth 20000 in
theorem gX4_shows_X4_isBetween : GoodIn wsX4_shows (va_wsS RX4 69 yX4_isBetween wsX4_isBetween) := goodIn_app (goodIn_of _ (by decide +kernel)) ggX4_shows_X4_isBetween
set_option maxRecDepth 20000 in
theorem ggX4_shows_X2_firstShowing : GoodIn wsX4_shows wsX2_firstShowing := goodIn_r _ [10, 11, 12, 13, 9, 14, 15, 16, 4, 17, 18, 19, 20, 21, 3, 5, 43, 44, 45, 46, 47, 48, 49, 50, 51, 52, 53, 54, 55, 56] (by decide +kernel) (by decide +kernel)
set_option maxRecDepth 20000 in
theorem gX4_shows_X2_firstShowing : GoodIn wsX4_shows (wsV RX4 104 RX2 yX2_firstShowing wsX2_firstShowing) := goodIn_app (goodIn_of _ (by decide +kernel)) ggX4_shows_X2_firstShowing
set_option maxRecDepth 20000 in
theorem ggX4_shows_X2_lastShowing : GoodIn wsX4_shows wsX2_lastShowing := goodIn_r _ [25, 26, 27, 28, 29, 30, 7, 8, 9, 10, 11, 12, 13, 14, 15, 16, 4, 17, 18, 19, 20, 21, 3, 5, 43, 44, 45, 46, 47, 48, 49, 50, 51, 52, 53, 54, 55, 56] (by decide +kernel) (by decide +kernel)
set_option maxRecDepth 20000 in
theorem gX4_shows_X2_lastShowing : GoodIn wsX4_shows (wsV RX4 107 RX2 yX2_lastShowing wsX2_lastShowing) := goodIn_app (goodIn_of _ (by decide +kernel)) ggX4_shows_X2_lastShowing
theorem dX4_shows_0 : decode cX4_shows 0 = .ok (.iload_n 1, 1) := by decide +kernel
theorem dX4_shows_1 : decode cX4_shows 1 = .ok (.ifCond .lt 12, 3) := by decide +kernel
theorem dX4_shows_4 : decode cX4_shows 4 = .ok (.iload_n 2, 1) := by decide +kernel
theorem dX4_shows_5 : decode cX4_shows 5 = .ok (.iconst 0, 1) := by decide +kernel
theorem dX4_shows_6 : decode cX4_shows 6 = .ok (.iconst 1, 1) := by decide +kernel
theorem dX4_shows_7 : decode cX4_shows 7 = .ok (.invokestatic 69, 3) := by decide +kernel
theorem dX4_shows_10 : decode cX4_shows 10 = .ok (.ifCond .ne 5, 3) := by decide +kernel
theorem dX4_shows_13 : decode cX4_shows 13 = .ok (.iconst (-1), 1) := by decide +kernel
theorem dX4_shows_14 : decode cX4_shows 14 = .ok (.ireturn, 1) := by decide +kernel
theorem dX4_shows_15 : decode cX4_shows 15 = .ok (.iload_n 2, 1) := by decide +kernel
theorem dX4_shows_16 : decode cX4_shows 16 = .ok (.ifCond .ne 14, 3) := by decide +kernel
theorem dX4_shows_19 : decode cX4_shows 19 = .ok (.aload_n 0, 1) := by decide +kernel
theorem dX4_shows_20 : decode cX4_shows 20 = .ok (.getfield 10, 3) := by decide +kernel
theorem dX4_shows_23 : decode cX4_shows 23 = .ok (.iload_n 1, 1) := by decide +kernel
theorem dX4_shows_24 : decode cX4_shows 24 = .ok (.invokevirtual 104, 3) := by decide +kernel
theorem dX4_shows_27 : decode cX4_shows 27 = .ok (.goto 11, 3) := by decide +kernel
theorem dX4_shows_30 : decode cX4_shows 30 = .ok (.aload_n 0, 1) := by decide +kernel
theorem dX4_shows_31 : decode cX4_shows 31 = .ok (.getfield 10, 3) := by decide +kernel
theorem dX4_shows_34 : decode cX4_shows 34 = .ok (.iload_n 1, 1) := by decide +kernel
theorem dX4_shows_35 : decode cX4_shows 35 = .ok (.invokevirtual 107, 3) := by decide +kernel
theorem dX4_shows_38 : decode cX4_shows 38 = .ok (.ireturn, 1) := by decide +kernel
set_option maxRecDepth 20000 in
theorem ggX4_meet_X2_meetingPlace : GoodIn wsX4_meet wsX2_meetingPlace := goodIn_r _ [6, 7, 8, 9, 5, 10, 11, 12, 13, 14, 15, 16, 17, 18, 19, 20, 21, 22, 23, 24, 25, 26, 39, 40, 41, 42, 43, 44, 45, 46, 47, 48, 49, 50, 51, 52] (by decide +kernel) (by decide +kernel)
set_option maxRecDepth 20000 in
theorem gX4_meet_X2_meetingPlace : GoodIn wsX4_meet (wsV RX4 110 RX2 yX2_meetingPlace wsX2_meetingPlace) := goodIn_app (goodIn_of _ (by decide +kernel)) ggX4_meet_X2_meetingPlace
theorem dX4_meet_0 : decode cX4_meet 0 = .ok (.aload_n 0, 1) := by decide +kernel
theorem dX4_meet_1 : decode cX4_meet 1 = .ok (.getfield 10, 3) := by decide +kernel
theorem dX4_meet_4 : decode cX4_meet 4 = .ok (.invokevirtual 110, 3) := by decide +kernel
theorem dX4_meet_7 : decode cX4_meet 7 = .ok (.ireturn, 1) := by decide +kernel
set_option maxRecDepth 20000 in
theorem ggX4_ticks_X2_hasPlace : GoodIn wsX4_ticks wsX2_hasPlace := goodIn_r _ [6, 7, 8, 9, 5, 10, 11, 12, 13, 14, 58, 59, 60, 61, 62, 63, 64, 65, 66, 67, 68, 69, 70, 71] (by decide +kernel) (by decide +kernel)
set_option maxRecDepth 20000 in
theorem gX4_ticks_X2_hasPlace : GoodIn wsX4_ticks (wsV RX4 94 RX2 yX2_hasPlace wsX2_hasPlace) := goodIn_app (goodIn_of _ (by decide +kernel)) ggX4_ticks_X2_hasPlace
set_option maxRecDepth 20000 in
theorem ggX4_ticks_X2_played : GoodIn wsX4_ticks wsX2_played := goodIn_r _ [18, 19, 20, 21, 22, 7, 8, 9, 5, 10, 11, 23, 24, 25, 26, 58, 59, 60, 61, 62, 63, 64, 65, 66, 67, 68, 69, 70, 71] (by decide +kernel) (by decide +kernel)
set_option maxRecDepth 20000 in
theorem gX4_ticks_X2_played : GoodIn wsX4_ticks (wsV RX4 113 RX2 yX2_played wsX2_played) := goodIn_app (goodIn_of _ (by decide +kernel)) ggX4_ticks_X2_played
set_option maxRecDepth 20000 in
theorem ggX4_ticks_X2_wound : GoodIn wsX4_ticks wsX2_wound := goodIn_r _ [30, 7, 8, 9, 5, 10, 11, 31, 32, 33, 34, 35, 13, 36, 58, 59, 60, 61, 62, 63, 64, 65, 66, 67, 68, 69, 70, 71] (by decide +kernel) (by decide +kernel)
set_option maxRecDepth 20000 in
theorem gX4_ticks_X2_wound : GoodIn wsX4_ticks (wsV RX4 117 RX2 yX2_wound wsX2_wound) := goodIn_app (goodIn_of _ (by decide +kernel)) ggX4_ticks_X2_wound
set_option maxRecDepth 20000 in
theorem ggX4_ticks_X2_sooner : GoodIn wsX4_ticks wsX2_sooner := goodIn_r _ [40, 41, 42, 21, 43, 44, 16, 17, 5, 18, 19, 20, 22, 7, 8, 9, 10, 11, 23, 24, 25, 26, 45, 28, 29, 30, 31, 32, 33, 34, 35, 13, 36, 58, 59, 60, 61, 62, 63, 64, 65, 66, 67, 68, 69, 70, 71] (by decide +kernel) (by decide +kernel)
set_option maxRecDepth 20000 in
theorem gX4_ticks_X2_sooner : GoodIn wsX4_ticks (wsV RX4 120 RX2 yX2_sooner wsX2_sooner) := goodIn_app (goodIn_of _ (by decide +kernel)) ggX4_ticks_X2_sooner
theorem dX4_ticks_0 : decode cX4_ticks 0 = .ok (.aload_n 0, 1) := by decide +kernel
theorem dX4_ticks_1 : decode cX4_ticks 1 = .ok (.getfield 10, 3) := by decide +kernel
theorem dX4_ticks_4 : decode cX4_ticks 4 = .ok (.iload_n 1, 1) := by decide +kernel
theorem dX4_ticks_5 : decode cX4_ticks 5 = .ok (.invokevirtual 94, 3) := by decide +kernel
theorem dX4_ticks_8 : decode cX4_ticks 8 = .ok (.ifCond .eq 14, 3) := by decide +kernel
theorem dX4_ticks_11 : decode cX4_ticks 11 = .ok (.aload_n 0, 1) := by decide +kernel
theorem dX4_ticks_12 : decode cX4_ticks 12 = .ok (.getfield 10, 3) := by decide +kernel
theorem dX4_ticks_15 : decode cX4_ticks 15 = .ok (.iload_n 2, 1) := by decide +kernel
theorem dX4_ticks_16 : decode cX4_ticks 16 = .ok (.invokevirtual 94, 3) := by decide +kernel
theorem dX4_ticks_19 : decode cX4_ticks 19 = .ok (.ifCond .ne 5, 3) := by decide +kernel
theorem dX4_ticks_22 : decode cX4_ticks 22 = .ok (.iconst (-1), 1) := by decide +kernel
theorem dX4_ticks_23 : decode cX4_ticks 23 = .ok (.ireturn, 1) := by decide +kernel
theorem dX4_ticks_24 : decode cX4_ticks 24 = .ok (.iload_n 3, 1) := by decide +kernel
theorem dX4_ticks_25 : decode cX4_ticks 25 = .ok (.tableswitch 57 0 2 #[27, 37, 47], 27) := by decide +kernel
theorem dX4_ticks_52 : decode cX4_ticks 52 = .ok (.aload_n 0, 1) := by decide +kernel
theorem dX4_ticks_53 : decode cX4_ticks 53 = .ok (.getfield 10, 3) := by decide +kernel
theorem dX4_ticks_56 : decode cX4_ticks 56 = .ok (.iload_n 1, 1) := by decide +kernel
theorem dX4_ticks_57 : decode cX4_ticks 57 = .ok (.iload_n 2, 1) := by decide +kernel
theorem dX4_ticks_58 : decode cX4_ticks 58 = .ok (.invokevirtual 113, 3) := by decide +kernel
theorem dX4_ticks_61 : decode cX4_ticks 61 = .ok (.ireturn, 1) := by decide +kernel
theorem dX4_ticks_62 : decode cX4_ticks 62 = .ok (.aload_n 0, 1) := by decide +kernel
theorem dX4_ticks_63 : decode cX4_ticks 63 = .ok (.getfield 10, 3) := by decide +kernel
theorem dX4_ticks_66 : decode cX4_ticks 66 = .ok (.iload_n 1, 1) := by decide +kernel
theorem dX4_ticks_67 : decode cX4_ticks 67 = .ok (.iload_n 2, 1) := by decide +kernel
theorem dX4_ticks_68 : decode cX4_ticks 68 = .ok (.invokevirtual 117, 3) := by decide +kernel
theorem dX4_ticks_71 : decode cX4_ticks 71 = .ok (.ireturn, 1) := by decide +kernel
theorem dX4_ticks_72 : decode cX4_ticks 72 = .ok (.aload_n 0, 1) := by decide +kernel
theorem dX4_ticks_73 : decode cX4_ticks 73 = .ok (.getfield 10, 3) := by decide +kernel
theorem dX4_ticks_76 : decode cX4_ticks 76 = .ok (.iload_n 1, 1) := by decide +kernel
theorem dX4_ticks_77 : decode cX4_ticks 77 = .ok (.iload_n 2, 1) := by decide +kernel
theorem dX4_ticks_78 : decode cX4_ticks 78 = .ok (.invokevirtual 120, 3) := by decide +kernel
theorem dX4_ticks_81 : decode cX4_ticks 81 = .ok (.ireturn, 1) := by decide +kernel
theorem dX4_ticks_82 : decode cX4_ticks 82 = .ok (.iconst (-1), 1) := by decide +kernel
theorem dX4_ticks_83 : decode cX4_ticks 83 = .ok (.ireturn, 1) := by decide +kernel
set_option maxRecDepth 20000 in
theorem ggX4_go_X2_hasPlace : GoodIn wsX4_go wsX2_hasPlace := goodIn_r _ [6, 7, 8, 9, 5, 10, 11, 12, 13, 14, 62, 63, 64, 65, 66, 67, 68, 69, 70, 71, 72, 73, 74, 75] (by decide +kernel) (by decide +kernel)
set_option maxRecDepth 20000 in
theorem gX4_go_X2_hasPlace : GoodIn wsX4_go (wsV RX4 94 RX2 yX2_hasPlace wsX2_hasPlace) := goodIn_app (goodIn_of _ (by decide +kernel)) ggX4_go_X2_hasPlace
set_option maxRecDepth 20000 in
theorem ggX4_go_X2_goTo : GoodIn wsX4_go wsX2_goTo := goodIn_r _ [18, 19, 20, 21, 22, 23, 5, 24, 25, 26, 27, 28, 29, 30, 31, 32, 33, 34, 35, 7, 8, 9, 10, 11, 36, 37, 38, 39, 40, 41, 42, 43, 44, 45, 46, 47, 48, 13, 49, 62, 63, 64, 65, 66, 67, 68, 69, 70, 71, 72, 73, 74, 75] (by decide +kernel) (by decide +kernel)
set_option maxRecDepth 20000 in
theorem gX4_go_X2_goTo : GoodIn wsX4_go (wsV RX4 123 RX2 yX2_goTo wsX2_goTo) := goodIn_app (goodIn_of _ (by decide +kernel)) ggX4_go_X2_goTo
theorem dX4_go_0 : decode cX4_go 0 = .ok (.aload_n 0, 1) := by decide +kernel
theorem dX4_go_1 : decode cX4_go 1 = .ok (.getfield 10, 3) := by decide +kernel
theorem dX4_go_4 : decode cX4_go 4 = .ok (.iload_n 1, 1) := by decide +kernel
theorem dX4_go_5 : decode cX4_go 5 = .ok (.invokevirtual 94, 3) := by decide +kernel
theorem dX4_go_8 : decode cX4_go 8 = .ok (.ifCond .eq 14, 3) := by decide +kernel
theorem dX4_go_11 : decode cX4_go 11 = .ok (.aload_n 0, 1) := by decide +kernel
theorem dX4_go_12 : decode cX4_go 12 = .ok (.getfield 10, 3) := by decide +kernel
theorem dX4_go_15 : decode cX4_go 15 = .ok (.iload_n 1, 1) := by decide +kernel
theorem dX4_go_16 : decode cX4_go 16 = .ok (.invokevirtual 123, 3) := by decide +kernel
theorem dX4_go_19 : decode cX4_go 19 = .ok (.goto 4, 3) := by decide +kernel
theorem dX4_go_22 : decode cX4_go 22 = .ok (.iconst (-1), 1) := by decide +kernel
theorem dX4_go_23 : decode cX4_go 23 = .ok (.ireturn, 1) := by decide +kernel
set_option maxRecDepth 20000 in
theorem ggX4_now_X2_rightTurns : GoodIn wsX4_now wsX2_rightTurns := goodIn_r _ [11, 12, 13, 14, 10, 15, 16, 17, 18, 19, 20, 21, 22, 23, 66, 67, 68, 69, 70, 71, 72, 73, 74, 75, 76, 77, 78, 79] (by decide +kernel) (by decide +kernel)
set_option maxRecDepth 20000 in
theorem gX4_now_X2_rightTurns : GoodIn wsX4_now (wsV RX4 101 RX2 yX2_rightTurns wsX2_rightTurns) := goodIn_app (goodIn_of _ (by decide +kernel)) ggX4_now_X2_rightTurns
set_option maxRecDepth 20000 in
theorem ggX4_now_X2_ruled : GoodIn wsX4_now wsX2_ruled := goodIn_r _ [19, 20, 66, 67, 68, 69, 70, 71, 72, 73, 74, 75, 76, 77, 78, 79] (by decide +kernel) (by decide +kernel)
set_option maxRecDepth 20000 in
theorem gX4_now_X2_ruled : GoodIn wsX4_now (wsV RX4 90 RX2 yX2_ruled wsX2_ruled) := goodIn_app (goodIn_of _ (by decide +kernel)) ggX4_now_X2_ruled
set_option maxRecDepth 20000 in
theorem ggX4_now_X2_endOf : GoodIn wsX4_now wsX2_endOf := goodIn_r _ [28, 29, 30, 31, 10, 32, 33, 34, 22, 35, 36, 37, 38, 39, 40, 41, 42, 43, 44, 45, 46, 47, 48, 49, 50, 51, 16, 17, 18, 19, 20, 52, 53, 66, 67, 68, 69, 70, 71, 72, 73, 74, 75, 76, 77, 78, 79] (by decide +kernel) (by decide +kernel)
set_option maxRecDepth 20000 in
theorem gX4_now_X2_endOf : GoodIn wsX4_now (wsV RX4 141 RX2 yX2_endOf wsX2_endOf) := goodIn_app (goodIn_of _ (by decide +kernel)) ggX4_now_X2_endOf
theorem dX4_now_0 : decode cX4_now 0 = .ok (.iload_n 1, 1) := by decide +kernel
theorem dX4_now_1 : decode cX4_now 1 = .ok (.tableswitch 112 0 5 #[39, 47, 55, 70, 78, 86], 39) := by decide +kernel
theorem dX4_now_40 : decode cX4_now 40 = .ok (.aload_n 0, 1) := by decide +kernel
theorem dX4_now_41 : decode cX4_now 41 = .ok (.getfield 10, 3) := by decide +kernel
theorem dX4_now_44 : decode cX4_now 44 = .ok (.getfield 126, 3) := by decide +kernel
theorem dX4_now_47 : decode cX4_now 47 = .ok (.ireturn, 1) := by decide +kernel
theorem dX4_now_48 : decode cX4_now 48 = .ok (.aload_n 0, 1) := by decide +kernel
theorem dX4_now_49 : decode cX4_now 49 = .ok (.getfield 10, 3) := by decide +kernel
theorem dX4_now_52 : decode cX4_now 52 = .ok (.getfield 129, 3) := by decide +kernel
theorem dX4_now_55 : decode cX4_now 55 = .ok (.ireturn, 1) := by decide +kernel
theorem dX4_now_56 : decode cX4_now 56 = .ok (.aload_n 0, 1) := by decide +kernel
theorem dX4_now_57 : decode cX4_now 57 = .ok (.getfield 10, 3) := by decide +kernel
theorem dX4_now_60 : decode cX4_now 60 = .ok (.aload_n 0, 1) := by decide +kernel
theorem dX4_now_61 : decode cX4_now 61 = .ok (.getfield 10, 3) := by decide +kernel
theorem dX4_now_64 : decode cX4_now 64 = .ok (.getfield 126, 3) := by decide +kernel
theorem dX4_now_67 : decode cX4_now 67 = .ok (.invokevirtual 101, 3) := by decide +kernel
theorem dX4_now_70 : decode cX4_now 70 = .ok (.ireturn, 1) := by decide +kernel
theorem dX4_now_71 : decode cX4_now 71 = .ok (.aload_n 0, 1) := by decide +kernel
theorem dX4_now_72 : decode cX4_now 72 = .ok (.getfield 10, 3) := by decide +kernel
theorem dX4_now_75 : decode cX4_now 75 = .ok (.getfield 132, 3) := by decide +kernel
theorem dX4_now_78 : decode cX4_now 78 = .ok (.ireturn, 1) := by decide +kernel
theorem dX4_now_79 : decode cX4_now 79 = .ok (.aload_n 0, 1) := by decide +kernel
theorem dX4_now_80 : decode cX4_now 80 = .ok (.getfield 10, 3) := by decide +kernel
theorem dX4_now_83 : decode cX4_now 83 = .ok (.getfield 135, 3) := by decide +kernel
theorem dX4_now_86 : decode cX4_now 86 = .ok (.ireturn, 1) := by decide +kernel
theorem dX4_now_87 : decode cX4_now 87 = .ok (.aload_n 0, 1) := by decide +kernel
theorem dX4_now_88 : decode cX4_now 88 = .ok (.getfield 10, 3) := by decide +kernel
theorem dX4_now_91 : decode cX4_now 91 = .ok (.iconst 0, 1) := by decide +kernel
theorem dX4_now_92 : decode cX4_now 92 = .ok (.invokevirtual 90, 3) := by decide +kernel
theorem dX4_now_95 : decode cX4_now 95 = .ok (.aload_n 0, 1) := by decide +kernel
theorem dX4_now_96 : decode cX4_now 96 = .ok (.getfield 10, 3) := by decide +kernel
theorem dX4_now_99 : decode cX4_now 99 = .ok (.aload_n 0, 1) := by decide +kernel
theorem dX4_now_100 : decode cX4_now 100 = .ok (.getfield 10, 3) := by decide +kernel
theorem dX4_now_103 : decode cX4_now 103 = .ok (.getfield 138, 3) := by decide +kernel
theorem dX4_now_106 : decode cX4_now 106 = .ok (.iconst 1, 1) := by decide +kernel
theorem dX4_now_107 : decode cX4_now 107 = .ok (.isub, 1) := by decide +kernel
theorem dX4_now_108 : decode cX4_now 108 = .ok (.invokevirtual 141, 3) := by decide +kernel
theorem dX4_now_111 : decode cX4_now 111 = .ok (.isub, 1) := by decide +kernel
theorem dX4_now_112 : decode cX4_now 112 = .ok (.ireturn, 1) := by decide +kernel
theorem dX4_now_113 : decode cX4_now 113 = .ok (.iconst (-1), 1) := by decide +kernel
theorem dX4_now_114 : decode cX4_now 114 = .ok (.ireturn, 1) := by decide +kernel
set_option maxRecDepth 20000 in
theorem ggX4_within_X4_isBetween : GoodIn wsX4_within wsX4_isBetween := goodIn_r _ [7] (by decide +kernel) (by decide +kernel)
set_option maxRecDepth 20000 in
theorem gX4_within_X4_isBetween : GoodIn wsX4_within (va_wsS RX4 69 yX4_isBetween wsX4_isBetween) := goodIn_app (goodIn_of _ (by decide +kernel)) ggX4_within_X4_isBetween
set_option maxRecDepth 20000 in
theorem ggX4_within_X2_reach : GoodIn wsX4_within wsX2_reach := goodIn_r _ [12, 13, 14, 15, 16, 11, 17, 18, 19, 20, 21, 22, 23, 24, 25, 26, 27, 28, 29, 30, 31, 32, 33, 34, 35, 36, 37, 38, 39, 40, 41, 42, 43, 44, 45, 46, 6, 47, 61, 62, 63, 64, 65, 66, 67, 68, 69, 70, 71, 72, 73, 74] (by decide +kernel) (by decide +kernel)
set_option maxRecDepth 20000 in
theorem gX4_within_X2_reach : GoodIn wsX4_within (wsV RX4 145 RX2 yX2_reach wsX2_reach) := goodIn_app (goodIn_of _ (by decide +kernel)) ggX4_within_X2_reach
set_option maxRecDepth 20000 in
theorem ggX4_within_X2_ruled : GoodIn wsX4_within wsX2_ruled := goodIn_r _ [32, 33, 61, 62, 63, 64, 65, 66, 67, 68, 69, 70, 71, 72, 73, 74] (by decide +kernel) (by decide +kernel)
set_option maxRecDepth 20000 in
theorem gX4_within_X2_ruled : GoodIn wsX4_within (wsV RX4 90 RX2 yX2_ruled wsX2_ruled) := goodIn_app (goodIn_of _ (by decide +kernel)) ggX4_within_X2_ruled
theorem dX4_within_0 : decode cX4_within 0 = .ok (.iload_n 1, 1) := by decide +kernel
theorem dX4_within_1 : decode cX4_within 1 = .ok (.iconst 0, 1) := by decide +kernel
theorem dX4_within_2 : decode cX4_within 2 = .ok (.ldc 144, 2) := by decide +kernel
theorem dX4_within_4 : decode cX4_within 4 = .ok (.invokestatic 69, 3) := by decide +kernel
theorem dX4_within_7 : decode cX4_within 7 = .ok (.ifCond .ne 5, 3) := by decide +kernel
theorem dX4_within_10 : decode cX4_within 10 = .ok (.iconst (-1), 1) := by decide +kernel
theorem dX4_within_11 : decode cX4_within 11 = .ok (.ireturn, 1) := by decide +kernel
theorem dX4_within_12 : decode cX4_within 12 = .ok (.aload_n 0, 1) := by decide +kernel
theorem dX4_within_13 : decode cX4_within 13 = .ok (.getfield 10, 3) := by decide +kernel
theorem dX4_within_16 : decode cX4_within 16 = .ok (.getfield 126, 3) := by decide +kernel
theorem dX4_within_19 : decode cX4_within 19 = .ok (.iload_n 2, 1) := by decide +kernel
theorem dX4_within_20 : decode cX4_within 20 = .ok (.ifCond .eq 23, 3) := by decide +kernel
theorem dX4_within_23 : decode cX4_within 23 = .ok (.aload_n 0, 1) := by decide +kernel
theorem dX4_within_24 : decode cX4_within 24 = .ok (.getfield 10, 3) := by decide +kernel
theorem dX4_within_27 : decode cX4_within 27 = .ok (.iload_n 1, 1) := by decide +kernel
theorem dX4_within_28 : decode cX4_within 28 = .ok (.aload_n 0, 1) := by decide +kernel
theorem dX4_within_29 : decode cX4_within 29 = .ok (.getfield 10, 3) := by decide +kernel
theorem dX4_within_32 : decode cX4_within 32 = .ok (.getfield 126, 3) := by decide +kernel
theorem dX4_within_35 : decode cX4_within 35 = .ok (.iconst (-1), 1) := by decide +kernel
theorem dX4_within_36 : decode cX4_within 36 = .ok (.invokevirtual 145, 3) := by decide +kernel
theorem dX4_within_39 : decode cX4_within 39 = .ok (.ineg, 1) := by decide +kernel
theorem dX4_within_40 : decode cX4_within 40 = .ok (.goto 28, 3) := by decide +kernel
theorem dX4_within_43 : decode cX4_within 43 = .ok (.aload_n 0, 1) := by decide +kernel
theorem dX4_within_44 : decode cX4_within 44 = .ok (.getfield 10, 3) := by decide +kernel
theorem dX4_within_47 : decode cX4_within 47 = .ok (.iload_n 1, 1) := by decide +kernel
theorem dX4_within_48 : decode cX4_within 48 = .ok (.aload_n 0, 1) := by decide +kernel
theorem dX4_within_49 : decode cX4_within 49 = .ok (.getfield 10, 3) := by decide +kernel
theorem dX4_within_52 : decode cX4_within 52 = .ok (.iconst 0, 1) := by decide +kernel
theorem dX4_within_53 : decode cX4_within 53 = .ok (.invokevirtual 90, 3) := by decide +kernel
theorem dX4_within_56 : decode cX4_within 56 = .ok (.aload_n 0, 1) := by decide +kernel
theorem dX4_within_57 : decode cX4_within 57 = .ok (.getfield 10, 3) := by decide +kernel
theorem dX4_within_60 : decode cX4_within 60 = .ok (.getfield 126, 3) := by decide +kernel
theorem dX4_within_63 : decode cX4_within 63 = .ok (.isub, 1) := by decide +kernel
theorem dX4_within_64 : decode cX4_within 64 = .ok (.iconst 1, 1) := by decide +kernel
theorem dX4_within_65 : decode cX4_within 65 = .ok (.invokevirtual 145, 3) := by decide +kernel
theorem dX4_within_68 : decode cX4_within 68 = .ok (.iadd, 1) := by decide +kernel
theorem dX4_within_69 : decode cX4_within 69 = .ok (.ireturn, 1) := by decide +kernel
set_option maxRecDepth 20000 in
theorem ggX4_block_X2_hasBlock : GoodIn wsX4_block wsX2_hasBlock := goodIn_r _ [6, 7, 8, 9, 10, 66, 67, 68, 69, 70, 71, 72, 73, 74, 75, 76, 77, 78, 79] (by decide +kernel) (by decide +kernel)
set_option maxRecDepth 20000 in
theorem gX4_block_X2_hasBlock : GoodIn wsX4_block (wsV RX4 149 RX2 yX2_hasBlock wsX2_hasBlock) := goodIn_app (goodIn_of _ (by decide +kernel)) ggX4_block_X2_hasBlock
set_option maxRecDepth 20000 in
theorem ggX4_block_X2_beginOf : GoodIn wsX4_block wsX2_beginOf := goodIn_r _ [14, 15, 16, 9, 17, 66, 67, 68, 69, 70, 71, 72, 73, 74, 75, 76, 77, 78, 79] (by decide +kernel) (by decide +kernel)
set_option maxRecDepth 20000 in
theorem gX4_block_X2_beginOf : GoodIn wsX4_block (wsV RX4 152 RX2 yX2_beginOf wsX2_beginOf) := goodIn_app (goodIn_of _ (by decide +kernel)) ggX4_block_X2_beginOf
set_option maxRecDepth 20000 in
theorem ggX4_block_X2_longOf : GoodIn wsX4_block wsX2_longOf := goodIn_r _ [21, 22, 23, 24, 5, 25, 26, 16, 9, 17, 27, 28, 29, 30, 31, 32, 33, 34, 35, 36, 37, 66, 67, 68, 69, 70, 71, 72, 73, 74, 75, 76, 77, 78, 79] (by decide +kernel) (by decide +kernel)
set_option maxRecDepth 20000 in
theorem gX4_block_X2_longOf : GoodIn wsX4_block (wsV RX4 155 RX2 yX2_longOf wsX2_longOf) := goodIn_app (goodIn_of _ (by decide +kernel)) ggX4_block_X2_longOf
set_option maxRecDepth 20000 in
theorem ggX4_block_X2_sizeOf : GoodIn wsX4_block wsX2_sizeOf := goodIn_r _ [25, 26, 16, 9, 17, 66, 67, 68, 69, 70, 71, 72, 73, 74, 75, 76, 77, 78, 79] (by decide +kernel) (by decide +kernel)
set_option maxRecDepth 20000 in
theorem gX4_block_X2_sizeOf : GoodIn wsX4_block (wsV RX4 158 RX2 yX2_sizeOf wsX2_sizeOf) := goodIn_app (goodIn_of _ (by decide +kernel)) ggX4_block_X2_sizeOf
set_option maxRecDepth 20000 in
theorem ggX4_block_X2_isMark : GoodIn wsX4_block wsX2_isMark := goodIn_r _ [42, 22, 23, 24, 5, 25, 26, 16, 9, 17, 66, 67, 68, 69, 70, 71, 72, 73, 74, 75, 76, 77, 78, 79] (by decide +kernel) (by decide +kernel)
set_option maxRecDepth 20000 in
theorem gX4_block_X2_isMark : GoodIn wsX4_block (wsV RX4 161 RX2 yX2_isMark wsX2_isMark) := goodIn_app (goodIn_of _ (by decide +kernel)) ggX4_block_X2_isMark
set_option maxRecDepth 20000 in
theorem ggX4_block_X2_columnOf : GoodIn wsX4_block wsX2_columnOf := goodIn_r _ [46, 47, 16, 9, 17, 66, 67, 68, 69, 70, 71, 72, 73, 74, 75, 76, 77, 78, 79] (by decide +kernel) (by decide +kernel)
set_option maxRecDepth 20000 in
theorem gX4_block_X2_columnOf : GoodIn wsX4_block (wsV RX4 164 RX2 yX2_columnOf wsX2_columnOf) := goodIn_app (goodIn_of _ (by decide +kernel)) ggX4_block_X2_columnOf
set_option maxRecDepth 20000 in
theorem ggX4_block_X2_endOf : GoodIn wsX4_block wsX2_endOf := goodIn_r _ [51, 52, 3, 4, 5, 6, 7, 8, 9, 10, 53, 12, 13, 14, 15, 16, 17, 22, 23, 24, 25, 26, 27, 28, 29, 30, 31, 32, 33, 34, 35, 36, 37, 66, 67, 68, 69, 70, 71, 72, 73, 74, 75, 76, 77, 78, 79] (by decide +kernel) (by decide +kernel)
set_option maxRecDepth 20000 in
theorem gX4_block_X2_endOf : GoodIn wsX4_block (wsV RX4 141 RX2 yX2_endOf wsX2_endOf) := goodIn_app (goodIn_of _ (by decide +kernel)) ggX4_block_X2_endOf
theorem dX4_block_0 : decode cX4_block 0 = .ok (.aload_n 0, 1) := by decide +kernel
theorem dX4_block_1 : decode cX4_block 1 = .ok (.getfield 10, 3) := by decide +kernel
theorem dX4_block_4 : decode cX4_block 4 = .ok (.iload_n 1, 1) := by decide +kernel
theorem dX4_block_5 : decode cX4_block 5 = .ok (.invokevirtual 149, 3) := by decide +kernel
theorem dX4_block_8 : decode cX4_block 8 = .ok (.ifCond .ne 5, 3) := by decide +kernel
theorem dX4_block_11 : decode cX4_block 11 = .ok (.iconst (-1), 1) := by decide +kernel
theorem dX4_block_12 : decode cX4_block 12 = .ok (.ireturn, 1) := by decide +kernel
theorem dX4_block_13 : decode cX4_block 13 = .ok (.iload_n 2, 1) := by decide +kernel
theorem dX4_block_14 : decode cX4_block 14 = .ok (.tableswitch 102 0 4 #[34, 43, 52, 61, 93], 34) := by decide +kernel
theorem dX4_block_48 : decode cX4_block 48 = .ok (.aload_n 0, 1) := by decide +kernel
theorem dX4_block_49 : decode cX4_block 49 = .ok (.getfield 10, 3) := by decide +kernel
theorem dX4_block_52 : decode cX4_block 52 = .ok (.iload_n 1, 1) := by decide +kernel
theorem dX4_block_53 : decode cX4_block 53 = .ok (.invokevirtual 152, 3) := by decide +kernel
theorem dX4_block_56 : decode cX4_block 56 = .ok (.ireturn, 1) := by decide +kernel
theorem dX4_block_57 : decode cX4_block 57 = .ok (.aload_n 0, 1) := by decide +kernel
theorem dX4_block_58 : decode cX4_block 58 = .ok (.getfield 10, 3) := by decide +kernel
theorem dX4_block_61 : decode cX4_block 61 = .ok (.iload_n 1, 1) := by decide +kernel
theorem dX4_block_62 : decode cX4_block 62 = .ok (.invokevirtual 155, 3) := by decide +kernel
theorem dX4_block_65 : decode cX4_block 65 = .ok (.ireturn, 1) := by decide +kernel
theorem dX4_block_66 : decode cX4_block 66 = .ok (.aload_n 0, 1) := by decide +kernel
theorem dX4_block_67 : decode cX4_block 67 = .ok (.getfield 10, 3) := by decide +kernel
theorem dX4_block_70 : decode cX4_block 70 = .ok (.iload_n 1, 1) := by decide +kernel
theorem dX4_block_71 : decode cX4_block 71 = .ok (.invokevirtual 158, 3) := by decide +kernel
theorem dX4_block_74 : decode cX4_block 74 = .ok (.ireturn, 1) := by decide +kernel
theorem dX4_block_75 : decode cX4_block 75 = .ok (.aload_n 0, 1) := by decide +kernel
theorem dX4_block_76 : decode cX4_block 76 = .ok (.getfield 10, 3) := by decide +kernel
theorem dX4_block_79 : decode cX4_block 79 = .ok (.iload_n 1, 1) := by decide +kernel
theorem dX4_block_80 : decode cX4_block 80 = .ok (.invokevirtual 161, 3) := by decide +kernel
theorem dX4_block_83 : decode cX4_block 83 = .ok (.ifCond .eq 7, 3) := by decide +kernel
theorem dX4_block_86 : decode cX4_block 86 = .ok (.iconst 0, 1) := by decide +kernel
theorem dX4_block_87 : decode cX4_block 87 = .ok (.goto 19, 3) := by decide +kernel
theorem dX4_block_90 : decode cX4_block 90 = .ok (.aload_n 0, 1) := by decide +kernel
theorem dX4_block_91 : decode cX4_block 91 = .ok (.getfield 10, 3) := by decide +kernel
theorem dX4_block_94 : decode cX4_block 94 = .ok (.iload_n 1, 1) := by decide +kernel
theorem dX4_block_95 : decode cX4_block 95 = .ok (.aload_n 0, 1) := by decide +kernel
theorem dX4_block_96 : decode cX4_block 96 = .ok (.getfield 10, 3) := by decide +kernel
theorem dX4_block_99 : decode cX4_block 99 = .ok (.iload_n 1, 1) := by decide +kernel
theorem dX4_block_100 : decode cX4_block 100 = .ok (.invokevirtual 158, 3) := by decide +kernel
theorem dX4_block_103 : decode cX4_block 103 = .ok (.invokevirtual 164, 3) := by decide +kernel
theorem dX4_block_106 : decode cX4_block 106 = .ok (.ireturn, 1) := by decide +kernel
theorem dX4_block_107 : decode cX4_block 107 = .ok (.aload_n 0, 1) := by decide +kernel
theorem dX4_block_108 : decode cX4_block 108 = .ok (.getfield 10, 3) := by decide +kernel
theorem dX4_block_111 : decode cX4_block 111 = .ok (.iload_n 1, 1) := by decide +kernel
theorem dX4_block_112 : decode cX4_block 112 = .ok (.invokevirtual 141, 3) := by decide +kernel
theorem dX4_block_115 : decode cX4_block 115 = .ok (.ireturn, 1) := by decide +kernel
theorem dX4_block_116 : decode cX4_block 116 = .ok (.iconst (-1), 1) := by decide +kernel
theorem dX4_block_117 : decode cX4_block 117 = .ok (.ireturn, 1) := by decide +kernel
set_option maxRecDepth 20000 in
theorem ggX4_blockAt_X2_hasPlace : GoodIn wsX4_blockAt wsX2_hasPlace := goodIn_r _ [6, 7, 8, 9, 5, 10, 11, 12, 13, 14, 58, 59, 60, 61, 62, 63, 64, 65, 66, 67, 68, 69, 70, 71] (by decide +kernel) (by decide +kernel)
set_option maxRecDepth 20000 in
theorem gX4_blockAt_X2_hasPlace : GoodIn wsX4_blockAt (wsV RX4 94 RX2 yX2_hasPlace wsX2_hasPlace) := goodIn_app (goodIn_of _ (by decide +kernel)) ggX4_blockAt_X2_hasPlace
set_option maxRecDepth 20000 in
theorem ggX4_blockAt_X2_blockWith : GoodIn wsX4_blockAt wsX2_blockWith := goodIn_r _ [18, 19, 20, 21, 22, 5, 23, 24, 25, 13, 26, 27, 28, 29, 30, 31, 32, 33, 34, 12, 14, 35, 36, 37, 38, 39, 40, 41, 42, 43, 7, 8, 9, 10, 11, 44, 45, 58, 59, 60, 61, 62, 63, 64, 65, 66, 67, 68, 69, 70, 71] (by decide +kernel) (by decide +kernel)
set_option maxRecDepth 20000 in
theorem gX4_blockAt_X2_blockWith : GoodIn wsX4_blockAt (wsV RX4 167 RX2 yX2_blockWith wsX2_blockWith) := goodIn_app (goodIn_of _ (by decide +kernel)) ggX4_blockAt_X2_blockWith
theorem dX4_blockAt_0 : decode cX4_blockAt 0 = .ok (.aload_n 0, 1) := by decide +kernel
theorem dX4_blockAt_1 : decode cX4_blockAt 1 = .ok (.getfield 10, 3) := by decide +kernel
theorem dX4_blockAt_4 : decode cX4_blockAt 4 = .ok (.iload_n 1, 1) := by decide +kernel
theorem dX4_blockAt_5 : decode cX4_blockAt 5 = .ok (.invokevirtual 94, 3) := by decide +kernel
theorem dX4_blockAt_8 : decode cX4_blockAt 8 = .ok (.ifCond .eq 14, 3) := by decide +kernel
theorem dX4_blockAt_11 : decode cX4_blockAt 11 = .ok (.aload_n 0, 1) := by decide +kernel
theorem dX4_blockAt_12 : decode cX4_blockAt 12 = .ok (.getfield 10, 3) := by decide +kernel
theorem dX4_blockAt_15 : decode cX4_blockAt 15 = .ok (.iload_n 1, 1) := by decide +kernel
theorem dX4_blockAt_16 : decode cX4_blockAt 16 = .ok (.invokevirtual 167, 3) := by decide +kernel
theorem dX4_blockAt_19 : decode cX4_blockAt 19 = .ok (.goto 4, 3) := by decide +kernel
theorem dX4_blockAt_22 : decode cX4_blockAt 22 = .ok (.iconst (-1), 1) := by decide +kernel
theorem dX4_blockAt_23 : decode cX4_blockAt 23 = .ok (.ireturn, 1) := by decide +kernel
set_option maxRecDepth 20000 in
theorem ggX4_type_X4_isBetween : GoodIn wsX4_type wsX4_isBetween := goodIn_r _ [6] (by decide +kernel) (by decide +kernel)
set_option maxRecDepth 20000 in
theorem gX4_type_X4_isBetween : GoodIn wsX4_type (va_wsS RX4 69 yX4_isBetween wsX4_isBetween) := goodIn_app (goodIn_of _ (by decide +kernel)) ggX4_type_X4_isBetween
set_option maxRecDepth 20000 in
theorem ggX4_type_X2_typeOne : GoodIn wsX4_type wsX2_typeOne := goodIn_r _ [11, 12, 13, 14, 5, 15, 28, 29, 30, 31, 32, 33, 34, 35, 36, 37, 38, 39, 40, 41] (by decide +kernel) (by decide +kernel)
set_option maxRecDepth 20000 in
theorem gX4_type_X2_typeOne : GoodIn wsX4_type (wsV RX4 170 RX2 yX2_typeOne wsX2_typeOne) := goodIn_app (goodIn_of _ (by decide +kernel)) ggX4_type_X2_typeOne
theorem dX4_type_0 : decode cX4_type 0 = .ok (.iload_n 1, 1) := by decide +kernel
theorem dX4_type_1 : decode cX4_type 1 = .ok (.iconst 0, 1) := by decide +kernel
theorem dX4_type_2 : decode cX4_type 2 = .ok (.sipush 255, 3) := by decide +kernel
theorem dX4_type_5 : decode cX4_type 5 = .ok (.invokestatic 69, 3) := by decide +kernel
theorem dX4_type_8 : decode cX4_type 8 = .ok (.ifCond .ne 5, 3) := by decide +kernel
theorem dX4_type_11 : decode cX4_type 11 = .ok (.iconst (-1), 1) := by decide +kernel
theorem dX4_type_12 : decode cX4_type 12 = .ok (.ireturn, 1) := by decide +kernel
theorem dX4_type_13 : decode cX4_type 13 = .ok (.aload_n 0, 1) := by decide +kernel
theorem dX4_type_14 : decode cX4_type 14 = .ok (.getfield 10, 3) := by decide +kernel
theorem dX4_type_17 : decode cX4_type 17 = .ok (.getfield 135, 3) := by decide +kernel
theorem dX4_type_20 : decode cX4_type 20 = .ok (.bipush 12, 2) := by decide +kernel
theorem dX4_type_22 : decode cX4_type 22 = .ok (.if_icmp .lt 6, 3) := by decide +kernel
theorem dX4_type_25 : decode cX4_type 25 = .ok (.bipush (-3), 2) := by decide +kernel
theorem dX4_type_27 : decode cX4_type 27 = .ok (.ireturn, 1) := by decide +kernel
theorem dX4_type_28 : decode cX4_type 28 = .ok (.aload_n 0, 1) := by decide +kernel
theorem dX4_type_29 : decode cX4_type 29 = .ok (.getfield 10, 3) := by decide +kernel
theorem dX4_type_32 : decode cX4_type 32 = .ok (.iload_n 1, 1) := by decide +kernel
theorem dX4_type_33 : decode cX4_type 33 = .ok (.invokevirtual 170, 3) := by decide +kernel
theorem dX4_type_36 : decode cX4_type 36 = .ok (.ireturn, 1) := by decide +kernel
set_option maxRecDepth 20000 in
theorem ggX4_write_X4_isBetween : GoodIn wsX4_write wsX4_isBetween := goodIn_r _ [7] (by decide +kernel) (by decide +kernel)
set_option maxRecDepth 20000 in
theorem gX4_write_X4_isBetween : GoodIn wsX4_write (va_wsS RX4 69 yX4_isBetween wsX4_isBetween) := goodIn_app (goodIn_of _ (by decide +kernel)) ggX4_write_X4_isBetween
set_option maxRecDepth 20000 in
theorem ggX4_write_X2_hasRoomAt : GoodIn wsX4_write wsX2_hasRoomAt := goodIn_r _ [12, 13, 14, 15, 11, 16, 17, 18, 19, 20, 21, 22, 23, 24, 25, 5, 6, 7, 26, 27, 28, 29, 30, 31, 32, 33, 34, 35, 36, 37, 38, 39, 40, 41, 42, 43, 44, 45, 46, 47, 48, 116, 117, 118, 119, 120, 121, 122, 123, 124, 125, 126, 127, 128, 129] (by decide +kernel) (by decide +kernel)
set_option maxRecDepth 20000 in
theorem gX4_write_X2_hasRoomAt : GoodIn wsX4_write (wsV RX4 173 RX2 yX2_hasRoomAt wsX2_hasRoomAt) := goodIn_app (goodIn_of _ (by decide +kernel)) ggX4_write_X2_hasRoomAt
set_option maxRecDepth 20000 in
theorem ggX4_write_X2_writeAt : GoodIn wsX4_write wsX2_writeAt := goodIn_r _ [52, 53, 54, 13, 14, 15, 11, 16, 17, 18, 19, 20, 21, 22, 23, 24, 25, 5, 6, 7, 26, 27, 28, 29, 30, 31, 32, 33, 34, 35, 36, 37, 38, 39, 40, 41, 42, 43, 44, 45, 46, 47, 48, 55, 56, 57, 58, 59, 60, 61, 62, 63, 64, 65, 66, 67, 68, 69, 70, 71, 72, 73, 74, 75, 76, 77, 78, 79, 80, 81, 82, 83, 84, 85, 86, 87, 88, 89, 90, 91, 92, 93, 94, 95, 96, 97, 98, 99, 100, 101, 102, 103, 116, 117, 118, 119, 120, 121, 122, 123, 124, 125, 126, 127, 128, 129] (by decide +kernel) (by decide +kernel)
set_option maxRecDepth 20000 in
theorem gX4_write_X2_writeAt : GoodIn wsX4_write (wsV RX4 177 RX2 yX2_writeAt wsX2_writeAt) := goodIn_app (goodIn_of _ (by decide +kernel)) ggX4_write_X2_writeAt
theorem dX4_write_0 : decode cX4_write 0 = .ok (.iload_n 1, 1) := by decide +kernel
theorem dX4_write_1 : decode cX4_write 1 = .ok (.iconst 0, 1) := by decide +kernel
theorem dX4_write_2 : decode cX4_write 2 = .ok (.aload_n 0, 1) := by decide +kernel
theorem dX4_write_3 : decode cX4_write 3 = .ok (.getfield 10, 3) := by decide +kernel
theorem dX4_write_6 : decode cX4_write 6 = .ok (.getfield 138, 3) := by decide +kernel
theorem dX4_write_9 : decode cX4_write 9 = .ok (.invokestatic 69, 3) := by decide +kernel
theorem dX4_write_12 : decode cX4_write 12 = .ok (.ifCond .ne 5, 3) := by decide +kernel
theorem dX4_write_15 : decode cX4_write 15 = .ok (.iconst (-1), 1) := by decide +kernel
theorem dX4_write_16 : decode cX4_write 16 = .ok (.ireturn, 1) := by decide +kernel
theorem dX4_write_17 : decode cX4_write 17 = .ok (.aload_n 0, 1) := by decide +kernel
theorem dX4_write_18 : decode cX4_write 18 = .ok (.getfield 10, 3) := by decide +kernel
theorem dX4_write_21 : decode cX4_write 21 = .ok (.getfield 135, 3) := by decide +kernel
theorem dX4_write_24 : decode cX4_write 24 = .ok (.ifCond .ne 6, 3) := by decide +kernel
theorem dX4_write_27 : decode cX4_write 27 = .ok (.bipush (-2), 2) := by decide +kernel
theorem dX4_write_29 : decode cX4_write 29 = .ok (.ireturn, 1) := by decide +kernel
theorem dX4_write_30 : decode cX4_write 30 = .ok (.aload_n 0, 1) := by decide +kernel
theorem dX4_write_31 : decode cX4_write 31 = .ok (.getfield 10, 3) := by decide +kernel
theorem dX4_write_34 : decode cX4_write 34 = .ok (.iload_n 1, 1) := by decide +kernel
theorem dX4_write_35 : decode cX4_write 35 = .ok (.aload_n 0, 1) := by decide +kernel
theorem dX4_write_36 : decode cX4_write 36 = .ok (.getfield 10, 3) := by decide +kernel
theorem dX4_write_39 : decode cX4_write 39 = .ok (.getfield 135, 3) := by decide +kernel
theorem dX4_write_42 : decode cX4_write 42 = .ok (.invokevirtual 173, 3) := by decide +kernel
theorem dX4_write_45 : decode cX4_write 45 = .ok (.ifCond .ne 6, 3) := by decide +kernel
theorem dX4_write_48 : decode cX4_write 48 = .ok (.bipush (-3), 2) := by decide +kernel
theorem dX4_write_50 : decode cX4_write 50 = .ok (.ireturn, 1) := by decide +kernel
theorem dX4_write_51 : decode cX4_write 51 = .ok (.aload_n 0, 1) := by decide +kernel
theorem dX4_write_52 : decode cX4_write 52 = .ok (.getfield 10, 3) := by decide +kernel
theorem dX4_write_55 : decode cX4_write 55 = .ok (.iload_n 1, 1) := by decide +kernel
theorem dX4_write_56 : decode cX4_write 56 = .ok (.aload_n 0, 1) := by decide +kernel
theorem dX4_write_57 : decode cX4_write 57 = .ok (.getfield 10, 3) := by decide +kernel
theorem dX4_write_60 : decode cX4_write 60 = .ok (.getfield 135, 3) := by decide +kernel
theorem dX4_write_63 : decode cX4_write 63 = .ok (.invokevirtual 177, 3) := by decide +kernel
theorem dX4_write_66 : decode cX4_write 66 = .ok (.istore_n 2, 1) := by decide +kernel
theorem dX4_write_67 : decode cX4_write 67 = .ok (.aload_n 0, 1) := by decide +kernel
theorem dX4_write_68 : decode cX4_write 68 = .ok (.getfield 10, 3) := by decide +kernel
theorem dX4_write_71 : decode cX4_write 71 = .ok (.iconst 0, 1) := by decide +kernel
theorem dX4_write_72 : decode cX4_write 72 = .ok (.putfield 135, 3) := by decide +kernel
theorem dX4_write_75 : decode cX4_write 75 = .ok (.iload_n 2, 1) := by decide +kernel
theorem dX4_write_76 : decode cX4_write 76 = .ok (.ireturn, 1) := by decide +kernel
set_option maxRecDepth 20000 in
theorem ggX4_mark_X4_isBetween : GoodIn wsX4_mark wsX4_isBetween := goodIn_r _ [6] (by decide +kernel) (by decide +kernel)
set_option maxRecDepth 20000 in
theorem gX4_mark_X4_isBetween : GoodIn wsX4_mark (va_wsS RX4 69 yX4_isBetween wsX4_isBetween) := goodIn_app (goodIn_of _ (by decide +kernel)) ggX4_mark_X4_isBetween
set_option maxRecDepth 20000 in
theorem ggX4_mark_X2_hasRoomAt : GoodIn wsX4_mark wsX2_hasRoomAt := goodIn_r _ [11, 12, 13, 14, 10, 15, 16, 17, 18, 19, 20, 21, 22, 23, 24, 4, 5, 6, 25, 26, 27, 28, 29, 30, 31, 32, 33, 34, 35, 36, 37, 38, 39, 40, 41, 42, 43, 44, 45, 46, 47, 115, 116, 117, 118, 119, 120, 121, 122, 123, 124, 125, 126, 127, 128] (by decide +kernel) (by decide +kernel)
set_option maxRecDepth 20000 in
theorem gX4_mark_X2_hasRoomAt : GoodIn wsX4_mark (wsV RX4 173 RX2 yX2_hasRoomAt wsX2_hasRoomAt) := goodIn_app (goodIn_of _ (by decide +kernel)) ggX4_mark_X2_hasRoomAt
set_option maxRecDepth 20000 in
theorem ggX4_mark_X2_writeAt : GoodIn wsX4_mark wsX2_writeAt := goodIn_r _ [51, 52, 53, 12, 13, 14, 10, 15, 16, 17, 18, 19, 20, 21, 22, 23, 24, 4, 5, 6, 25, 26, 27, 28, 29, 30, 31, 32, 33, 34, 35, 36, 37, 38, 39, 40, 41, 42, 43, 44, 45, 46, 47, 54, 55, 56, 57, 58, 59, 60, 61, 62, 63, 64, 65, 66, 67, 68, 69, 70, 71, 72, 73, 74, 75, 76, 77, 78, 79, 80, 81, 82, 83, 84, 85, 86, 87, 88, 89, 90, 91, 92, 93, 94, 95, 96, 97, 98, 99, 100, 101, 102, 115, 116, 117, 118, 119, 120, 121, 122, 123, 124, 125, 126, 127, 128] (by decide +kernel) (by decide +kernel)
set_option maxRecDepth 20000 in
theorem gX4_mark_X2_writeAt : GoodIn wsX4_mark (wsV RX4 177 RX2 yX2_writeAt wsX2_writeAt) := goodIn_app (goodIn_of _ (by decide +kernel)) ggX4_mark_X2_writeAt
theorem dX4_mark_0 : decode cX4_mark 0 = .ok (.iload_n 1, 1) := by decide +kernel
theorem dX4_mark_1 : decode cX4_mark 1 = .ok (.iconst 0, 1) := by decide +kernel
theorem dX4_mark_2 : decode cX4_mark 2 = .ok (.aload_n 0, 1) := by decide +kernel
theorem dX4_mark_3 : decode cX4_mark 3 = .ok (.getfield 10, 3) := by decide +kernel
theorem dX4_mark_6 : decode cX4_mark 6 = .ok (.getfield 138, 3) := by decide +kernel
theorem dX4_mark_9 : decode cX4_mark 9 = .ok (.invokestatic 69, 3) := by decide +kernel
theorem dX4_mark_12 : decode cX4_mark 12 = .ok (.ifCond .ne 5, 3) := by decide +kernel
theorem dX4_mark_15 : decode cX4_mark 15 = .ok (.iconst (-1), 1) := by decide +kernel
theorem dX4_mark_16 : decode cX4_mark 16 = .ok (.ireturn, 1) := by decide +kernel
theorem dX4_mark_17 : decode cX4_mark 17 = .ok (.aload_n 0, 1) := by decide +kernel
theorem dX4_mark_18 : decode cX4_mark 18 = .ok (.getfield 10, 3) := by decide +kernel
theorem dX4_mark_21 : decode cX4_mark 21 = .ok (.iload_n 1, 1) := by decide +kernel
theorem dX4_mark_22 : decode cX4_mark 22 = .ok (.iconst 0, 1) := by decide +kernel
theorem dX4_mark_23 : decode cX4_mark 23 = .ok (.invokevirtual 173, 3) := by decide +kernel
theorem dX4_mark_26 : decode cX4_mark 26 = .ok (.ifCond .ne 6, 3) := by decide +kernel
theorem dX4_mark_29 : decode cX4_mark 29 = .ok (.bipush (-3), 2) := by decide +kernel
theorem dX4_mark_31 : decode cX4_mark 31 = .ok (.ireturn, 1) := by decide +kernel
theorem dX4_mark_32 : decode cX4_mark 32 = .ok (.aload_n 0, 1) := by decide +kernel
theorem dX4_mark_33 : decode cX4_mark 33 = .ok (.getfield 10, 3) := by decide +kernel
theorem dX4_mark_36 : decode cX4_mark 36 = .ok (.iload_n 1, 1) := by decide +kernel
theorem dX4_mark_37 : decode cX4_mark 37 = .ok (.iconst 0, 1) := by decide +kernel
theorem dX4_mark_38 : decode cX4_mark 38 = .ok (.invokevirtual 177, 3) := by decide +kernel
theorem dX4_mark_41 : decode cX4_mark 41 = .ok (.ireturn, 1) := by decide +kernel
set_option maxRecDepth 20000 in
theorem ggX4_spoil_X2_hasColumn : GoodIn wsX4_spoil wsX2_hasColumn := goodIn_r _ [6, 7, 8, 9, 5, 10, 11, 12, 13, 14, 15, 16, 17, 18, 19, 20, 21, 22, 23, 24, 25, 54, 55, 56, 57, 58, 59, 60, 61, 62, 63, 64, 65, 66, 67] (by decide +kernel) (by decide +kernel)
set_option maxRecDepth 20000 in
theorem gX4_spoil_X2_hasColumn : GoodIn wsX4_spoil (wsV RX4 180 RX2 yX2_hasColumn wsX2_hasColumn) := goodIn_app (goodIn_of _ (by decide +kernel)) ggX4_spoil_X2_hasColumn
set_option maxRecDepth 20000 in
theorem ggX4_spoil_X4_isBetween : GoodIn wsX4_spoil wsX4_isBetween := goodIn_r _ [14] (by decide +kernel) (by decide +kernel)
set_option maxRecDepth 20000 in
theorem gX4_spoil_X4_isBetween : GoodIn wsX4_spoil (va_wsS RX4 69 yX4_isBetween wsX4_isBetween) := goodIn_app (goodIn_of _ (by decide +kernel)) ggX4_spoil_X4_isBetween
set_option maxRecDepth 20000 in
theorem ggX4_spoil_X2_turnBit : GoodIn wsX4_spoil wsX2_turnBit := goodIn_r _ [30, 31, 32, 33, 5, 34, 35, 24, 13, 25, 36, 37, 38, 39, 40, 41, 54, 55, 56, 57, 58, 59, 60, 61, 62, 63, 64, 65, 66, 67] (by decide +kernel) (by decide +kernel)
set_option maxRecDepth 20000 in
theorem gX4_spoil_X2_turnBit : GoodIn wsX4_spoil (wsV RX4 183 RX2 yX2_turnBit wsX2_turnBit) := goodIn_app (goodIn_of _ (by decide +kernel)) ggX4_spoil_X2_turnBit
theorem dX4_spoil_0 : decode cX4_spoil 0 = .ok (.aload_n 0, 1) := by decide +kernel
theorem dX4_spoil_1 : decode cX4_spoil 1 = .ok (.getfield 10, 3) := by decide +kernel
theorem dX4_spoil_4 : decode cX4_spoil 4 = .ok (.iload_n 1, 1) := by decide +kernel
theorem dX4_spoil_5 : decode cX4_spoil 5 = .ok (.iload_n 2, 1) := by decide +kernel
theorem dX4_spoil_6 : decode cX4_spoil 6 = .ok (.invokevirtual 180, 3) := by decide +kernel
theorem dX4_spoil_9 : decode cX4_spoil 9 = .ok (.ifCond .eq 13, 3) := by decide +kernel
theorem dX4_spoil_12 : decode cX4_spoil 12 = .ok (.iload_n 3, 1) := by decide +kernel
theorem dX4_spoil_13 : decode cX4_spoil 13 = .ok (.iconst 0, 1) := by decide +kernel
theorem dX4_spoil_14 : decode cX4_spoil 14 = .ok (.bipush 8, 2) := by decide +kernel
theorem dX4_spoil_16 : decode cX4_spoil 16 = .ok (.invokestatic 69, 3) := by decide +kernel
theorem dX4_spoil_19 : decode cX4_spoil 19 = .ok (.ifCond .ne 5, 3) := by decide +kernel
theorem dX4_spoil_22 : decode cX4_spoil 22 = .ok (.iconst (-1), 1) := by decide +kernel
theorem dX4_spoil_23 : decode cX4_spoil 23 = .ok (.ireturn, 1) := by decide +kernel
theorem dX4_spoil_24 : decode cX4_spoil 24 = .ok (.aload_n 0, 1) := by decide +kernel
theorem dX4_spoil_25 : decode cX4_spoil 25 = .ok (.getfield 10, 3) := by decide +kernel
theorem dX4_spoil_28 : decode cX4_spoil 28 = .ok (.iload_n 1, 1) := by decide +kernel
theorem dX4_spoil_29 : decode cX4_spoil 29 = .ok (.iload_n 2, 1) := by decide +kernel
theorem dX4_spoil_30 : decode cX4_spoil 30 = .ok (.iload_n 3, 1) := by decide +kernel
theorem dX4_spoil_31 : decode cX4_spoil 31 = .ok (.invokevirtual 183, 3) := by decide +kernel
theorem dX4_spoil_34 : decode cX4_spoil 34 = .ok (.ireturn, 1) := by decide +kernel
set_option maxRecDepth 20000 in
theorem ggX4_dead_X4_isBetween : GoodIn wsX4_dead wsX4_isBetween := goodIn_r _ [6] (by decide +kernel) (by decide +kernel)
set_option maxRecDepth 20000 in
theorem gX4_dead_X4_isBetween : GoodIn wsX4_dead (va_wsS RX4 69 yX4_isBetween wsX4_isBetween) := goodIn_app (goodIn_of _ (by decide +kernel)) ggX4_dead_X4_isBetween
theorem dX4_dead_0 : decode cX4_dead 0 = .ok (.iload_n 1, 1) := by decide +kernel
theorem dX4_dead_1 : decode cX4_dead 1 = .ok (.bipush (-4), 2) := by decide +kernel
theorem dX4_dead_3 : decode cX4_dead 3 = .ok (.if_icmp .eq 15, 3) := by decide +kernel
theorem dX4_dead_6 : decode cX4_dead 6 = .ok (.iload_n 1, 1) := by decide +kernel
theorem dX4_dead_7 : decode cX4_dead 7 = .ok (.iconst 0, 1) := by decide +kernel
theorem dX4_dead_8 : decode cX4_dead 8 = .ok (.bipush 8, 2) := by decide +kernel
theorem dX4_dead_10 : decode cX4_dead 10 = .ok (.invokestatic 69, 3) := by decide +kernel
theorem dX4_dead_13 : decode cX4_dead 13 = .ok (.ifCond .ne 5, 3) := by decide +kernel
theorem dX4_dead_16 : decode cX4_dead 16 = .ok (.iconst (-1), 1) := by decide +kernel
theorem dX4_dead_17 : decode cX4_dead 17 = .ok (.ireturn, 1) := by decide +kernel
theorem dX4_dead_18 : decode cX4_dead 18 = .ok (.aload_n 0, 1) := by decide +kernel
theorem dX4_dead_19 : decode cX4_dead 19 = .ok (.getfield 10, 3) := by decide +kernel
theorem dX4_dead_22 : decode cX4_dead 22 = .ok (.getfield 132, 3) := by decide +kernel
theorem dX4_dead_25 : decode cX4_dead 25 = .ok (.istore_n 2, 1) := by decide +kernel
theorem dX4_dead_26 : decode cX4_dead 26 = .ok (.aload_n 0, 1) := by decide +kernel
theorem dX4_dead_27 : decode cX4_dead 27 = .ok (.getfield 10, 3) := by decide +kernel
theorem dX4_dead_30 : decode cX4_dead 30 = .ok (.iload_n 1, 1) := by decide +kernel
theorem dX4_dead_31 : decode cX4_dead 31 = .ok (.putfield 132, 3) := by decide +kernel
theorem dX4_dead_34 : decode cX4_dead 34 = .ok (.iload_n 2, 1) := by decide +kernel
theorem dX4_dead_35 : decode cX4_dead 35 = .ok (.ireturn, 1) := by decide +kernel
set_option maxRecDepth 20000 in
theorem ggX4_check_X2_hasBlock : GoodIn wsX4_check wsX2_hasBlock := goodIn_r _ [7, 8, 9, 10, 11, 59, 60, 61, 62, 63, 64, 65, 66, 67, 68, 69, 70, 71, 72] (by decide +kernel) (by decide +kernel)
set_option maxRecDepth 20000 in
theorem gX4_check_X2_hasBlock : GoodIn wsX4_check (wsV RX4 149 RX2 yX2_hasBlock wsX2_hasBlock) := goodIn_app (goodIn_of _ (by decide +kernel)) ggX4_check_X2_hasBlock
set_option maxRecDepth 20000 in
theorem ggX4_check_X2_readingOf : GoodIn wsX4_check wsX2_readingOf := goodIn_r _ [15, 16, 17, 18, 6, 19, 20, 21, 22, 23, 24, 25, 10, 26, 27, 28, 29, 30, 31, 32, 33, 34, 35, 36, 37, 38, 39, 40, 41, 42, 43, 44, 45, 46, 59, 60, 61, 62, 63, 64, 65, 66, 67, 68, 69, 70, 71, 72] (by decide +kernel) (by decide +kernel)
set_option maxRecDepth 20000 in
theorem gX4_check_X2_readingOf : GoodIn wsX4_check (wsV RX4 186 RX2 yX2_readingOf wsX2_readingOf) := goodIn_app (goodIn_of _ (by decide +kernel)) ggX4_check_X2_readingOf
theorem dX4_check_0 : decode cX4_check 0 = .ok (.aload_n 0, 1) := by decide +kernel
theorem dX4_check_1 : decode cX4_check 1 = .ok (.getfield 10, 3) := by decide +kernel
theorem dX4_check_4 : decode cX4_check 4 = .ok (.iload_n 1, 1) := by decide +kernel
theorem dX4_check_5 : decode cX4_check 5 = .ok (.invokevirtual 149, 3) := by decide +kernel
theorem dX4_check_8 : decode cX4_check 8 = .ok (.ifCond .eq 21, 3) := by decide +kernel
theorem dX4_check_11 : decode cX4_check 11 = .ok (.aload_n 0, 1) := by decide +kernel
theorem dX4_check_12 : decode cX4_check 12 = .ok (.getfield 10, 3) := by decide +kernel
theorem dX4_check_15 : decode cX4_check 15 = .ok (.iload_n 1, 1) := by decide +kernel
theorem dX4_check_16 : decode cX4_check 16 = .ok (.aload_n 0, 1) := by decide +kernel
theorem dX4_check_17 : decode cX4_check 17 = .ok (.getfield 10, 3) := by decide +kernel
theorem dX4_check_20 : decode cX4_check 20 = .ok (.getfield 132, 3) := by decide +kernel
theorem dX4_check_23 : decode cX4_check 23 = .ok (.invokevirtual 186, 3) := by decide +kernel
theorem dX4_check_26 : decode cX4_check 26 = .ok (.goto 4, 3) := by decide +kernel
theorem dX4_check_29 : decode cX4_check 29 = .ok (.iconst (-1), 1) := by decide +kernel
theorem dX4_check_30 : decode cX4_check 30 = .ok (.ireturn, 1) := by decide +kernel
set_option maxRecDepth 20000 in
theorem ggX4_got_X2_hasBlock : GoodIn wsX4_got wsX2_hasBlock := goodIn_r _ [7, 8, 9, 10, 11, 66, 67, 68, 69, 70, 71, 72, 73, 74, 75, 76, 77, 78, 79] (by decide +kernel) (by decide +kernel)
set_option maxRecDepth 20000 in
theorem gX4_got_X2_hasBlock : GoodIn wsX4_got (wsV RX4 149 RX2 yX2_hasBlock wsX2_hasBlock) := goodIn_app (goodIn_of _ (by decide +kernel)) ggX4_got_X2_hasBlock
set_option maxRecDepth 20000 in
theorem ggX4_got_X2_sizeOf : GoodIn wsX4_got wsX2_sizeOf := goodIn_r _ [15, 16, 17, 10, 18, 66, 67, 68, 69, 70, 71, 72, 73, 74, 75, 76, 77, 78, 79] (by decide +kernel) (by decide +kernel)
set_option maxRecDepth 20000 in
theorem gX4_got_X2_sizeOf : GoodIn wsX4_got (wsV RX4 158 RX2 yX2_sizeOf wsX2_sizeOf) := goodIn_app (goodIn_of _ (by decide +kernel)) ggX4_got_X2_sizeOf
set_option maxRecDepth 20000 in
theorem ggX4_got_X4_isBetween : GoodIn wsX4_got wsX4_isBetween := goodIn_r _ [11] (by decide +kernel) (by decide +kernel)
set_option maxRecDepth 20000 in
theorem gX4_got_X4_isBetween : GoodIn wsX4_got (va_wsS RX4 69 yX4_isBetween wsX4_isBetween) := goodIn_app (goodIn_of _ (by decide +kernel)) ggX4_got_X4_isBetween
set_option maxRecDepth 20000 in
theorem ggX4_got_X2_readingOf : GoodIn wsX4_got wsX2_readingOf := goodIn_r _ [23, 24, 25, 26, 6, 27, 28, 13, 14, 15, 16, 17, 10, 18, 29, 30, 31, 32, 33, 34, 35, 36, 37, 38, 39, 40, 41, 42, 43, 44, 45, 46, 47, 48, 66, 67, 68, 69, 70, 71, 72, 73, 74, 75, 76, 77, 78, 79] (by decide +kernel) (by decide +kernel)
set_option maxRecDepth 20000 in
theorem gX4_got_X2_readingOf : GoodIn wsX4_got (wsV RX4 186 RX2 yX2_readingOf wsX2_readingOf) := goodIn_app (goodIn_of _ (by decide +kernel)) ggX4_got_X2_readingOf
set_option maxRecDepth 20000 in
theorem ggX4_got_X2_byteAsRead : GoodIn wsX4_got wsX2_byteAsRead := goodIn_r _ [52, 53, 33, 34, 35, 6, 36, 37, 17, 10, 18, 29, 30, 31, 32, 38, 39, 40, 41, 42, 43, 44, 45, 46, 47, 48, 28, 13, 14, 15, 16, 66, 67, 68, 69, 70, 71, 72, 73, 74, 75, 76, 77, 78, 79] (by decide +kernel) (by decide +kernel)
set_option maxRecDepth 20000 in
theorem gX4_got_X2_byteAsRead : GoodIn wsX4_got (wsV RX4 189 RX2 yX2_byteAsRead wsX2_byteAsRead) := goodIn_app (goodIn_of _ (by decide +kernel)) ggX4_got_X2_byteAsRead
theorem dX4_got_0 : decode cX4_got 0 = .ok (.aload_n 0, 1) := by decide +kernel
theorem dX4_got_1 : decode cX4_got 1 = .ok (.getfield 10, 3) := by decide +kernel
theorem dX4_got_4 : decode cX4_got 4 = .ok (.iload_n 1, 1) := by decide +kernel
theorem dX4_got_5 : decode cX4_got 5 = .ok (.invokevirtual 149, 3) := by decide +kernel
theorem dX4_got_8 : decode cX4_got 8 = .ok (.ifCond .eq 21, 3) := by decide +kernel
theorem dX4_got_11 : decode cX4_got 11 = .ok (.iload_n 2, 1) := by decide +kernel
theorem dX4_got_12 : decode cX4_got 12 = .ok (.iconst 0, 1) := by decide +kernel
theorem dX4_got_13 : decode cX4_got 13 = .ok (.aload_n 0, 1) := by decide +kernel
theorem dX4_got_14 : decode cX4_got 14 = .ok (.getfield 10, 3) := by decide +kernel
theorem dX4_got_17 : decode cX4_got 17 = .ok (.iload_n 1, 1) := by decide +kernel
theorem dX4_got_18 : decode cX4_got 18 = .ok (.invokevirtual 158, 3) := by decide +kernel
theorem dX4_got_21 : decode cX4_got 21 = .ok (.iconst 1, 1) := by decide +kernel
theorem dX4_got_22 : decode cX4_got 22 = .ok (.isub, 1) := by decide +kernel
theorem dX4_got_23 : decode cX4_got 23 = .ok (.invokestatic 69, 3) := by decide +kernel
theorem dX4_got_26 : decode cX4_got 26 = .ok (.ifCond .ne 5, 3) := by decide +kernel
theorem dX4_got_29 : decode cX4_got 29 = .ok (.iconst (-1), 1) := by decide +kernel
theorem dX4_got_30 : decode cX4_got 30 = .ok (.ireturn, 1) := by decide +kernel
theorem dX4_got_31 : decode cX4_got 31 = .ok (.aload_n 0, 1) := by decide +kernel
theorem dX4_got_32 : decode cX4_got 32 = .ok (.getfield 10, 3) := by decide +kernel
theorem dX4_got_35 : decode cX4_got 35 = .ok (.iload_n 1, 1) := by decide +kernel
theorem dX4_got_36 : decode cX4_got 36 = .ok (.aload_n 0, 1) := by decide +kernel
theorem dX4_got_37 : decode cX4_got 37 = .ok (.getfield 10, 3) := by decide +kernel
theorem dX4_got_40 : decode cX4_got 40 = .ok (.getfield 132, 3) := by decide +kernel
theorem dX4_got_43 : decode cX4_got 43 = .ok (.invokevirtual 186, 3) := by decide +kernel
theorem dX4_got_46 : decode cX4_got 46 = .ok (.iconst 3, 1) := by decide +kernel
theorem dX4_got_47 : decode cX4_got 47 = .ok (.if_icmp .ne 6, 3) := by decide +kernel
theorem dX4_got_50 : decode cX4_got 50 = .ok (.bipush (-4), 2) := by decide +kernel
theorem dX4_got_52 : decode cX4_got 52 = .ok (.ireturn, 1) := by decide +kernel
theorem dX4_got_53 : decode cX4_got 53 = .ok (.aload_n 0, 1) := by decide +kernel
theorem dX4_got_54 : decode cX4_got 54 = .ok (.getfield 10, 3) := by decide +kernel
theorem dX4_got_57 : decode cX4_got 57 = .ok (.iload_n 1, 1) := by decide +kernel
theorem dX4_got_58 : decode cX4_got 58 = .ok (.iload_n 2, 1) := by decide +kernel
theorem dX4_got_59 : decode cX4_got 59 = .ok (.invokevirtual 189, 3) := by decide +kernel
theorem dX4_got_62 : decode cX4_got 62 = .ok (.ireturn, 1) := by decide +kernel
set_option maxRecDepth 20000 in
theorem ggX4_column_X2_hasColumn : GoodIn wsX4_column wsX2_hasColumn := goodIn_r _ [6, 7, 8, 9, 5, 10, 11, 12, 13, 14, 15, 16, 17, 18, 19, 20, 21, 22, 23, 24, 25, 43, 44, 45, 46, 47, 48, 49, 50, 51, 52, 53, 54, 55, 56] (by decide +kernel) (by decide +kernel)
set_option maxRecDepth 20000 in
theorem gX4_column_X2_hasColumn : GoodIn wsX4_column (wsV RX4 180 RX2 yX2_hasColumn wsX2_hasColumn) := goodIn_app (goodIn_of _ (by decide +kernel)) ggX4_column_X2_hasColumn
set_option maxRecDepth 20000 in
theorem ggX4_column_X2_columnOf : GoodIn wsX4_column wsX2_columnOf := goodIn_r _ [29, 30, 24, 13, 25, 43, 44, 45, 46, 47, 48, 49, 50, 51, 52, 53, 54, 55, 56] (by decide +kernel) (by decide +kernel)
set_option maxRecDepth 20000 in
theorem gX4_column_X2_columnOf : GoodIn wsX4_column (wsV RX4 164 RX2 yX2_columnOf wsX2_columnOf) := goodIn_app (goodIn_of _ (by decide +kernel)) ggX4_column_X2_columnOf
theorem dX4_column_0 : decode cX4_column 0 = .ok (.aload_n 0, 1) := by decide +kernel
theorem dX4_column_1 : decode cX4_column 1 = .ok (.getfield 10, 3) := by decide +kernel
theorem dX4_column_4 : decode cX4_column 4 = .ok (.iload_n 1, 1) := by decide +kernel
theorem dX4_column_5 : decode cX4_column 5 = .ok (.iload_n 2, 1) := by decide +kernel
theorem dX4_column_6 : decode cX4_column 6 = .ok (.invokevirtual 180, 3) := by decide +kernel
theorem dX4_column_9 : decode cX4_column 9 = .ok (.ifCond .eq 15, 3) := by decide +kernel
theorem dX4_column_12 : decode cX4_column 12 = .ok (.aload_n 0, 1) := by decide +kernel
theorem dX4_column_13 : decode cX4_column 13 = .ok (.getfield 10, 3) := by decide +kernel
theorem dX4_column_16 : decode cX4_column 16 = .ok (.iload_n 1, 1) := by decide +kernel
theorem dX4_column_17 : decode cX4_column 17 = .ok (.iload_n 2, 1) := by decide +kernel
theorem dX4_column_18 : decode cX4_column 18 = .ok (.invokevirtual 164, 3) := by decide +kernel
theorem dX4_column_21 : decode cX4_column 21 = .ok (.goto 4, 3) := by decide +kernel
theorem dX4_column_24 : decode cX4_column 24 = .ok (.iconst (-1), 1) := by decide +kernel
theorem dX4_column_25 : decode cX4_column 25 = .ok (.ireturn, 1) := by decide +kernel
set_option maxRecDepth 20000 in
theorem ggX4_state_X2_lostBlocksBy : GoodIn wsX4_state wsX2_lostBlocksBy := goodIn_r _ [7, 8, 9, 10, 11, 6, 12, 13, 14, 15, 16, 17, 18, 19, 20, 21, 22, 23, 24, 25, 26, 27, 28, 29, 30, 31, 32, 33, 34, 35, 36, 37, 38, 39, 40, 41, 42, 43, 44, 79, 80, 81, 82, 83, 84, 85, 86, 87, 88, 89, 90, 91, 92] (by decide +kernel) (by decide +kernel)
set_option maxRecDepth 20000 in
theorem gX4_state_X2_lostBlocksBy : GoodIn wsX4_state (wsV RX4 192 RX2 yX2_lostBlocksBy wsX2_lostBlocksBy) := goodIn_app (goodIn_of _ (by decide +kernel)) ggX4_state_X2_lostBlocksBy
set_option maxRecDepth 20000 in
theorem ggX4_state_X2_fooledBlocks : GoodIn wsX4_state wsX2_fooledBlocks := goodIn_r _ [48, 8, 49, 9, 10, 11, 6, 12, 13, 14, 15, 16, 17, 18, 19, 20, 21, 22, 23, 24, 25, 26, 27, 28, 29, 30, 31, 32, 33, 34, 35, 36, 37, 38, 39, 40, 41, 42, 43, 44, 50, 51, 52, 53, 54, 55, 56, 57, 58, 59, 60, 61, 62, 79, 80, 81, 82, 83, 84, 85, 86, 87, 88, 89, 90, 91, 92] (by decide +kernel) (by decide +kernel)
set_option maxRecDepth 20000 in
theorem gX4_state_X2_fooledBlocks : GoodIn wsX4_state (wsV RX4 195 RX2 yX2_fooledBlocks wsX2_fooledBlocks) := goodIn_app (goodIn_of _ (by decide +kernel)) ggX4_state_X2_fooledBlocks
set_option maxRecDepth 20000 in
theorem ggX4_state_X2_mendedBlocks : GoodIn wsX4_state wsX2_mendedBlocks := goodIn_r _ [66, 8, 49, 9, 10, 11, 6, 12, 13, 14, 15, 16, 17, 18, 19, 20, 21, 22, 23, 24, 25, 26, 27, 28, 29, 30, 31, 32, 33, 34, 35, 36, 37, 38, 39, 40, 41, 42, 43, 44, 79, 80, 81, 82, 83, 84, 85, 86, 87, 88, 89, 90, 91, 92] (by decide +kernel) (by decide +kernel)
set_option maxRecDepth 20000 in
theorem gX4_state_X2_mendedBlocks : GoodIn wsX4_state (wsV RX4 198 RX2 yX2_mendedBlocks wsX2_mendedBlocks) := goodIn_app (goodIn_of _ (by decide +kernel)) ggX4_state_X2_mendedBlocks
theorem dX4_state_0 : decode cX4_state 0 = .ok (.iload_n 1, 1) := by decide +kernel
theorem dX4_state_1 : decode cX4_state 1 = .ok (.tableswitch 58 0 2 #[27, 42, 50], 27) := by decide +kernel
theorem dX4_state_28 : decode cX4_state 28 = .ok (.aload_n 0, 1) := by decide +kernel
theorem dX4_state_29 : decode cX4_state 29 = .ok (.getfield 10, 3) := by decide +kernel
theorem dX4_state_32 : decode cX4_state 32 = .ok (.aload_n 0, 1) := by decide +kernel
theorem dX4_state_33 : decode cX4_state 33 = .ok (.getfield 10, 3) := by decide +kernel
theorem dX4_state_36 : decode cX4_state 36 = .ok (.getfield 132, 3) := by decide +kernel
theorem dX4_state_39 : decode cX4_state 39 = .ok (.invokevirtual 192, 3) := by decide +kernel
theorem dX4_state_42 : decode cX4_state 42 = .ok (.ireturn, 1) := by decide +kernel
theorem dX4_state_43 : decode cX4_state 43 = .ok (.aload_n 0, 1) := by decide +kernel
theorem dX4_state_44 : decode cX4_state 44 = .ok (.getfield 10, 3) := by decide +kernel
theorem dX4_state_47 : decode cX4_state 47 = .ok (.invokevirtual 195, 3) := by decide +kernel
theorem dX4_state_50 : decode cX4_state 50 = .ok (.ireturn, 1) := by decide +kernel
theorem dX4_state_51 : decode cX4_state 51 = .ok (.aload_n 0, 1) := by decide +kernel
theorem dX4_state_52 : decode cX4_state 52 = .ok (.getfield 10, 3) := by decide +kernel
theorem dX4_state_55 : decode cX4_state 55 = .ok (.invokevirtual 198, 3) := by decide +kernel
theorem dX4_state_58 : decode cX4_state 58 = .ok (.ireturn, 1) := by decide +kernel
theorem dX4_state_59 : decode cX4_state 59 = .ok (.iconst (-1), 1) := by decide +kernel
theorem dX4_state_60 : decode cX4_state 60 = .ok (.ireturn, 1) := by decide +kernel
set_option maxRecDepth 20000 in
theorem ggX4_best_X4_isBetween : GoodIn wsX4_best wsX4_isBetween := goodIn_r _ [5] (by decide +kernel) (by decide +kernel)
set_option maxRecDepth 20000 in
theorem gX4_best_X4_isBetween : GoodIn wsX4_best (va_wsS RX4 69 yX4_isBetween wsX4_isBetween) := goodIn_app (goodIn_of _ (by decide +kernel)) ggX4_best_X4_isBetween
set_option maxRecDepth 20000 in
theorem ggX4_best_X2_lostBlocksBy : GoodIn wsX4_best wsX2_lostBlocksBy := goodIn_r _ [10, 11, 12, 13, 14, 9, 15, 16, 17, 18, 19, 20, 21, 22, 23, 24, 25, 4, 26, 27, 28, 29, 30, 31, 32, 33, 34, 35, 36, 37, 38, 39, 40, 41, 42, 43, 44, 45, 46, 60, 61, 62, 63, 64, 65, 66, 67, 68, 69, 70, 71, 72, 73] (by decide +kernel) (by decide +kernel)
set_option maxRecDepth 20000 in
theorem gX4_best_X2_lostBlocksBy : GoodIn wsX4_best (wsV RX4 192 RX2 yX2_lostBlocksBy wsX2_lostBlocksBy) := goodIn_app (goodIn_of _ (by decide +kernel)) ggX4_best_X2_lostBlocksBy
set_option maxRecDepth 20000 in
theorem ggX4_best_J6_bitCount_0f7a4 : GoodIn wsX4_best wsJ6_bitCount_0f7a4 := goodIn_r _ [39, 40, 41, 42] (by decide +kernel) (by decide +kernel)
set_option maxRecDepth 20000 in
theorem gX4_best_J6_bitCount_0f7a4 : GoodIn wsX4_best (va_wsS RX4 201 yJ6_bitCount_0f7a4 wsJ6_bitCount_0f7a4) := goodIn_app (goodIn_of _ (by decide +kernel)) ggX4_best_J6_bitCount_0f7a4
theorem dX4_best_0 : decode cX4_best 0 = .ok (.iload_n 1, 1) := by decide +kernel
theorem dX4_best_1 : decode cX4_best 1 = .ok (.iconst 0, 1) := by decide +kernel
theorem dX4_best_2 : decode cX4_best 2 = .ok (.iconst 1, 1) := by decide +kernel
theorem dX4_best_3 : decode cX4_best 3 = .ok (.invokestatic 69, 3) := by decide +kernel
theorem dX4_best_6 : decode cX4_best 6 = .ok (.ifCond .ne 5, 3) := by decide +kernel
theorem dX4_best_9 : decode cX4_best 9 = .ok (.iconst (-1), 1) := by decide +kernel
theorem dX4_best_10 : decode cX4_best 10 = .ok (.ireturn, 1) := by decide +kernel
theorem dX4_best_11 : decode cX4_best 11 = .ok (.iconst 0, 1) := by decide +kernel
theorem dX4_best_12 : decode cX4_best 12 = .ok (.istore_n 2, 1) := by decide +kernel
theorem dX4_best_13 : decode cX4_best 13 = .ok (.aload_n 0, 1) := by decide +kernel
theorem dX4_best_14 : decode cX4_best 14 = .ok (.getfield 10, 3) := by decide +kernel
theorem dX4_best_17 : decode cX4_best 17 = .ok (.iconst 0, 1) := by decide +kernel
theorem dX4_best_18 : decode cX4_best 18 = .ok (.invokevirtual 192, 3) := by decide +kernel
theorem dX4_best_21 : decode cX4_best 21 = .ok (.invokestatic 201, 3) := by decide +kernel
theorem dX4_best_24 : decode cX4_best 24 = .ok (.istore_n 3, 1) := by decide +kernel
theorem dX4_best_25 : decode cX4_best 25 = .ok (.iconst 1, 1) := by decide +kernel
theorem dX4_best_26 : decode cX4_best 26 = .ok (.istore 4, 2) := by decide +kernel
theorem dX4_best_28 : decode cX4_best 28 = .ok (.iload 4, 2) := by decide +kernel
theorem dX4_best_30 : decode cX4_best 30 = .ok (.bipush 9, 2) := by decide +kernel
theorem dX4_best_32 : decode cX4_best 32 = .ok (.if_icmp .ge 35, 3) := by decide +kernel
theorem dX4_best_35 : decode cX4_best 35 = .ok (.aload_n 0, 1) := by decide +kernel
theorem dX4_best_36 : decode cX4_best 36 = .ok (.getfield 10, 3) := by decide +kernel
theorem dX4_best_39 : decode cX4_best 39 = .ok (.iload 4, 2) := by decide +kernel
theorem dX4_best_41 : decode cX4_best 41 = .ok (.invokevirtual 192, 3) := by decide +kernel
theorem dX4_best_44 : decode cX4_best 44 = .ok (.invokestatic 201, 3) := by decide +kernel
theorem dX4_best_47 : decode cX4_best 47 = .ok (.istore 5, 2) := by decide +kernel
theorem dX4_best_49 : decode cX4_best 49 = .ok (.iload 5, 2) := by decide +kernel
theorem dX4_best_51 : decode cX4_best 51 = .ok (.iload_n 3, 1) := by decide +kernel
theorem dX4_best_52 : decode cX4_best 52 = .ok (.if_icmp .ge 9, 3) := by decide +kernel
theorem dX4_best_55 : decode cX4_best 55 = .ok (.iload 5, 2) := by decide +kernel
theorem dX4_best_57 : decode cX4_best 57 = .ok (.istore_n 3, 1) := by decide +kernel
theorem dX4_best_58 : decode cX4_best 58 = .ok (.iload 4, 2) := by decide +kernel
theorem dX4_best_60 : decode cX4_best 60 = .ok (.istore_n 2, 1) := by decide +kernel
theorem dX4_best_61 : decode cX4_best 61 = .ok (.iinc 4 1, 3) := by decide +kernel
theorem dX4_best_64 : decode cX4_best 64 = .ok (.goto (-36), 3) := by decide +kernel
theorem dX4_best_67 : decode cX4_best 67 = .ok (.iload_n 1, 1) := by decide +kernel
theorem dX4_best_68 : decode cX4_best 68 = .ok (.ifCond .ne 7, 3) := by decide +kernel
theorem dX4_best_71 : decode cX4_best 71 = .ok (.iload_n 2, 1) := by decide +kernel
theorem dX4_best_72 : decode cX4_best 72 = .ok (.goto 4, 3) := by decide +kernel
theorem dX4_best_75 : decode cX4_best 75 = .ok (.iload_n 3, 1) := by decide +kernel
theorem dX4_best_76 : decode cX4_best 76 = .ok (.ireturn, 1) := by decide +kernel
set_option maxRecDepth 20000 in
theorem ggX4_order_X2_hasAllOf : GoodIn wsX4_order wsX2_hasAllOf := goodIn_r _ [8, 9, 149, 150, 151, 152, 153, 154, 155, 156, 157, 158, 159, 160, 161, 162] (by decide +kernel) (by decide +kernel)
set_option maxRecDepth 20000 in
theorem gX4_order_X2_hasAllOf : GoodIn wsX4_order (wsV RX4 206 RX2 yX2_hasAllOf wsX2_hasAllOf) := goodIn_app (goodIn_of _ (by decide +kernel)) ggX4_order_X2_hasAllOf
set_option maxRecDepth 20000 in
theorem ggX4_order_X4_isBetween : GoodIn wsX4_order wsX4_isBetween := goodIn_r _ [13] (by decide +kernel) (by decide +kernel)
set_option maxRecDepth 20000 in
theorem gX4_order_X4_isBetween : GoodIn wsX4_order (va_wsS RX4 69 yX4_isBetween wsX4_isBetween) := goodIn_app (goodIn_of _ (by decide +kernel)) ggX4_order_X4_isBetween
set_option maxRecDepth 20000 in
theorem ggX4_order_J6_bitCount_0f7a4 : GoodIn wsX4_order wsJ6_bitCount_0f7a4 := goodIn_r _ [17, 18, 19, 20] (by decide +kernel) (by decide +kernel)
set_option maxRecDepth 20000 in
theorem gX4_order_J6_bitCount_0f7a4 : GoodIn wsX4_order (va_wsS RX4 201 yJ6_bitCount_0f7a4 wsJ6_bitCount_0f7a4) := goodIn_app (goodIn_of _ (by decide +kernel)) ggX4_order_J6_bitCount_0f7a4
set_option maxRecDepth 20000 in
theorem ggX4_order_X0_plan : GoodIn wsX4_order wsX0_plan := goodIn_r _ [25, 26, 27, 28, 29, 30, 24, 31, 32, 33, 12, 34, 35, 36, 37, 38, 39, 40, 41, 42, 43, 44, 45, 7, 46, 47, 48, 49, 50, 9, 11, 13, 51, 52, 53, 54, 55, 56, 57, 58, 59, 60, 61, 62, 63, 64, 65, 66, 67, 68, 69, 70, 71, 72, 73, 74, 75, 76, 77, 78, 79, 80, 81, 82, 83, 84, 85, 86, 87, 88, 89, 90, 91, 92, 93, 94, 95, 96, 97, 98, 99, 100, 101, 102, 103, 104, 105, 106, 107, 108, 109, 110, 111, 112, 113, 114, 115, 116, 117, 118, 119, 120, 121, 122, 123, 124, 125, 126, 143, 144, 145, 146, 147, 148, 149, 150, 151, 152, 153, 154, 155, 156, 157, 158, 159, 160, 161, 162] (by decide +kernel) (by decide +kernel)
set_option maxRecDepth 20000 in
theorem gX4_order_X0_plan : GoodIn wsX4_order (wsV RX4 209 RX0 yX0_plan wsX0_plan) := goodIn_app (goodIn_of _ (by decide +kernel)) ggX4_order_X0_plan
set_option maxRecDepth 20000 in
theorem ggX4_order_X0_stopAt : GoodIn wsX4_order wsX0_stopAt := goodIn_r _ [130, 122, 41, 12, 42, 143, 144, 145, 146, 147, 148] (by decide +kernel) (by decide +kernel)
set_option maxRecDepth 20000 in
theorem gX4_order_X0_stopAt : GoodIn wsX4_order (wsV RX4 216 RX0 yX0_stopAt wsX0_stopAt) := goodIn_app (goodIn_of _ (by decide +kernel)) ggX4_order_X0_stopAt
theorem dX4_order_0 : decode cX4_order 0 = .ok (.aload_n 0, 1) := by decide +kernel
theorem dX4_order_1 : decode cX4_order 1 = .ok (.getfield 10, 3) := by decide +kernel
theorem dX4_order_4 : decode cX4_order 4 = .ok (.iload_n 1, 1) := by decide +kernel
theorem dX4_order_5 : decode cX4_order 5 = .ok (.invokevirtual 206, 3) := by decide +kernel
theorem dX4_order_8 : decode cX4_order 8 = .ok (.ifCond .ne 5, 3) := by decide +kernel
theorem dX4_order_11 : decode cX4_order 11 = .ok (.iconst (-1), 1) := by decide +kernel
theorem dX4_order_12 : decode cX4_order 12 = .ok (.ireturn, 1) := by decide +kernel
theorem dX4_order_13 : decode cX4_order 13 = .ok (.iload_n 2, 1) := by decide +kernel
theorem dX4_order_14 : decode cX4_order 14 = .ok (.bipush 10, 2) := by decide +kernel
theorem dX4_order_16 : decode cX4_order 16 = .ok (.isub, 1) := by decide +kernel
theorem dX4_order_17 : decode cX4_order 17 = .ok (.istore_n 3, 1) := by decide +kernel
theorem dX4_order_18 : decode cX4_order 18 = .ok (.iload_n 2, 1) := by decide +kernel
theorem dX4_order_19 : decode cX4_order 19 = .ok (.ifCond .ne 7, 3) := by decide +kernel
theorem dX4_order_22 : decode cX4_order 22 = .ok (.iconst 1, 1) := by decide +kernel
theorem dX4_order_23 : decode cX4_order 23 = .ok (.goto 4, 3) := by decide +kernel
theorem dX4_order_26 : decode cX4_order 26 = .ok (.iconst 0, 1) := by decide +kernel
theorem dX4_order_27 : decode cX4_order 27 = .ok (.istore 4, 2) := by decide +kernel
theorem dX4_order_29 : decode cX4_order 29 = .ok (.iload 4, 2) := by decide +kernel
theorem dX4_order_31 : decode cX4_order 31 = .ok (.ifCond .ne 23, 3) := by decide +kernel
theorem dX4_order_34 : decode cX4_order 34 = .ok (.iload_n 3, 1) := by decide +kernel
theorem dX4_order_35 : decode cX4_order 35 = .ok (.iconst 0, 1) := by decide +kernel
theorem dX4_order_36 : decode cX4_order 36 = .ok (.bipush 7, 2) := by decide +kernel
theorem dX4_order_38 : decode cX4_order 38 = .ok (.invokestatic 69, 3) := by decide +kernel
theorem dX4_order_41 : decode cX4_order 41 = .ok (.ifCond .eq 11, 3) := by decide +kernel
theorem dX4_order_44 : decode cX4_order 44 = .ok (.iload_n 3, 1) := by decide +kernel
theorem dX4_order_45 : decode cX4_order 45 = .ok (.iload_n 1, 1) := by decide +kernel
theorem dX4_order_46 : decode cX4_order 46 = .ok (.invokestatic 201, 3) := by decide +kernel
theorem dX4_order_49 : decode cX4_order 49 = .ok (.if_icmp .lt 5, 3) := by decide +kernel
theorem dX4_order_52 : decode cX4_order 52 = .ok (.iconst (-1), 1) := by decide +kernel
theorem dX4_order_53 : decode cX4_order 53 = .ok (.ireturn, 1) := by decide +kernel
theorem dX4_order_54 : decode cX4_order 54 = .ok (.iload_n 1, 1) := by decide +kernel
theorem dX4_order_55 : decode cX4_order 55 = .ok (.invokestatic 201, 3) := by decide +kernel
theorem dX4_order_58 : decode cX4_order 58 = .ok (.bipush 8, 2) := by decide +kernel
theorem dX4_order_60 : decode cX4_order 60 = .ok (.if_icmp .le 6, 3) := by decide +kernel
theorem dX4_order_63 : decode cX4_order 63 = .ok (.bipush (-2), 2) := by decide +kernel
theorem dX4_order_65 : decode cX4_order 65 = .ok (.ireturn, 1) := by decide +kernel
theorem dX4_order_66 : decode cX4_order 66 = .ok (.aload_n 0, 1) := by decide +kernel
theorem dX4_order_67 : decode cX4_order 67 = .ok (.getfield 26, 3) := by decide +kernel
theorem dX4_order_70 : decode cX4_order 70 = .ok (.aload_n 0, 1) := by decide +kernel
theorem dX4_order_71 : decode cX4_order 71 = .ok (.getfield 10, 3) := by decide +kernel
theorem dX4_order_74 : decode cX4_order 74 = .ok (.iload_n 1, 1) := by decide +kernel
theorem dX4_order_75 : decode cX4_order 75 = .ok (.invokevirtual 209, 3) := by decide +kernel
theorem dX4_order_78 : decode cX4_order 78 = .ok (.iload 4, 2) := by decide +kernel
theorem dX4_order_80 : decode cX4_order 80 = .ok (.ifCond .eq 13, 3) := by decide +kernel
theorem dX4_order_83 : decode cX4_order 83 = .ok (.aload_n 0, 1) := by decide +kernel
theorem dX4_order_84 : decode cX4_order 84 = .ok (.getfield 26, 3) := by decide +kernel
theorem dX4_order_87 : decode cX4_order 87 = .ok (.getfield 213, 3) := by decide +kernel
theorem dX4_order_90 : decode cX4_order 90 = .ok (.goto 11, 3) := by decide +kernel
theorem dX4_order_93 : decode cX4_order 93 = .ok (.aload_n 0, 1) := by decide +kernel
theorem dX4_order_94 : decode cX4_order 94 = .ok (.getfield 26, 3) := by decide +kernel
theorem dX4_order_97 : decode cX4_order 97 = .ok (.iload_n 3, 1) := by decide +kernel
theorem dX4_order_98 : decode cX4_order 98 = .ok (.invokevirtual 216, 3) := by decide +kernel
theorem dX4_order_101 : decode cX4_order 101 = .ok (.ireturn, 1) := by decide +kernel
set_option maxRecDepth 20000 in
theorem ggX4_reads_X2_hasAllOf : GoodIn wsX4_reads wsX2_hasAllOf := goodIn_r _ [11, 12, 146, 147, 148, 149, 150, 151, 152, 153, 154, 155, 156, 157, 158, 159] (by decide +kernel) (by decide +kernel)
set_option maxRecDepth 20000 in
theorem gX4_reads_X2_hasAllOf : GoodIn wsX4_reads (wsV RX4 206 RX2 yX2_hasAllOf wsX2_hasAllOf) := goodIn_app (goodIn_of _ (by decide +kernel)) ggX4_reads_X2_hasAllOf
set_option maxRecDepth 20000 in
theorem ggX4_reads_J6_bitCount_0f7a4 : GoodIn wsX4_reads wsJ6_bitCount_0f7a4 := goodIn_r _ [16, 17, 18, 19] (by decide +kernel) (by decide +kernel)
set_option maxRecDepth 20000 in
theorem gX4_reads_J6_bitCount_0f7a4 : GoodIn wsX4_reads (va_wsS RX4 201 yJ6_bitCount_0f7a4 wsJ6_bitCount_0f7a4) := goodIn_app (goodIn_of _ (by decide +kernel)) ggX4_reads_J6_bitCount_0f7a4
set_option maxRecDepth 20000 in
theorem ggX4_reads_X0_plan : GoodIn wsX4_reads wsX0_plan := goodIn_r _ [24, 25, 26, 27, 28, 29, 23, 30, 31, 32, 33, 34, 35, 36, 37, 38, 39, 40, 41, 42, 43, 44, 45, 10, 46, 47, 48, 49, 50, 12, 51, 52, 53, 54, 55, 56, 57, 58, 59, 60, 61, 62, 63, 64, 65, 66, 67, 68, 69, 70, 71, 72, 73, 74, 75, 76, 77, 78, 79, 80, 81, 82, 83, 84, 85, 86, 87, 88, 89, 90, 91, 92, 93, 94, 95, 96, 97, 98, 99, 100, 101, 102, 103, 104, 105, 106, 107, 108, 109, 110, 111, 112, 113, 114, 115, 116, 117, 118, 119, 120, 121, 122, 123, 124, 125, 126, 127, 128, 160, 161, 162, 163, 164, 165, 146, 147, 148, 149, 150, 151, 152, 153, 154, 155, 156, 157, 158, 159] (by decide +kernel) (by decide +kernel)
set_option maxRecDepth 20000 in
theorem gX4_reads_X0_plan : GoodIn wsX4_reads (wsV RX4 209 RX0 yX0_plan wsX0_plan) := goodIn_app (goodIn_of _ (by decide +kernel)) ggX4_reads_X0_plan
set_option maxRecDepth 20000 in
theorem ggX4_reads_X0_stopAt : GoodIn wsX4_reads wsX0_stopAt := goodIn_r _ [132, 124, 41, 33, 42, 160, 161, 162, 163, 164, 165] (by decide +kernel) (by decide +kernel)
set_option maxRecDepth 20000 in
theorem gX4_reads_X0_stopAt : GoodIn wsX4_reads (wsV RX4 216 RX0 yX0_stopAt wsX0_stopAt) := goodIn_app (goodIn_of _ (by decide +kernel)) ggX4_reads_X0_stopAt
set_option maxRecDepth 20000 in
theorem ggX4_reads_X2_endOf : GoodIn wsX4_reads wsX2_endOf := goodIn_r _ [46, 47, 48, 49, 10, 50, 12, 51, 33, 52, 53, 54, 55, 56, 57, 41, 42, 58, 59, 60, 61, 62, 63, 64, 65, 66, 67, 68, 69, 70, 71, 72, 73, 146, 147, 148, 149, 150, 151, 152, 153, 154, 155, 156, 157, 158, 159] (by decide +kernel) (by decide +kernel)
set_option maxRecDepth 20000 in
theorem gX4_reads_X2_endOf : GoodIn wsX4_reads (wsV RX4 141 RX2 yX2_endOf wsX2_endOf) := goodIn_app (goodIn_of _ (by decide +kernel)) ggX4_reads_X2_endOf
theorem dX4_reads_0 : decode cX4_reads 0 = .ok (.aload_n 0, 1) := by decide +kernel
theorem dX4_reads_1 : decode cX4_reads 1 = .ok (.getfield 10, 3) := by decide +kernel
theorem dX4_reads_4 : decode cX4_reads 4 = .ok (.iload_n 1, 1) := by decide +kernel
theorem dX4_reads_5 : decode cX4_reads 5 = .ok (.invokevirtual 206, 3) := by decide +kernel
theorem dX4_reads_8 : decode cX4_reads 8 = .ok (.ifCond .ne 5, 3) := by decide +kernel
theorem dX4_reads_11 : decode cX4_reads 11 = .ok (.iconst (-1), 1) := by decide +kernel
theorem dX4_reads_12 : decode cX4_reads 12 = .ok (.ireturn, 1) := by decide +kernel
theorem dX4_reads_13 : decode cX4_reads 13 = .ok (.iload_n 1, 1) := by decide +kernel
theorem dX4_reads_14 : decode cX4_reads 14 = .ok (.invokestatic 201, 3) := by decide +kernel
theorem dX4_reads_17 : decode cX4_reads 17 = .ok (.bipush 8, 2) := by decide +kernel
theorem dX4_reads_19 : decode cX4_reads 19 = .ok (.if_icmp .le 6, 3) := by decide +kernel
theorem dX4_reads_22 : decode cX4_reads 22 = .ok (.bipush (-2), 2) := by decide +kernel
theorem dX4_reads_24 : decode cX4_reads 24 = .ok (.ireturn, 1) := by decide +kernel
theorem dX4_reads_25 : decode cX4_reads 25 = .ok (.iload_n 1, 1) := by decide +kernel
theorem dX4_reads_26 : decode cX4_reads 26 = .ok (.ifCond .ne 5, 3) := by decide +kernel
theorem dX4_reads_29 : decode cX4_reads 29 = .ok (.iconst 0, 1) := by decide +kernel
theorem dX4_reads_30 : decode cX4_reads 30 = .ok (.ireturn, 1) := by decide +kernel
theorem dX4_reads_31 : decode cX4_reads 31 = .ok (.aload_n 0, 1) := by decide +kernel
theorem dX4_reads_32 : decode cX4_reads 32 = .ok (.getfield 26, 3) := by decide +kernel
theorem dX4_reads_35 : decode cX4_reads 35 = .ok (.aload_n 0, 1) := by decide +kernel
theorem dX4_reads_36 : decode cX4_reads 36 = .ok (.getfield 10, 3) := by decide +kernel
theorem dX4_reads_39 : decode cX4_reads 39 = .ok (.iload_n 1, 1) := by decide +kernel
theorem dX4_reads_40 : decode cX4_reads 40 = .ok (.invokevirtual 209, 3) := by decide +kernel
theorem dX4_reads_43 : decode cX4_reads 43 = .ok (.aload_n 0, 1) := by decide +kernel
theorem dX4_reads_44 : decode cX4_reads 44 = .ok (.getfield 10, 3) := by decide +kernel
theorem dX4_reads_47 : decode cX4_reads 47 = .ok (.dup, 1) := by decide +kernel
theorem dX4_reads_48 : decode cX4_reads 48 = .ok (.getfield 129, 3) := by decide +kernel
theorem dX4_reads_51 : decode cX4_reads 51 = .ok (.aload_n 0, 1) := by decide +kernel
theorem dX4_reads_52 : decode cX4_reads 52 = .ok (.getfield 26, 3) := by decide +kernel
theorem dX4_reads_55 : decode cX4_reads 55 = .ok (.getfield 213, 3) := by decide +kernel
theorem dX4_reads_58 : decode cX4_reads 58 = .ok (.iadd, 1) := by decide +kernel
theorem dX4_reads_59 : decode cX4_reads 59 = .ok (.putfield 129, 3) := by decide +kernel
theorem dX4_reads_62 : decode cX4_reads 62 = .ok (.aload_n 0, 1) := by decide +kernel
theorem dX4_reads_63 : decode cX4_reads 63 = .ok (.getfield 10, 3) := by decide +kernel
theorem dX4_reads_66 : decode cX4_reads 66 = .ok (.aload_n 0, 1) := by decide +kernel
theorem dX4_reads_67 : decode cX4_reads 67 = .ok (.getfield 10, 3) := by decide +kernel
theorem dX4_reads_70 : decode cX4_reads 70 = .ok (.aload_n 0, 1) := by decide +kernel
theorem dX4_reads_71 : decode cX4_reads 71 = .ok (.getfield 26, 3) := by decide +kernel
theorem dX4_reads_74 : decode cX4_reads 74 = .ok (.aload_n 0, 1) := by decide +kernel
theorem dX4_reads_75 : decode cX4_reads 75 = .ok (.getfield 26, 3) := by decide +kernel
theorem dX4_reads_78 : decode cX4_reads 78 = .ok (.getfield 219, 3) := by decide +kernel
theorem dX4_reads_81 : decode cX4_reads 81 = .ok (.iconst 1, 1) := by decide +kernel
theorem dX4_reads_82 : decode cX4_reads 82 = .ok (.isub, 1) := by decide +kernel
theorem dX4_reads_83 : decode cX4_reads 83 = .ok (.invokevirtual 216, 3) := by decide +kernel
theorem dX4_reads_86 : decode cX4_reads 86 = .ok (.invokevirtual 141, 3) := by decide +kernel
theorem dX4_reads_89 : decode cX4_reads 89 = .ok (.putfield 126, 3) := by decide +kernel
theorem dX4_reads_92 : decode cX4_reads 92 = .ok (.aload_n 0, 1) := by decide +kernel
theorem dX4_reads_93 : decode cX4_reads 93 = .ok (.getfield 26, 3) := by decide +kernel
theorem dX4_reads_96 : decode cX4_reads 96 = .ok (.getfield 213, 3) := by decide +kernel
theorem dX4_reads_99 : decode cX4_reads 99 = .ok (.ireturn, 1) := by decide +kernel
set_option maxRecDepth 20000 in
theorem ggX4_cut_X2_hasPlace : GoodIn wsX4_cut wsX2_hasPlace := goodIn_r _ [6, 7, 8, 9, 5, 10, 11, 12, 13, 14, 80, 81, 82, 83, 84, 85, 86, 87, 88, 89, 90, 91, 92, 93] (by decide +kernel) (by decide +kernel)
set_option maxRecDepth 20000 in
theorem gX4_cut_X2_hasPlace : GoodIn wsX4_cut (wsV RX4 94 RX2 yX2_hasPlace wsX2_hasPlace) := goodIn_app (goodIn_of _ (by decide +kernel)) ggX4_cut_X2_hasPlace
set_option maxRecDepth 20000 in
theorem ggX4_cut_X2_ruled : GoodIn wsX4_cut wsX2_ruled := goodIn_r _ [10, 11, 80, 81, 82, 83, 84, 85, 86, 87, 88, 89, 90, 91, 92, 93] (by decide +kernel) (by decide +kernel)
set_option maxRecDepth 20000 in
theorem gX4_cut_X2_ruled : GoodIn wsX4_cut (wsV RX4 90 RX2 yX2_ruled wsX2_ruled) := goodIn_app (goodIn_of _ (by decide +kernel)) ggX4_cut_X2_ruled
set_option maxRecDepth 20000 in
theorem ggX4_cut_X2_cutOut : GoodIn wsX4_cut wsX2_cutOut := goodIn_r _ [19, 20, 11, 21, 22, 23, 24, 5, 25, 26, 27, 13, 28, 29, 30, 31, 32, 33, 34, 35, 36, 12, 14, 37, 38, 39, 40, 41, 42, 43, 44, 45, 7, 8, 9, 10, 46, 47, 48, 49, 50, 51, 52, 53, 54, 55, 56, 57, 58, 59, 60, 61, 62, 63, 64, 65, 66, 67, 80, 81, 82, 83, 84, 85, 86, 87, 88, 89, 90, 91, 92, 93] (by decide +kernel) (by decide +kernel)
set_option maxRecDepth 20000 in
theorem gX4_cut_X2_cutOut : GoodIn wsX4_cut (wsV RX4 222 RX2 yX2_cutOut wsX2_cutOut) := goodIn_app (goodIn_of _ (by decide +kernel)) ggX4_cut_X2_cutOut
theorem dX4_cut_0 : decode cX4_cut 0 = .ok (.aload_n 0, 1) := by decide +kernel
theorem dX4_cut_1 : decode cX4_cut 1 = .ok (.getfield 10, 3) := by decide +kernel
theorem dX4_cut_4 : decode cX4_cut 4 = .ok (.iload_n 1, 1) := by decide +kernel
theorem dX4_cut_5 : decode cX4_cut 5 = .ok (.invokevirtual 94, 3) := by decide +kernel
theorem dX4_cut_8 : decode cX4_cut 8 = .ok (.ifCond .eq 19, 3) := by decide +kernel
theorem dX4_cut_11 : decode cX4_cut 11 = .ok (.aload_n 0, 1) := by decide +kernel
theorem dX4_cut_12 : decode cX4_cut 12 = .ok (.getfield 10, 3) := by decide +kernel
theorem dX4_cut_15 : decode cX4_cut 15 = .ok (.iload_n 2, 1) := by decide +kernel
theorem dX4_cut_16 : decode cX4_cut 16 = .ok (.invokevirtual 94, 3) := by decide +kernel
theorem dX4_cut_19 : decode cX4_cut 19 = .ok (.ifCond .eq 8, 3) := by decide +kernel
theorem dX4_cut_22 : decode cX4_cut 22 = .ok (.iload_n 2, 1) := by decide +kernel
theorem dX4_cut_23 : decode cX4_cut 23 = .ok (.iload_n 1, 1) := by decide +kernel
theorem dX4_cut_24 : decode cX4_cut 24 = .ok (.if_icmp .gt 5, 3) := by decide +kernel
theorem dX4_cut_27 : decode cX4_cut 27 = .ok (.iconst (-1), 1) := by decide +kernel
theorem dX4_cut_28 : decode cX4_cut 28 = .ok (.ireturn, 1) := by decide +kernel
theorem dX4_cut_29 : decode cX4_cut 29 = .ok (.aload_n 0, 1) := by decide +kernel
theorem dX4_cut_30 : decode cX4_cut 30 = .ok (.getfield 10, 3) := by decide +kernel
theorem dX4_cut_33 : decode cX4_cut 33 = .ok (.iconst 0, 1) := by decide +kernel
theorem dX4_cut_34 : decode cX4_cut 34 = .ok (.invokevirtual 90, 3) := by decide +kernel
theorem dX4_cut_37 : decode cX4_cut 37 = .ok (.iload_n 2, 1) := by decide +kernel
theorem dX4_cut_38 : decode cX4_cut 38 = .ok (.iload_n 1, 1) := by decide +kernel
theorem dX4_cut_39 : decode cX4_cut 39 = .ok (.isub, 1) := by decide +kernel
theorem dX4_cut_40 : decode cX4_cut 40 = .ok (.isub, 1) := by decide +kernel
theorem dX4_cut_41 : decode cX4_cut 41 = .ok (.bipush 20, 2) := by decide +kernel
theorem dX4_cut_43 : decode cX4_cut 43 = .ok (.if_icmp .ge 6, 3) := by decide +kernel
theorem dX4_cut_46 : decode cX4_cut 46 = .ok (.bipush (-2), 2) := by decide +kernel
theorem dX4_cut_48 : decode cX4_cut 48 = .ok (.ireturn, 1) := by decide +kernel
theorem dX4_cut_49 : decode cX4_cut 49 = .ok (.aload_n 0, 1) := by decide +kernel
theorem dX4_cut_50 : decode cX4_cut 50 = .ok (.getfield 10, 3) := by decide +kernel
theorem dX4_cut_53 : decode cX4_cut 53 = .ok (.iload_n 1, 1) := by decide +kernel
theorem dX4_cut_54 : decode cX4_cut 54 = .ok (.iload_n 2, 1) := by decide +kernel
theorem dX4_cut_55 : decode cX4_cut 55 = .ok (.invokevirtual 222, 3) := by decide +kernel
theorem dX4_cut_58 : decode cX4_cut 58 = .ok (.ireturn, 1) := by decide +kernel
set_option maxRecDepth 20000 in
theorem ggX4_holds_X4_isBetween : GoodIn wsX4_holds wsX4_isBetween := goodIn_r _ [5] (by decide +kernel) (by decide +kernel)
set_option maxRecDepth 20000 in
theorem gX4_holds_X4_isBetween : GoodIn wsX4_holds (va_wsS RX4 69 yX4_isBetween wsX4_isBetween) := goodIn_app (goodIn_of _ (by decide +kernel)) ggX4_holds_X4_isBetween
set_option maxRecDepth 20000 in
theorem ggX4_holds_X2_roomFor : GoodIn wsX4_holds wsX2_roomFor := goodIn_r _ [10, 11, 12, 13, 9, 14, 15, 16, 17, 18, 19, 20, 4, 21, 34, 35, 36, 37, 38, 39, 40, 41, 42, 43, 44, 45, 46, 47] (by decide +kernel) (by decide +kernel)
set_option maxRecDepth 20000 in
theorem gX4_holds_X2_roomFor : GoodIn wsX4_holds (wsV RX4 225 RX2 yX2_roomFor wsX2_roomFor) := goodIn_app (goodIn_of _ (by decide +kernel)) ggX4_holds_X2_roomFor
theorem dX4_holds_0 : decode cX4_holds 0 = .ok (.iload_n 1, 1) := by decide +kernel
theorem dX4_holds_1 : decode cX4_holds 1 = .ok (.iconst 1, 1) := by decide +kernel
theorem dX4_holds_2 : decode cX4_holds 2 = .ok (.bipush 99, 2) := by decide +kernel
theorem dX4_holds_4 : decode cX4_holds 4 = .ok (.invokestatic 69, 3) := by decide +kernel
theorem dX4_holds_7 : decode cX4_holds 7 = .ok (.ifCond .eq 14, 3) := by decide +kernel
theorem dX4_holds_10 : decode cX4_holds 10 = .ok (.aload_n 0, 1) := by decide +kernel
theorem dX4_holds_11 : decode cX4_holds 11 = .ok (.getfield 10, 3) := by decide +kernel
theorem dX4_holds_14 : decode cX4_holds 14 = .ok (.iload_n 1, 1) := by decide +kernel
theorem dX4_holds_15 : decode cX4_holds 15 = .ok (.invokevirtual 225, 3) := by decide +kernel
theorem dX4_holds_18 : decode cX4_holds 18 = .ok (.goto 4, 3) := by decide +kernel
theorem dX4_holds_21 : decode cX4_holds 21 = .ok (.iconst (-1), 1) := by decide +kernel
theorem dX4_holds_22 : decode cX4_holds 22 = .ok (.ireturn, 1) := by decide +kernel
set_option maxRecDepth 20000 in
theorem ggX4_most_X4_isBetween : GoodIn wsX4_most wsX4_isBetween := goodIn_r _ [5] (by decide +kernel) (by decide +kernel)
set_option maxRecDepth 20000 in
theorem gX4_most_X4_isBetween : GoodIn wsX4_most (va_wsS RX4 69 yX4_isBetween wsX4_isBetween) := goodIn_app (goodIn_of _ (by decide +kernel)) ggX4_most_X4_isBetween
set_option maxRecDepth 20000 in
theorem ggX4_most_X2_roomFor : GoodIn wsX4_most wsX2_roomFor := goodIn_r _ [10, 11, 12, 13, 9, 14, 15, 16, 17, 18, 19, 20, 4, 21, 34, 35, 36, 37, 38, 39, 40, 41, 42, 43, 44, 45, 46, 47] (by decide +kernel) (by decide +kernel)
set_option maxRecDepth 20000 in
theorem gX4_most_X2_roomFor : GoodIn wsX4_most (wsV RX4 225 RX2 yX2_roomFor wsX2_roomFor) := goodIn_app (goodIn_of _ (by decide +kernel)) ggX4_most_X2_roomFor
theorem dX4_most_0 : decode cX4_most 0 = .ok (.iload_n 1, 1) := by decide +kernel
theorem dX4_most_1 : decode cX4_most 1 = .ok (.iconst 0, 1) := by decide +kernel
theorem dX4_most_2 : decode cX4_most 2 = .ok (.iconst 1, 1) := by decide +kernel
theorem dX4_most_3 : decode cX4_most 3 = .ok (.invokestatic 69, 3) := by decide +kernel
theorem dX4_most_6 : decode cX4_most 6 = .ok (.ifCond .ne 5, 3) := by decide +kernel
theorem dX4_most_9 : decode cX4_most 9 = .ok (.iconst (-1), 1) := by decide +kernel
theorem dX4_most_10 : decode cX4_most 10 = .ok (.ireturn, 1) := by decide +kernel
theorem dX4_most_11 : decode cX4_most 11 = .ok (.iconst 1, 1) := by decide +kernel
theorem dX4_most_12 : decode cX4_most 12 = .ok (.istore_n 2, 1) := by decide +kernel
theorem dX4_most_13 : decode cX4_most 13 = .ok (.aload_n 0, 1) := by decide +kernel
theorem dX4_most_14 : decode cX4_most 14 = .ok (.getfield 10, 3) := by decide +kernel
theorem dX4_most_17 : decode cX4_most 17 = .ok (.iconst 1, 1) := by decide +kernel
theorem dX4_most_18 : decode cX4_most 18 = .ok (.invokevirtual 225, 3) := by decide +kernel
theorem dX4_most_21 : decode cX4_most 21 = .ok (.istore_n 3, 1) := by decide +kernel
theorem dX4_most_22 : decode cX4_most 22 = .ok (.iconst 2, 1) := by decide +kernel
theorem dX4_most_23 : decode cX4_most 23 = .ok (.istore 4, 2) := by decide +kernel
theorem dX4_most_25 : decode cX4_most 25 = .ok (.iload 4, 2) := by decide +kernel
theorem dX4_most_27 : decode cX4_most 27 = .ok (.bipush 99, 2) := by decide +kernel
theorem dX4_most_29 : decode cX4_most 29 = .ok (.if_icmp .gt 35, 3) := by decide +kernel
theorem dX4_most_32 : decode cX4_most 32 = .ok (.iload 4, 2) := by decide +kernel
theorem dX4_most_34 : decode cX4_most 34 = .ok (.aload_n 0, 1) := by decide +kernel
theorem dX4_most_35 : decode cX4_most 35 = .ok (.getfield 10, 3) := by decide +kernel
theorem dX4_most_38 : decode cX4_most 38 = .ok (.iload 4, 2) := by decide +kernel
theorem dX4_most_40 : decode cX4_most 40 = .ok (.invokevirtual 225, 3) := by decide +kernel
theorem dX4_most_43 : decode cX4_most 43 = .ok (.imul, 1) := by decide +kernel
theorem dX4_most_44 : decode cX4_most 44 = .ok (.istore 5, 2) := by decide +kernel
theorem dX4_most_46 : decode cX4_most 46 = .ok (.iload 5, 2) := by decide +kernel
theorem dX4_most_48 : decode cX4_most 48 = .ok (.iload_n 3, 1) := by decide +kernel
theorem dX4_most_49 : decode cX4_most 49 = .ok (.if_icmp .le 9, 3) := by decide +kernel
theorem dX4_most_52 : decode cX4_most 52 = .ok (.iload 5, 2) := by decide +kernel
theorem dX4_most_54 : decode cX4_most 54 = .ok (.istore_n 3, 1) := by decide +kernel
theorem dX4_most_55 : decode cX4_most 55 = .ok (.iload 4, 2) := by decide +kernel
theorem dX4_most_57 : decode cX4_most 57 = .ok (.istore_n 2, 1) := by decide +kernel
theorem dX4_most_58 : decode cX4_most 58 = .ok (.iinc 4 1, 3) := by decide +kernel
theorem dX4_most_61 : decode cX4_most 61 = .ok (.goto (-36), 3) := by decide +kernel
theorem dX4_most_64 : decode cX4_most 64 = .ok (.iload_n 1, 1) := by decide +kernel
theorem dX4_most_65 : decode cX4_most 65 = .ok (.ifCond .ne 7, 3) := by decide +kernel
theorem dX4_most_68 : decode cX4_most 68 = .ok (.iload_n 2, 1) := by decide +kernel
theorem dX4_most_69 : decode cX4_most 69 = .ok (.goto 4, 3) := by decide +kernel
theorem dX4_most_72 : decode cX4_most 72 = .ok (.iload_n 3, 1) := by decide +kernel
theorem dX4_most_73 : decode cX4_most 73 = .ok (.ireturn, 1) := by decide +kernel
set_option maxRecDepth 20000 in
theorem ggX4_stream_X4_isStream : GoodIn wsX4_stream wsX4_isStream := goodIn_r _ [5, 6, 7, 4, 8] (by decide +kernel) (by decide +kernel)
set_option maxRecDepth 20000 in
theorem gX4_stream_X4_isStream : GoodIn wsX4_stream (va_wsS RX4 228 yX4_isStream wsX4_isStream) := goodIn_app (goodIn_of _ (by decide +kernel)) ggX4_stream_X4_isStream
set_option maxRecDepth 20000 in
theorem ggX4_stream_X4_isBetween : GoodIn wsX4_stream wsX4_isBetween := goodIn_r _ [8] (by decide +kernel) (by decide +kernel)
set_option maxRecDepth 20000 in
theorem gX4_stream_X4_isBetween : GoodIn wsX4_stream (va_wsS RX4 69 yX4_isBetween wsX4_isBetween) := goodIn_app (goodIn_of _ (by decide +kernel)) ggX4_stream_X4_isBetween
set_option maxRecDepth 20000 in
theorem ggX4_stream_X2_streamed : GoodIn wsX4_stream wsX2_streamed := goodIn_r _ [13, 14, 15, 16, 12, 17, 18, 19, 20, 21, 22, 23, 24, 25, 26, 27, 28, 29, 30, 31, 32, 45, 46, 47, 48, 49, 50, 51, 52, 53, 54, 55, 56, 57, 58] (by decide +kernel) (by decide +kernel)
set_option maxRecDepth 20000 in
theorem gX4_stream_X2_streamed : GoodIn wsX4_stream (wsV RX4 231 RX2 yX2_streamed wsX2_streamed) := goodIn_app (goodIn_of _ (by decide +kernel)) ggX4_stream_X2_streamed
theorem dX4_stream_0 : decode cX4_stream 0 = .ok (.iload_n 1, 1) := by decide +kernel
theorem dX4_stream_1 : decode cX4_stream 1 = .ok (.iload_n 2, 1) := by decide +kernel
theorem dX4_stream_2 : decode cX4_stream 2 = .ok (.iload_n 3, 1) := by decide +kernel
theorem dX4_stream_3 : decode cX4_stream 3 = .ok (.invokestatic 228, 3) := by decide +kernel
theorem dX4_stream_6 : decode cX4_stream 6 = .ok (.ifCond .eq 24, 3) := by decide +kernel
theorem dX4_stream_9 : decode cX4_stream 9 = .ok (.iload 4, 2) := by decide +kernel
theorem dX4_stream_11 : decode cX4_stream 11 = .ok (.iconst 1, 1) := by decide +kernel
theorem dX4_stream_12 : decode cX4_stream 12 = .ok (.bipush 99, 2) := by decide +kernel
theorem dX4_stream_14 : decode cX4_stream 14 = .ok (.invokestatic 69, 3) := by decide +kernel
theorem dX4_stream_17 : decode cX4_stream 17 = .ok (.ifCond .eq 13, 3) := by decide +kernel
theorem dX4_stream_20 : decode cX4_stream 20 = .ok (.iload 5, 2) := by decide +kernel
theorem dX4_stream_22 : decode cX4_stream 22 = .ok (.iconst 0, 1) := by decide +kernel
theorem dX4_stream_23 : decode cX4_stream 23 = .ok (.iconst 1, 1) := by decide +kernel
theorem dX4_stream_24 : decode cX4_stream 24 = .ok (.invokestatic 69, 3) := by decide +kernel
theorem dX4_stream_27 : decode cX4_stream 27 = .ok (.ifCond .ne 5, 3) := by decide +kernel
theorem dX4_stream_30 : decode cX4_stream 30 = .ok (.iconst (-1), 1) := by decide +kernel
theorem dX4_stream_31 : decode cX4_stream 31 = .ok (.ireturn, 1) := by decide +kernel
theorem dX4_stream_32 : decode cX4_stream 32 = .ok (.aload_n 0, 1) := by decide +kernel
theorem dX4_stream_33 : decode cX4_stream 33 = .ok (.getfield 10, 3) := by decide +kernel
theorem dX4_stream_36 : decode cX4_stream 36 = .ok (.iload_n 1, 1) := by decide +kernel
theorem dX4_stream_37 : decode cX4_stream 37 = .ok (.iload_n 2, 1) := by decide +kernel
theorem dX4_stream_38 : decode cX4_stream 38 = .ok (.iload_n 3, 1) := by decide +kernel
theorem dX4_stream_39 : decode cX4_stream 39 = .ok (.iload 4, 2) := by decide +kernel
theorem dX4_stream_41 : decode cX4_stream 41 = .ok (.iload 5, 2) := by decide +kernel
theorem dX4_stream_43 : decode cX4_stream 43 = .ok (.iconst 1, 1) := by decide +kernel
theorem dX4_stream_44 : decode cX4_stream 44 = .ok (.if_icmp .ne 7, 3) := by decide +kernel
theorem dX4_stream_47 : decode cX4_stream 47 = .ok (.iconst 1, 1) := by decide +kernel
theorem dX4_stream_48 : decode cX4_stream 48 = .ok (.goto 4, 3) := by decide +kernel
theorem dX4_stream_51 : decode cX4_stream 51 = .ok (.iconst 0, 1) := by decide +kernel
theorem dX4_stream_52 : decode cX4_stream 52 = .ok (.invokevirtual 231, 3) := by decide +kernel
theorem dX4_stream_55 : decode cX4_stream 55 = .ok (.ireturn, 1) := by decide +kernel
set_option maxRecDepth 20000 in
theorem ggX4_buffer_X4_isStream : GoodIn wsX4_buffer wsX4_isStream := goodIn_r _ [5, 6, 7, 4, 8] (by decide +kernel) (by decide +kernel)
set_option maxRecDepth 20000 in
theorem gX4_buffer_X4_isStream : GoodIn wsX4_buffer (va_wsS RX4 228 yX4_isStream wsX4_isStream) := goodIn_app (goodIn_of _ (by decide +kernel)) ggX4_buffer_X4_isStream
set_option maxRecDepth 20000 in
theorem ggX4_buffer_X4_isBetween : GoodIn wsX4_buffer wsX4_isBetween := goodIn_r _ [8] (by decide +kernel) (by decide +kernel)
set_option maxRecDepth 20000 in
theorem gX4_buffer_X4_isBetween : GoodIn wsX4_buffer (va_wsS RX4 69 yX4_isBetween wsX4_isBetween) := goodIn_app (goodIn_of _ (by decide +kernel)) ggX4_buffer_X4_isBetween
set_option maxRecDepth 20000 in
theorem ggX4_buffer_X2_streamed : GoodIn wsX4_buffer wsX2_streamed := goodIn_r _ [13, 14, 15, 16, 12, 17, 18, 19, 20, 21, 22, 23, 24, 25, 26, 27, 28, 29, 30, 31, 32, 45, 46, 47, 48, 49, 50, 51, 52, 53, 54, 55, 56, 57, 58] (by decide +kernel) (by decide +kernel)
set_option maxRecDepth 20000 in
theorem gX4_buffer_X2_streamed : GoodIn wsX4_buffer (wsV RX4 231 RX2 yX2_streamed wsX2_streamed) := goodIn_app (goodIn_of _ (by decide +kernel)) ggX4_buffer_X2_streamed
theorem dX4_buffer_0 : decode cX4_buffer 0 = .ok (.iload_n 1, 1) := by decide +kernel
theorem dX4_buffer_1 : decode cX4_buffer 1 = .ok (.iload_n 2, 1) := by decide +kernel
theorem dX4_buffer_2 : decode cX4_buffer 2 = .ok (.iload_n 3, 1) := by decide +kernel
theorem dX4_buffer_3 : decode cX4_buffer 3 = .ok (.invokestatic 228, 3) := by decide +kernel
theorem dX4_buffer_6 : decode cX4_buffer 6 = .ok (.ifCond .eq 13, 3) := by decide +kernel
theorem dX4_buffer_9 : decode cX4_buffer 9 = .ok (.iload 4, 2) := by decide +kernel
theorem dX4_buffer_11 : decode cX4_buffer 11 = .ok (.iconst 0, 1) := by decide +kernel
theorem dX4_buffer_12 : decode cX4_buffer 12 = .ok (.iconst 1, 1) := by decide +kernel
theorem dX4_buffer_13 : decode cX4_buffer 13 = .ok (.invokestatic 69, 3) := by decide +kernel
theorem dX4_buffer_16 : decode cX4_buffer 16 = .ok (.ifCond .ne 5, 3) := by decide +kernel
theorem dX4_buffer_19 : decode cX4_buffer 19 = .ok (.iconst (-1), 1) := by decide +kernel
theorem dX4_buffer_20 : decode cX4_buffer 20 = .ok (.ireturn, 1) := by decide +kernel
theorem dX4_buffer_21 : decode cX4_buffer 21 = .ok (.iconst 1, 1) := by decide +kernel
theorem dX4_buffer_22 : decode cX4_buffer 22 = .ok (.istore 5, 2) := by decide +kernel
theorem dX4_buffer_24 : decode cX4_buffer 24 = .ok (.aload_n 0, 1) := by decide +kernel
theorem dX4_buffer_25 : decode cX4_buffer 25 = .ok (.getfield 10, 3) := by decide +kernel
theorem dX4_buffer_28 : decode cX4_buffer 28 = .ok (.iload_n 1, 1) := by decide +kernel
theorem dX4_buffer_29 : decode cX4_buffer 29 = .ok (.iload_n 2, 1) := by decide +kernel
theorem dX4_buffer_30 : decode cX4_buffer 30 = .ok (.iload_n 3, 1) := by decide +kernel
theorem dX4_buffer_31 : decode cX4_buffer 31 = .ok (.iconst 1, 1) := by decide +kernel
theorem dX4_buffer_32 : decode cX4_buffer 32 = .ok (.iconst 0, 1) := by decide +kernel
theorem dX4_buffer_33 : decode cX4_buffer 33 = .ok (.invokevirtual 231, 3) := by decide +kernel
theorem dX4_buffer_36 : decode cX4_buffer 36 = .ok (.istore 6, 2) := by decide +kernel
theorem dX4_buffer_38 : decode cX4_buffer 38 = .ok (.iconst 2, 1) := by decide +kernel
theorem dX4_buffer_39 : decode cX4_buffer 39 = .ok (.istore 7, 2) := by decide +kernel
theorem dX4_buffer_41 : decode cX4_buffer 41 = .ok (.iload 7, 2) := by decide +kernel
theorem dX4_buffer_43 : decode cX4_buffer 43 = .ok (.iload_n 1, 1) := by decide +kernel
theorem dX4_buffer_44 : decode cX4_buffer 44 = .ok (.if_icmp .gt 39, 3) := by decide +kernel
theorem dX4_buffer_47 : decode cX4_buffer 47 = .ok (.aload_n 0, 1) := by decide +kernel
theorem dX4_buffer_48 : decode cX4_buffer 48 = .ok (.getfield 10, 3) := by decide +kernel
theorem dX4_buffer_51 : decode cX4_buffer 51 = .ok (.iload_n 1, 1) := by decide +kernel
theorem dX4_buffer_52 : decode cX4_buffer 52 = .ok (.iload_n 2, 1) := by decide +kernel
theorem dX4_buffer_53 : decode cX4_buffer 53 = .ok (.iload_n 3, 1) := by decide +kernel
theorem dX4_buffer_54 : decode cX4_buffer 54 = .ok (.iload 7, 2) := by decide +kernel
theorem dX4_buffer_56 : decode cX4_buffer 56 = .ok (.iconst 0, 1) := by decide +kernel
theorem dX4_buffer_57 : decode cX4_buffer 57 = .ok (.invokevirtual 231, 3) := by decide +kernel
theorem dX4_buffer_60 : decode cX4_buffer 60 = .ok (.istore 8, 2) := by decide +kernel
theorem dX4_buffer_62 : decode cX4_buffer 62 = .ok (.iload 8, 2) := by decide +kernel
theorem dX4_buffer_64 : decode cX4_buffer 64 = .ok (.iload 6, 2) := by decide +kernel
theorem dX4_buffer_66 : decode cX4_buffer 66 = .ok (.if_icmp .ge 11, 3) := by decide +kernel
theorem dX4_buffer_69 : decode cX4_buffer 69 = .ok (.iload 8, 2) := by decide +kernel
theorem dX4_buffer_71 : decode cX4_buffer 71 = .ok (.istore 6, 2) := by decide +kernel
theorem dX4_buffer_73 : decode cX4_buffer 73 = .ok (.iload 7, 2) := by decide +kernel
theorem dX4_buffer_75 : decode cX4_buffer 75 = .ok (.istore 5, 2) := by decide +kernel
theorem dX4_buffer_77 : decode cX4_buffer 77 = .ok (.iinc 7 1, 3) := by decide +kernel
theorem dX4_buffer_80 : decode cX4_buffer 80 = .ok (.goto (-39), 3) := by decide +kernel
theorem dX4_buffer_83 : decode cX4_buffer 83 = .ok (.iload 4, 2) := by decide +kernel
theorem dX4_buffer_85 : decode cX4_buffer 85 = .ok (.ifCond .ne 8, 3) := by decide +kernel
theorem dX4_buffer_88 : decode cX4_buffer 88 = .ok (.iload 5, 2) := by decide +kernel
theorem dX4_buffer_90 : decode cX4_buffer 90 = .ok (.goto 5, 3) := by decide +kernel
theorem dX4_buffer_93 : decode cX4_buffer 93 = .ok (.iload 6, 2) := by decide +kernel
theorem dX4_buffer_95 : decode cX4_buffer 95 = .ok (.ireturn, 1) := by decide +kernel
set_option maxRecDepth 20000 in
theorem ggX4_saw_X4_isBetween : GoodIn wsX4_saw wsX4_isBetween := goodIn_r _ [6] (by decide +kernel) (by decide +kernel)
set_option maxRecDepth 20000 in
theorem gX4_saw_X4_isBetween : GoodIn wsX4_saw (va_wsS RX4 69 yX4_isBetween wsX4_isBetween) := goodIn_app (goodIn_of _ (by decide +kernel)) ggX4_saw_X4_isBetween
set_option maxRecDepth 20000 in
theorem ggX4_saw_X2_addSeen : GoodIn wsX4_saw wsX2_addSeen := goodIn_r _ [11, 12, 13, 14, 15, 5, 16, 29, 30, 31, 32, 33, 34, 35, 36, 37, 38, 39, 40, 41, 42] (by decide +kernel) (by decide +kernel)
set_option maxRecDepth 20000 in
theorem gX4_saw_X2_addSeen : GoodIn wsX4_saw (wsV RX4 238 RX2 yX2_addSeen wsX2_addSeen) := goodIn_app (goodIn_of _ (by decide +kernel)) ggX4_saw_X2_addSeen
theorem dX4_saw_0 : decode cX4_saw 0 = .ok (.iload_n 1, 1) := by decide +kernel
theorem dX4_saw_1 : decode cX4_saw 1 = .ok (.iconst 0, 1) := by decide +kernel
theorem dX4_saw_2 : decode cX4_saw 2 = .ok (.sipush 999, 3) := by decide +kernel
theorem dX4_saw_5 : decode cX4_saw 5 = .ok (.invokestatic 69, 3) := by decide +kernel
theorem dX4_saw_8 : decode cX4_saw 8 = .ok (.ifCond .eq 14, 3) := by decide +kernel
theorem dX4_saw_11 : decode cX4_saw 11 = .ok (.iload_n 2, 1) := by decide +kernel
theorem dX4_saw_12 : decode cX4_saw 12 = .ok (.iconst 0, 1) := by decide +kernel
theorem dX4_saw_13 : decode cX4_saw 13 = .ok (.sipush 9999, 3) := by decide +kernel
theorem dX4_saw_16 : decode cX4_saw 16 = .ok (.invokestatic 69, 3) := by decide +kernel
theorem dX4_saw_19 : decode cX4_saw 19 = .ok (.ifCond .ne 5, 3) := by decide +kernel
theorem dX4_saw_22 : decode cX4_saw 22 = .ok (.iconst (-1), 1) := by decide +kernel
theorem dX4_saw_23 : decode cX4_saw 23 = .ok (.ireturn, 1) := by decide +kernel
theorem dX4_saw_24 : decode cX4_saw 24 = .ok (.aload_n 0, 1) := by decide +kernel
theorem dX4_saw_25 : decode cX4_saw 25 = .ok (.getfield 10, 3) := by decide +kernel
theorem dX4_saw_28 : decode cX4_saw 28 = .ok (.getfield 235, 3) := by decide +kernel
theorem dX4_saw_31 : decode cX4_saw 31 = .ok (.bipush 12, 2) := by decide +kernel
theorem dX4_saw_33 : decode cX4_saw 33 = .ok (.if_icmp .lt 6, 3) := by decide +kernel
theorem dX4_saw_36 : decode cX4_saw 36 = .ok (.bipush (-3), 2) := by decide +kernel
theorem dX4_saw_38 : decode cX4_saw 38 = .ok (.ireturn, 1) := by decide +kernel
theorem dX4_saw_39 : decode cX4_saw 39 = .ok (.aload_n 0, 1) := by decide +kernel
theorem dX4_saw_40 : decode cX4_saw 40 = .ok (.getfield 10, 3) := by decide +kernel
theorem dX4_saw_43 : decode cX4_saw 43 = .ok (.iload_n 1, 1) := by decide +kernel
theorem dX4_saw_44 : decode cX4_saw 44 = .ok (.iload_n 2, 1) := by decide +kernel
theorem dX4_saw_45 : decode cX4_saw 45 = .ok (.invokevirtual 238, 3) := by decide +kernel
theorem dX4_saw_48 : decode cX4_saw 48 = .ok (.ireturn, 1) := by decide +kernel
theorem dX4_forget_0 : decode cX4_forget 0 = .ok (.aload_n 0, 1) := by decide +kernel
theorem dX4_forget_1 : decode cX4_forget 1 = .ok (.getfield 10, 3) := by decide +kernel
theorem dX4_forget_4 : decode cX4_forget 4 = .ok (.getfield 235, 3) := by decide +kernel
theorem dX4_forget_7 : decode cX4_forget 7 = .ok (.istore_n 1, 1) := by decide +kernel
theorem dX4_forget_8 : decode cX4_forget 8 = .ok (.aload_n 0, 1) := by decide +kernel
theorem dX4_forget_9 : decode cX4_forget 9 = .ok (.getfield 10, 3) := by decide +kernel
theorem dX4_forget_12 : decode cX4_forget 12 = .ok (.iconst 0, 1) := by decide +kernel
theorem dX4_forget_13 : decode cX4_forget 13 = .ok (.putfield 235, 3) := by decide +kernel
theorem dX4_forget_16 : decode cX4_forget 16 = .ok (.iload_n 1, 1) := by decide +kernel
theorem dX4_forget_17 : decode cX4_forget 17 = .ok (.ireturn, 1) := by decide +kernel
set_option maxRecDepth 20000 in
theorem ggX4_fits_X4_isBetween : GoodIn wsX4_fits wsX4_isBetween := goodIn_r _ [7] (by decide +kernel) (by decide +kernel)
set_option maxRecDepth 20000 in
theorem gX4_fits_X4_isBetween : GoodIn wsX4_fits (va_wsS RX4 69 yX4_isBetween wsX4_isBetween) := goodIn_app (goodIn_of _ (by decide +kernel)) ggX4_fits_X4_isBetween
set_option maxRecDepth 20000 in
theorem ggX4_fits_X4_cell : GoodIn wsX4_fits wsX4_cell := goodIn_r _ [10] (by decide +kernel) (by decide +kernel)
set_option maxRecDepth 20000 in
theorem gX4_fits_X4_cell : GoodIn wsX4_fits (va_wsS RX4 245 yX4_cell wsX4_cell) := goodIn_app (goodIn_of _ (by decide +kernel)) ggX4_fits_X4_cell
set_option maxRecDepth 20000 in
theorem ggX4_fits_X2_canBe : GoodIn wsX4_fits wsX2_canBe := goodIn_r _ [15, 16, 17, 18, 9, 6, 10, 19, 20, 33, 34, 35, 36, 37, 38, 39, 40, 41, 42, 43, 44, 45, 46] (by decide +kernel) (by decide +kernel)
set_option maxRecDepth 20000 in
theorem gX4_fits_X2_canBe : GoodIn wsX4_fits (wsV RX4 252 RX2 yX2_canBe wsX2_canBe) := goodIn_app (goodIn_of _ (by decide +kernel)) ggX4_fits_X2_canBe
theorem dX4_fits_0 : decode cX4_fits 0 = .ok (.iload_n 1, 1) := by decide +kernel
theorem dX4_fits_1 : decode cX4_fits 1 = .ok (.iconst 0, 1) := by decide +kernel
theorem dX4_fits_2 : decode cX4_fits 2 = .ok (.iconst 2, 1) := by decide +kernel
theorem dX4_fits_3 : decode cX4_fits 3 = .ok (.invokestatic 69, 3) := by decide +kernel
theorem dX4_fits_6 : decode cX4_fits 6 = .ok (.ifCond .ne 5, 3) := by decide +kernel
theorem dX4_fits_9 : decode cX4_fits 9 = .ok (.iconst (-1), 1) := by decide +kernel
theorem dX4_fits_10 : decode cX4_fits 10 = .ok (.ireturn, 1) := by decide +kernel
theorem dX4_fits_11 : decode cX4_fits 11 = .ok (.iconst 0, 1) := by decide +kernel
theorem dX4_fits_12 : decode cX4_fits 12 = .ok (.istore_n 2, 1) := by decide +kernel
theorem dX4_fits_13 : decode cX4_fits 13 = .ok (.getstatic 241, 3) := by decide +kernel
theorem dX4_fits_16 : decode cX4_fits 16 = .ok (.iconst 1, 1) := by decide +kernel
theorem dX4_fits_17 : decode cX4_fits 17 = .ok (.invokestatic 245, 3) := by decide +kernel
theorem dX4_fits_20 : decode cX4_fits 20 = .ok (.istore_n 3, 1) := by decide +kernel
theorem dX4_fits_21 : decode cX4_fits 21 = .ok (.iload_n 3, 1) := by decide +kernel
theorem dX4_fits_22 : decode cX4_fits 22 = .ok (.getstatic 249, 3) := by decide +kernel
theorem dX4_fits_25 : decode cX4_fits 25 = .ok (.iconst 1, 1) := by decide +kernel
theorem dX4_fits_26 : decode cX4_fits 26 = .ok (.invokestatic 245, 3) := by decide +kernel
theorem dX4_fits_29 : decode cX4_fits 29 = .ok (.if_icmp .gt 70, 3) := by decide +kernel
theorem dX4_fits_32 : decode cX4_fits 32 = .ok (.getstatic 241, 3) := by decide +kernel
theorem dX4_fits_35 : decode cX4_fits 35 = .ok (.iconst 2, 1) := by decide +kernel
theorem dX4_fits_36 : decode cX4_fits 36 = .ok (.invokestatic 245, 3) := by decide +kernel
theorem dX4_fits_39 : decode cX4_fits 39 = .ok (.istore 4, 2) := by decide +kernel
theorem dX4_fits_41 : decode cX4_fits 41 = .ok (.iload 4, 2) := by decide +kernel
theorem dX4_fits_43 : decode cX4_fits 43 = .ok (.getstatic 249, 3) := by decide +kernel
theorem dX4_fits_46 : decode cX4_fits 46 = .ok (.iconst 2, 1) := by decide +kernel
theorem dX4_fits_47 : decode cX4_fits 47 = .ok (.invokestatic 245, 3) := by decide +kernel
theorem dX4_fits_50 : decode cX4_fits 50 = .ok (.if_icmp .gt 43, 3) := by decide +kernel
theorem dX4_fits_53 : decode cX4_fits 53 = .ok (.aload_n 0, 1) := by decide +kernel
theorem dX4_fits_54 : decode cX4_fits 54 = .ok (.getfield 10, 3) := by decide +kernel
theorem dX4_fits_57 : decode cX4_fits 57 = .ok (.iload_n 3, 1) := by decide +kernel
theorem dX4_fits_58 : decode cX4_fits 58 = .ok (.iload 4, 2) := by decide +kernel
theorem dX4_fits_60 : decode cX4_fits 60 = .ok (.invokevirtual 252, 3) := by decide +kernel
theorem dX4_fits_63 : decode cX4_fits 63 = .ok (.ifCond .ne 6, 3) := by decide +kernel
theorem dX4_fits_66 : decode cX4_fits 66 = .ok (.goto 21, 3) := by decide +kernel
theorem dX4_fits_69 : decode cX4_fits 69 = .ok (.iload_n 1, 1) := by decide +kernel
theorem dX4_fits_70 : decode cX4_fits 70 = .ok (.iconst 1, 1) := by decide +kernel
theorem dX4_fits_71 : decode cX4_fits 71 = .ok (.if_icmp .ne 5, 3) := by decide +kernel
theorem dX4_fits_74 : decode cX4_fits 74 = .ok (.iload_n 3, 1) := by decide +kernel
theorem dX4_fits_75 : decode cX4_fits 75 = .ok (.ireturn, 1) := by decide +kernel
theorem dX4_fits_76 : decode cX4_fits 76 = .ok (.iload_n 1, 1) := by decide +kernel
theorem dX4_fits_77 : decode cX4_fits 77 = .ok (.iconst 2, 1) := by decide +kernel
theorem dX4_fits_78 : decode cX4_fits 78 = .ok (.if_icmp .ne 6, 3) := by decide +kernel
theorem dX4_fits_81 : decode cX4_fits 81 = .ok (.iload 4, 2) := by decide +kernel
theorem dX4_fits_83 : decode cX4_fits 83 = .ok (.ireturn, 1) := by decide +kernel
theorem dX4_fits_84 : decode cX4_fits 84 = .ok (.iinc 2 1, 3) := by decide +kernel
theorem dX4_fits_87 : decode cX4_fits 87 = .ok (.iinc 4 1, 3) := by decide +kernel
theorem dX4_fits_90 : decode cX4_fits 90 = .ok (.goto (-49), 3) := by decide +kernel
theorem dX4_fits_93 : decode cX4_fits 93 = .ok (.iinc 3 1, 3) := by decide +kernel
theorem dX4_fits_96 : decode cX4_fits 96 = .ok (.goto (-75), 3) := by decide +kernel
theorem dX4_fits_99 : decode cX4_fits 99 = .ok (.iload_n 1, 1) := by decide +kernel
theorem dX4_fits_100 : decode cX4_fits 100 = .ok (.ifCond .ne 7, 3) := by decide +kernel
theorem dX4_fits_103 : decode cX4_fits 103 = .ok (.iload_n 2, 1) := by decide +kernel
theorem dX4_fits_104 : decode cX4_fits 104 = .ok (.goto 5, 3) := by decide +kernel
theorem dX4_fits_107 : decode cX4_fits 107 = .ok (.bipush (-4), 2) := by decide +kernel
theorem dX4_fits_109 : decode cX4_fits 109 = .ok (.ireturn, 1) := by decide +kernel
set_option maxRecDepth 20000 in
theorem ggX4_keep_X4_isBetween : GoodIn wsX4_keep wsX4_isBetween := goodIn_r _ [6] (by decide +kernel) (by decide +kernel)
set_option maxRecDepth 20000 in
theorem gX4_keep_X4_isBetween : GoodIn wsX4_keep (va_wsS RX4 69 yX4_isBetween wsX4_isBetween) := goodIn_app (goodIn_of _ (by decide +kernel)) ggX4_keep_X4_isBetween
set_option maxRecDepth 20000 in
theorem ggX4_keep_X4_imageNumbered : GoodIn wsX4_keep wsX4_imageNumbered := goodIn_r _ [10, 11, 12, 42, 43, 44, 45, 46, 47, 48, 49, 50, 51, 52, 53] (by decide +kernel) (by decide +kernel)
set_option maxRecDepth 20000 in
theorem gX4_keep_X4_imageNumbered : GoodIn wsX4_keep (wsV RX4 255 RX4 yX4_imageNumbered wsX4_imageNumbered) := goodIn_app (goodIn_of _ (by decide +kernel)) ggX4_keep_X4_imageNumbered
set_option maxRecDepth 20000 in
theorem ggX4_keep_X2_becomes : GoodIn wsX4_keep wsX2_becomes := goodIn_r _ [17, 18, 19, 20, 21, 22, 23, 24, 25, 26, 27, 28, 29, 30, 31, 32, 5, 33, 34, 35, 36, 37, 38, 39, 40, 41, 54, 55, 56, 57, 58, 59, 60, 61, 62, 63, 64, 65, 66, 67] (by decide +kernel) (by decide +kernel)
set_option maxRecDepth 20000 in
theorem gX4_keep_X2_becomes : GoodIn wsX4_keep (wsV RX4 86 RX2 yX2_becomes wsX2_becomes) := goodIn_app (goodIn_of _ (by decide +kernel)) ggX4_keep_X2_becomes
theorem dX4_keep_0 : decode cX4_keep 0 = .ok (.iload_n 1, 1) := by decide +kernel
theorem dX4_keep_1 : decode cX4_keep 1 = .ok (.iconst 0, 1) := by decide +kernel
theorem dX4_keep_2 : decode cX4_keep 2 = .ok (.iconst 1, 1) := by decide +kernel
theorem dX4_keep_3 : decode cX4_keep 3 = .ok (.invokestatic 69, 3) := by decide +kernel
theorem dX4_keep_6 : decode cX4_keep 6 = .ok (.ifCond .ne 5, 3) := by decide +kernel
theorem dX4_keep_9 : decode cX4_keep 9 = .ok (.iconst (-1), 1) := by decide +kernel
theorem dX4_keep_10 : decode cX4_keep 10 = .ok (.ireturn, 1) := by decide +kernel
theorem dX4_keep_11 : decode cX4_keep 11 = .ok (.aload_n 0, 1) := by decide +kernel
theorem dX4_keep_12 : decode cX4_keep 12 = .ok (.getfield 59, 3) := by decide +kernel
theorem dX4_keep_15 : decode cX4_keep 15 = .ok (.iload_n 1, 1) := by decide +kernel
theorem dX4_keep_16 : decode cX4_keep 16 = .ok (.ishr, 1) := by decide +kernel
theorem dX4_keep_17 : decode cX4_keep 17 = .ok (.iconst 1, 1) := by decide +kernel
theorem dX4_keep_18 : decode cX4_keep 18 = .ok (.iand, 1) := by decide +kernel
theorem dX4_keep_19 : decode cX4_keep 19 = .ok (.istore_n 2, 1) := by decide +kernel
theorem dX4_keep_20 : decode cX4_keep 20 = .ok (.aload_n 0, 1) := by decide +kernel
theorem dX4_keep_21 : decode cX4_keep 21 = .ok (.iload_n 1, 1) := by decide +kernel
theorem dX4_keep_22 : decode cX4_keep 22 = .ok (.invokevirtual 255, 3) := by decide +kernel
theorem dX4_keep_25 : decode cX4_keep 25 = .ok (.aload_n 0, 1) := by decide +kernel
theorem dX4_keep_26 : decode cX4_keep 26 = .ok (.getfield 10, 3) := by decide +kernel
theorem dX4_keep_29 : decode cX4_keep 29 = .ok (.invokevirtual 86, 3) := by decide +kernel
theorem dX4_keep_32 : decode cX4_keep 32 = .ok (.aload_n 0, 1) := by decide +kernel
theorem dX4_keep_33 : decode cX4_keep 33 = .ok (.dup, 1) := by decide +kernel
theorem dX4_keep_34 : decode cX4_keep 34 = .ok (.getfield 59, 3) := by decide +kernel
theorem dX4_keep_37 : decode cX4_keep 37 = .ok (.iconst 1, 1) := by decide +kernel
theorem dX4_keep_38 : decode cX4_keep 38 = .ok (.iload_n 1, 1) := by decide +kernel
theorem dX4_keep_39 : decode cX4_keep 39 = .ok (.ishl, 1) := by decide +kernel
theorem dX4_keep_40 : decode cX4_keep 40 = .ok (.ior, 1) := by decide +kernel
theorem dX4_keep_41 : decode cX4_keep 41 = .ok (.putfield 59, 3) := by decide +kernel
theorem dX4_keep_44 : decode cX4_keep 44 = .ok (.iload_n 2, 1) := by decide +kernel
theorem dX4_keep_45 : decode cX4_keep 45 = .ok (.ireturn, 1) := by decide +kernel
set_option maxRecDepth 20000 in
theorem ggX4_back_X4_isBetween : GoodIn wsX4_back wsX4_isBetween := goodIn_r _ [7] (by decide +kernel) (by decide +kernel)
set_option maxRecDepth 20000 in
theorem gX4_back_X4_isBetween : GoodIn wsX4_back (va_wsS RX4 69 yX4_isBetween wsX4_isBetween) := goodIn_app (goodIn_of _ (by decide +kernel)) ggX4_back_X4_isBetween
set_option maxRecDepth 20000 in
theorem ggX4_back_X4_imageNumbered : GoodIn wsX4_back wsX4_imageNumbered := goodIn_r _ [11, 12, 13, 43, 44, 45, 46, 47, 48, 49, 50, 51, 52, 53, 54] (by decide +kernel) (by decide +kernel)
set_option maxRecDepth 20000 in
theorem gX4_back_X4_imageNumbered : GoodIn wsX4_back (wsV RX4 255 RX4 yX4_imageNumbered wsX4_imageNumbered) := goodIn_app (goodIn_of _ (by decide +kernel)) ggX4_back_X4_imageNumbered
set_option maxRecDepth 20000 in
theorem ggX4_back_X2_becomes : GoodIn wsX4_back wsX2_becomes := goodIn_r _ [18, 19, 20, 21, 22, 23, 24, 25, 26, 27, 28, 29, 30, 31, 32, 33, 6, 34, 35, 36, 37, 38, 39, 40, 41, 42, 55, 56, 57, 58, 59, 60, 61, 62, 63, 64, 65, 66, 67, 68] (by decide +kernel) (by decide +kernel)
set_option maxRecDepth 20000 in
theorem gX4_back_X2_becomes : GoodIn wsX4_back (wsV RX4 86 RX2 yX2_becomes wsX2_becomes) := goodIn_app (goodIn_of _ (by decide +kernel)) ggX4_back_X2_becomes
theorem dX4_back_0 : decode cX4_back 0 = .ok (.iload_n 1, 1) := by decide +kernel
theorem dX4_back_1 : decode cX4_back 1 = .ok (.iconst 0, 1) := by decide +kernel
theorem dX4_back_2 : decode cX4_back 2 = .ok (.iconst 1, 1) := by decide +kernel
theorem dX4_back_3 : decode cX4_back 3 = .ok (.invokestatic 69, 3) := by decide +kernel
theorem dX4_back_6 : decode cX4_back 6 = .ok (.ifCond .ne 5, 3) := by decide +kernel
theorem dX4_back_9 : decode cX4_back 9 = .ok (.iconst (-1), 1) := by decide +kernel
theorem dX4_back_10 : decode cX4_back 10 = .ok (.ireturn, 1) := by decide +kernel
theorem dX4_back_11 : decode cX4_back 11 = .ok (.aload_n 0, 1) := by decide +kernel
theorem dX4_back_12 : decode cX4_back 12 = .ok (.getfield 59, 3) := by decide +kernel
theorem dX4_back_15 : decode cX4_back 15 = .ok (.iload_n 1, 1) := by decide +kernel
theorem dX4_back_16 : decode cX4_back 16 = .ok (.ishr, 1) := by decide +kernel
theorem dX4_back_17 : decode cX4_back 17 = .ok (.iconst 1, 1) := by decide +kernel
theorem dX4_back_18 : decode cX4_back 18 = .ok (.iand, 1) := by decide +kernel
theorem dX4_back_19 : decode cX4_back 19 = .ok (.ifCond .ne 6, 3) := by decide +kernel
theorem dX4_back_22 : decode cX4_back 22 = .ok (.bipush (-2), 2) := by decide +kernel
theorem dX4_back_24 : decode cX4_back 24 = .ok (.ireturn, 1) := by decide +kernel
theorem dX4_back_25 : decode cX4_back 25 = .ok (.aload_n 0, 1) := by decide +kernel
theorem dX4_back_26 : decode cX4_back 26 = .ok (.getfield 10, 3) := by decide +kernel
theorem dX4_back_29 : decode cX4_back 29 = .ok (.aload_n 0, 1) := by decide +kernel
theorem dX4_back_30 : decode cX4_back 30 = .ok (.iload_n 1, 1) := by decide +kernel
theorem dX4_back_31 : decode cX4_back 31 = .ok (.invokevirtual 255, 3) := by decide +kernel
theorem dX4_back_34 : decode cX4_back 34 = .ok (.invokevirtual 86, 3) := by decide +kernel
theorem dX4_back_37 : decode cX4_back 37 = .ok (.aload_n 0, 1) := by decide +kernel
theorem dX4_back_38 : decode cX4_back 38 = .ok (.getfield 10, 3) := by decide +kernel
theorem dX4_back_41 : decode cX4_back 41 = .ok (.getfield 138, 3) := by decide +kernel
theorem dX4_back_44 : decode cX4_back 44 = .ok (.ireturn, 1) := by decide +kernel
set_option maxRecDepth 20000 in
theorem ggX4_sheet_X4_isBetween : GoodIn wsX4_sheet wsX4_isBetween := goodIn_r _ [4] (by decide +kernel) (by decide +kernel)
set_option maxRecDepth 20000 in
theorem gX4_sheet_X4_isBetween : GoodIn wsX4_sheet (va_wsS RX4 69 yX4_isBetween wsX4_isBetween) := goodIn_app (goodIn_of _ (by decide +kernel)) ggX4_sheet_X4_isBetween
set_option maxRecDepth 20000 in
theorem ggX4_sheet_X4_sheetNumbered : GoodIn wsX4_sheet wsX4_sheetNumbered := goodIn_r _ [8, 9, 10, 11, 12, 23, 24, 25, 26, 27, 28, 29, 30, 31, 32, 33, 34] (by decide +kernel) (by decide +kernel)
set_option maxRecDepth 20000 in
theorem gX4_sheet_X4_sheetNumbered : GoodIn wsX4_sheet (wsV RX4 259 RX4 yX4_sheetNumbered wsX4_sheetNumbered) := goodIn_app (goodIn_of _ (by decide +kernel)) ggX4_sheet_X4_sheetNumbered
set_option maxRecDepth 20000 in
theorem ggX4_sheet_X1_makeNew : GoodIn wsX4_sheet wsX1_makeNew := goodIn_r _ [17, 18, 19, 20, 21, 3, 22, 35, 36, 37] (by decide +kernel) (by decide +kernel)
set_option maxRecDepth 20000 in
theorem gX4_sheet_X1_makeNew : GoodIn wsX4_sheet (wsV RX4 263 RX1 yX1_makeNew wsX1_makeNew) := goodIn_app (goodIn_of _ (by decide +kernel)) ggX4_sheet_X1_makeNew
theorem dX4_sheet_0 : decode cX4_sheet 0 = .ok (.iload_n 1, 1) := by decide +kernel
theorem dX4_sheet_1 : decode cX4_sheet 1 = .ok (.iconst 0, 1) := by decide +kernel
theorem dX4_sheet_2 : decode cX4_sheet 2 = .ok (.iconst 3, 1) := by decide +kernel
theorem dX4_sheet_3 : decode cX4_sheet 3 = .ok (.invokestatic 69, 3) := by decide +kernel
theorem dX4_sheet_6 : decode cX4_sheet 6 = .ok (.ifCond .eq 18, 3) := by decide +kernel
theorem dX4_sheet_9 : decode cX4_sheet 9 = .ok (.iload_n 2, 1) := by decide +kernel
theorem dX4_sheet_10 : decode cX4_sheet 10 = .ok (.iconst 0, 1) := by decide +kernel
theorem dX4_sheet_11 : decode cX4_sheet 11 = .ok (.iconst 2, 1) := by decide +kernel
theorem dX4_sheet_12 : decode cX4_sheet 12 = .ok (.invokestatic 69, 3) := by decide +kernel
theorem dX4_sheet_15 : decode cX4_sheet 15 = .ok (.ifCond .eq 9, 3) := by decide +kernel
theorem dX4_sheet_18 : decode cX4_sheet 18 = .ok (.iload_n 3, 1) := by decide +kernel
theorem dX4_sheet_19 : decode cX4_sheet 19 = .ok (.bipush 40, 2) := by decide +kernel
theorem dX4_sheet_21 : decode cX4_sheet 21 = .ok (.if_icmp .le 5, 3) := by decide +kernel
theorem dX4_sheet_24 : decode cX4_sheet 24 = .ok (.iconst (-1), 1) := by decide +kernel
theorem dX4_sheet_25 : decode cX4_sheet 25 = .ok (.ireturn, 1) := by decide +kernel
theorem dX4_sheet_26 : decode cX4_sheet 26 = .ok (.iload_n 3, 1) := by decide +kernel
theorem dX4_sheet_27 : decode cX4_sheet 27 = .ok (.ifCond .ge 6, 3) := by decide +kernel
theorem dX4_sheet_30 : decode cX4_sheet 30 = .ok (.bipush (-14), 2) := by decide +kernel
theorem dX4_sheet_32 : decode cX4_sheet 32 = .ok (.ireturn, 1) := by decide +kernel
theorem dX4_sheet_33 : decode cX4_sheet 33 = .ok (.aload_n 0, 1) := by decide +kernel
theorem dX4_sheet_34 : decode cX4_sheet 34 = .ok (.iload_n 1, 1) := by decide +kernel
theorem dX4_sheet_35 : decode cX4_sheet 35 = .ok (.invokevirtual 259, 3) := by decide +kernel
theorem dX4_sheet_38 : decode cX4_sheet 38 = .ok (.iload_n 2, 1) := by decide +kernel
theorem dX4_sheet_39 : decode cX4_sheet 39 = .ok (.iload_n 3, 1) := by decide +kernel
theorem dX4_sheet_40 : decode cX4_sheet 40 = .ok (.invokevirtual 263, 3) := by decide +kernel
theorem dX4_sheet_43 : decode cX4_sheet 43 = .ok (.iconst 1, 1) := by decide +kernel
theorem dX4_sheet_44 : decode cX4_sheet 44 = .ok (.ireturn, 1) := by decide +kernel
set_option maxRecDepth 20000 in
theorem ggX4_lay_X4_isBetween : GoodIn wsX4_lay wsX4_isBetween := goodIn_r _ [5] (by decide +kernel) (by decide +kernel)
set_option maxRecDepth 20000 in
theorem gX4_lay_X4_isBetween : GoodIn wsX4_lay (va_wsS RX4 69 yX4_isBetween wsX4_isBetween) := goodIn_app (goodIn_of _ (by decide +kernel)) ggX4_lay_X4_isBetween
set_option maxRecDepth 20000 in
theorem ggX4_lay_X4_sheetNumbered : GoodIn wsX4_lay wsX4_sheetNumbered := goodIn_r _ [9, 10, 11, 12, 13, 35, 36, 37, 38, 39, 40, 41, 42, 43, 44, 45, 46] (by decide +kernel) (by decide +kernel)
set_option maxRecDepth 20000 in
theorem gX4_lay_X4_sheetNumbered : GoodIn wsX4_lay (wsV RX4 259 RX4 yX4_sheetNumbered wsX4_sheetNumbered) := goodIn_app (goodIn_of _ (by decide +kernel)) ggX4_lay_X4_sheetNumbered
set_option maxRecDepth 20000 in
theorem ggX4_lay_X1_faultOf : GoodIn wsX4_lay wsX1_faultOf := goodIn_r _ [18, 19, 20, 21, 22, 23, 17, 24, 3, 4, 5, 32, 33, 34] (by decide +kernel) (by decide +kernel)
set_option maxRecDepth 20000 in
theorem gX4_lay_X1_faultOf : GoodIn wsX4_lay (wsV RX4 270 RX1 yX1_faultOf wsX1_faultOf) := goodIn_app (goodIn_of _ (by decide +kernel)) ggX4_lay_X1_faultOf
set_option maxRecDepth 20000 in
theorem ggX4_lay_X1_put : GoodIn wsX4_lay wsX1_put := goodIn_r _ [28, 19, 29, 30, 4, 31, 32, 33, 34] (by decide +kernel) (by decide +kernel)
set_option maxRecDepth 20000 in
theorem gX4_lay_X1_put : GoodIn wsX4_lay (wsV RX4 273 RX1 yX1_put wsX1_put) := goodIn_app (goodIn_of _ (by decide +kernel)) ggX4_lay_X1_put
theorem dX4_lay_0 : decode cX4_lay 0 = .ok (.iload_n 1, 1) := by decide +kernel
theorem dX4_lay_1 : decode cX4_lay 1 = .ok (.iconst 0, 1) := by decide +kernel
theorem dX4_lay_2 : decode cX4_lay 2 = .ok (.iconst 3, 1) := by decide +kernel
theorem dX4_lay_3 : decode cX4_lay 3 = .ok (.invokestatic 69, 3) := by decide +kernel
theorem dX4_lay_6 : decode cX4_lay 6 = .ok (.ifCond .ne 5, 3) := by decide +kernel
theorem dX4_lay_9 : decode cX4_lay 9 = .ok (.iconst (-1), 1) := by decide +kernel
theorem dX4_lay_10 : decode cX4_lay 10 = .ok (.ireturn, 1) := by decide +kernel
theorem dX4_lay_11 : decode cX4_lay 11 = .ok (.aload_n 0, 1) := by decide +kernel
theorem dX4_lay_12 : decode cX4_lay 12 = .ok (.iload_n 1, 1) := by decide +kernel
theorem dX4_lay_13 : decode cX4_lay 13 = .ok (.invokevirtual 259, 3) := by decide +kernel
theorem dX4_lay_16 : decode cX4_lay 16 = .ok (.astore 4, 2) := by decide +kernel
theorem dX4_lay_18 : decode cX4_lay 18 = .ok (.aload 4, 2) := by decide +kernel
theorem dX4_lay_20 : decode cX4_lay 20 = .ok (.aload 4, 2) := by decide +kernel
theorem dX4_lay_22 : decode cX4_lay 22 = .ok (.getfield 267, 3) := by decide +kernel
theorem dX4_lay_25 : decode cX4_lay 25 = .ok (.iload_n 2, 1) := by decide +kernel
theorem dX4_lay_26 : decode cX4_lay 26 = .ok (.invokevirtual 270, 3) := by decide +kernel
theorem dX4_lay_29 : decode cX4_lay 29 = .ok (.istore 5, 2) := by decide +kernel
theorem dX4_lay_31 : decode cX4_lay 31 = .ok (.iload 5, 2) := by decide +kernel
theorem dX4_lay_33 : decode cX4_lay 33 = .ok (.ifCond .eq 9, 3) := by decide +kernel
theorem dX4_lay_36 : decode cX4_lay 36 = .ok (.bipush (-10), 2) := by decide +kernel
theorem dX4_lay_38 : decode cX4_lay 38 = .ok (.iload 5, 2) := by decide +kernel
theorem dX4_lay_40 : decode cX4_lay 40 = .ok (.isub, 1) := by decide +kernel
theorem dX4_lay_41 : decode cX4_lay 41 = .ok (.ireturn, 1) := by decide +kernel
theorem dX4_lay_42 : decode cX4_lay 42 = .ok (.aload 4, 2) := by decide +kernel
theorem dX4_lay_44 : decode cX4_lay 44 = .ok (.iload_n 2, 1) := by decide +kernel
theorem dX4_lay_45 : decode cX4_lay 45 = .ok (.iload_n 3, 1) := by decide +kernel
theorem dX4_lay_46 : decode cX4_lay 46 = .ok (.invokevirtual 273, 3) := by decide +kernel
theorem dX4_lay_49 : decode cX4_lay 49 = .ok (.iconst 1, 1) := by decide +kernel
theorem dX4_lay_50 : decode cX4_lay 50 = .ok (.ireturn, 1) := by decide +kernel
set_option maxRecDepth 20000 in
theorem ggX4_read_X4_isBetween : GoodIn wsX4_read wsX4_isBetween := goodIn_r _ [7] (by decide +kernel) (by decide +kernel)
set_option maxRecDepth 20000 in
theorem gX4_read_X4_isBetween : GoodIn wsX4_read (va_wsS RX4 69 yX4_isBetween wsX4_isBetween) := goodIn_app (goodIn_of _ (by decide +kernel)) ggX4_read_X4_isBetween
set_option maxRecDepth 20000 in
theorem ggX4_read_X4_sheetNumbered : GoodIn wsX4_read wsX4_sheetNumbered := goodIn_r _ [11, 12, 13, 14, 15, 43, 44, 45, 46, 47, 48, 49, 50, 51, 52, 53, 54] (by decide +kernel) (by decide +kernel)
set_option maxRecDepth 20000 in
theorem gX4_read_X4_sheetNumbered : GoodIn wsX4_read (wsV RX4 259 RX4 yX4_sheetNumbered wsX4_sheetNumbered) := goodIn_app (goodIn_of _ (by decide +kernel)) ggX4_read_X4_sheetNumbered
set_option maxRecDepth 20000 in
theorem ggX4_read_X1_faultOf : GoodIn wsX4_read wsX1_faultOf := goodIn_r _ [20, 21, 22, 23, 24, 25, 19, 26, 5, 6, 7, 69, 70, 71] (by decide +kernel) (by decide +kernel)
set_option maxRecDepth 20000 in
theorem gX4_read_X1_faultOf : GoodIn wsX4_read (wsV RX4 270 RX1 yX1_faultOf wsX1_faultOf) := goodIn_app (goodIn_of _ (by decide +kernel)) ggX4_read_X1_faultOf
set_option maxRecDepth 20000 in
theorem ggX4_read_X1_cellAt : GoodIn wsX4_read wsX1_cellAt := goodIn_r _ [30, 31, 32, 6, 33, 69, 70, 71] (by decide +kernel) (by decide +kernel)
set_option maxRecDepth 20000 in
theorem gX4_read_X1_cellAt : GoodIn wsX4_read (wsV RX4 276 RX1 yX1_cellAt wsX1_cellAt) := goodIn_app (goodIn_of _ (by decide +kernel)) ggX4_read_X1_cellAt
set_option maxRecDepth 20000 in
theorem ggX4_read_X2_typeOne : GoodIn wsX4_read wsX2_typeOne := goodIn_r _ [38, 39, 40, 41, 6, 42, 55, 56, 57, 58, 59, 60, 61, 62, 63, 64, 65, 66, 67, 68] (by decide +kernel) (by decide +kernel)
set_option maxRecDepth 20000 in
theorem gX4_read_X2_typeOne : GoodIn wsX4_read (wsV RX4 170 RX2 yX2_typeOne wsX2_typeOne) := goodIn_app (goodIn_of _ (by decide +kernel)) ggX4_read_X2_typeOne
theorem dX4_read_0 : decode cX4_read 0 = .ok (.iload_n 1, 1) := by decide +kernel
theorem dX4_read_1 : decode cX4_read 1 = .ok (.iconst 0, 1) := by decide +kernel
theorem dX4_read_2 : decode cX4_read 2 = .ok (.iconst 3, 1) := by decide +kernel
theorem dX4_read_3 : decode cX4_read 3 = .ok (.invokestatic 69, 3) := by decide +kernel
theorem dX4_read_6 : decode cX4_read 6 = .ok (.ifCond .eq 23, 3) := by decide +kernel
theorem dX4_read_9 : decode cX4_read 9 = .ok (.iload_n 2, 1) := by decide +kernel
theorem dX4_read_10 : decode cX4_read 10 = .ok (.iconst 0, 1) := by decide +kernel
theorem dX4_read_11 : decode cX4_read 11 = .ok (.iconst 2, 1) := by decide +kernel
theorem dX4_read_12 : decode cX4_read 12 = .ok (.invokestatic 69, 3) := by decide +kernel
theorem dX4_read_15 : decode cX4_read 15 = .ok (.ifCond .eq 14, 3) := by decide +kernel
theorem dX4_read_18 : decode cX4_read 18 = .ok (.iload 4, 2) := by decide +kernel
theorem dX4_read_20 : decode cX4_read 20 = .ok (.iconst 0, 1) := by decide +kernel
theorem dX4_read_21 : decode cX4_read 21 = .ok (.bipush 12, 2) := by decide +kernel
theorem dX4_read_23 : decode cX4_read 23 = .ok (.invokestatic 69, 3) := by decide +kernel
theorem dX4_read_26 : decode cX4_read 26 = .ok (.ifCond .ne 5, 3) := by decide +kernel
theorem dX4_read_29 : decode cX4_read 29 = .ok (.iconst (-1), 1) := by decide +kernel
theorem dX4_read_30 : decode cX4_read 30 = .ok (.ireturn, 1) := by decide +kernel
theorem dX4_read_31 : decode cX4_read 31 = .ok (.aload_n 0, 1) := by decide +kernel
theorem dX4_read_32 : decode cX4_read 32 = .ok (.iload_n 1, 1) := by decide +kernel
theorem dX4_read_33 : decode cX4_read 33 = .ok (.invokevirtual 259, 3) := by decide +kernel
theorem dX4_read_36 : decode cX4_read 36 = .ok (.astore 5, 2) := by decide +kernel
theorem dX4_read_38 : decode cX4_read 38 = .ok (.aload_n 0, 1) := by decide +kernel
theorem dX4_read_39 : decode cX4_read 39 = .ok (.getfield 10, 3) := by decide +kernel
theorem dX4_read_42 : decode cX4_read 42 = .ok (.getfield 135, 3) := by decide +kernel
theorem dX4_read_45 : decode cX4_read 45 = .ok (.istore 6, 2) := by decide +kernel
theorem dX4_read_47 : decode cX4_read 47 = .ok (.iconst 0, 1) := by decide +kernel
theorem dX4_read_48 : decode cX4_read 48 = .ok (.istore 7, 2) := by decide +kernel
theorem dX4_read_50 : decode cX4_read 50 = .ok (.iload 7, 2) := by decide +kernel
theorem dX4_read_52 : decode cX4_read 52 = .ok (.iload 4, 2) := by decide +kernel
theorem dX4_read_54 : decode cX4_read 54 = .ok (.if_icmp .ge 109, 3) := by decide +kernel
theorem dX4_read_57 : decode cX4_read 57 = .ok (.aload 5, 2) := by decide +kernel
theorem dX4_read_59 : decode cX4_read 59 = .ok (.iload_n 2, 1) := by decide +kernel
theorem dX4_read_60 : decode cX4_read 60 = .ok (.iload_n 3, 1) := by decide +kernel
theorem dX4_read_61 : decode cX4_read 61 = .ok (.iload 7, 2) := by decide +kernel
theorem dX4_read_63 : decode cX4_read 63 = .ok (.iadd, 1) := by decide +kernel
theorem dX4_read_64 : decode cX4_read 64 = .ok (.invokevirtual 270, 3) := by decide +kernel
theorem dX4_read_67 : decode cX4_read 67 = .ok (.istore 8, 2) := by decide +kernel
theorem dX4_read_69 : decode cX4_read 69 = .ok (.iload 8, 2) := by decide +kernel
theorem dX4_read_71 : decode cX4_read 71 = .ok (.ifCond .eq 12, 3) := by decide +kernel
theorem dX4_read_74 : decode cX4_read 74 = .ok (.aload_n 0, 1) := by decide +kernel
theorem dX4_read_75 : decode cX4_read 75 = .ok (.iload 8, 2) := by decide +kernel
theorem dX4_read_77 : decode cX4_read 77 = .ok (.putfield 56, 3) := by decide +kernel
theorem dX4_read_80 : decode cX4_read 80 = .ok (.iload 7, 2) := by decide +kernel
theorem dX4_read_82 : decode cX4_read 82 = .ok (.ireturn, 1) := by decide +kernel
theorem dX4_read_83 : decode cX4_read 83 = .ok (.aload 5, 2) := by decide +kernel
theorem dX4_read_85 : decode cX4_read 85 = .ok (.iload_n 3, 1) := by decide +kernel
theorem dX4_read_86 : decode cX4_read 86 = .ok (.iload 7, 2) := by decide +kernel
theorem dX4_read_88 : decode cX4_read 88 = .ok (.iadd, 1) := by decide +kernel
theorem dX4_read_89 : decode cX4_read 89 = .ok (.invokevirtual 276, 3) := by decide +kernel
theorem dX4_read_92 : decode cX4_read 92 = .ok (.istore 9, 2) := by decide +kernel
theorem dX4_read_94 : decode cX4_read 94 = .ok (.iload 9, 2) := by decide +kernel
theorem dX4_read_96 : decode cX4_read 96 = .ok (.iconst 0, 1) := by decide +kernel
theorem dX4_read_97 : decode cX4_read 97 = .ok (.sipush 255, 3) := by decide +kernel
theorem dX4_read_100 : decode cX4_read 100 = .ok (.invokestatic 69, 3) := by decide +kernel
theorem dX4_read_103 : decode cX4_read 103 = .ok (.istore 10, 2) := by decide +kernel
theorem dX4_read_105 : decode cX4_read 105 = .ok (.iload 10, 2) := by decide +kernel
theorem dX4_read_107 : decode cX4_read 107 = .ok (.ifCond .eq 15, 3) := by decide +kernel
theorem dX4_read_110 : decode cX4_read 110 = .ok (.aload_n 0, 1) := by decide +kernel
theorem dX4_read_111 : decode cX4_read 111 = .ok (.getfield 10, 3) := by decide +kernel
theorem dX4_read_114 : decode cX4_read 114 = .ok (.getfield 135, 3) := by decide +kernel
theorem dX4_read_117 : decode cX4_read 117 = .ok (.bipush 12, 2) := by decide +kernel
theorem dX4_read_119 : decode cX4_read 119 = .ok (.if_icmp .lt 28, 3) := by decide +kernel
theorem dX4_read_122 : decode cX4_read 122 = .ok (.aload_n 0, 1) := by decide +kernel
theorem dX4_read_123 : decode cX4_read 123 = .ok (.getfield 10, 3) := by decide +kernel
theorem dX4_read_126 : decode cX4_read 126 = .ok (.iload 6, 2) := by decide +kernel
theorem dX4_read_128 : decode cX4_read 128 = .ok (.putfield 135, 3) := by decide +kernel
theorem dX4_read_131 : decode cX4_read 131 = .ok (.iload 10, 2) := by decide +kernel
theorem dX4_read_133 : decode cX4_read 133 = .ok (.ifCond .eq 8, 3) := by decide +kernel
theorem dX4_read_136 : decode cX4_read 136 = .ok (.bipush (-3), 2) := by decide +kernel
theorem dX4_read_138 : decode cX4_read 138 = .ok (.goto 8, 3) := by decide +kernel
theorem dX4_read_141 : decode cX4_read 141 = .ok (.bipush (-20), 2) := by decide +kernel
theorem dX4_read_143 : decode cX4_read 143 = .ok (.iload 7, 2) := by decide +kernel
theorem dX4_read_145 : decode cX4_read 145 = .ok (.isub, 1) := by decide +kernel
theorem dX4_read_146 : decode cX4_read 146 = .ok (.ireturn, 1) := by decide +kernel
theorem dX4_read_147 : decode cX4_read 147 = .ok (.aload_n 0, 1) := by decide +kernel
theorem dX4_read_148 : decode cX4_read 148 = .ok (.getfield 10, 3) := by decide +kernel
theorem dX4_read_151 : decode cX4_read 151 = .ok (.iload 9, 2) := by decide +kernel
theorem dX4_read_153 : decode cX4_read 153 = .ok (.invokevirtual 170, 3) := by decide +kernel
theorem dX4_read_156 : decode cX4_read 156 = .ok (.pop, 1) := by decide +kernel
theorem dX4_read_157 : decode cX4_read 157 = .ok (.iinc 7 1, 3) := by decide +kernel
theorem dX4_read_160 : decode cX4_read 160 = .ok (.goto (-110), 3) := by decide +kernel
theorem dX4_read_163 : decode cX4_read 163 = .ok (.aload_n 0, 1) := by decide +kernel
theorem dX4_read_164 : decode cX4_read 164 = .ok (.iconst 0, 1) := by decide +kernel
theorem dX4_read_165 : decode cX4_read 165 = .ok (.putfield 56, 3) := by decide +kernel
theorem dX4_read_168 : decode cX4_read 168 = .ok (.iload 4, 2) := by decide +kernel
theorem dX4_read_170 : decode cX4_read 170 = .ok (.ireturn, 1) := by decide +kernel
theorem dX4_torn_0 : decode cX4_torn 0 = .ok (.aload_n 0, 1) := by decide +kernel
theorem dX4_torn_1 : decode cX4_torn 1 = .ok (.getfield 56, 3) := by decide +kernel
theorem dX4_torn_4 : decode cX4_torn 4 = .ok (.ireturn, 1) := by decide +kernel
set_option maxRecDepth 20000 in
theorem ggX4_count_X2_markCount : GoodIn wsX4_count wsX2_markCount := goodIn_r _ [13, 14, 15, 16, 17, 12, 18, 19, 20, 21, 22, 23, 24, 25, 26, 56, 57, 58, 59, 60, 61, 62, 63, 64, 65, 66, 67, 68, 69] (by decide +kernel) (by decide +kernel)
set_option maxRecDepth 20000 in
theorem gX4_count_X2_markCount : GoodIn wsX4_count (wsV RX4 279 RX2 yX2_markCount wsX2_markCount) := goodIn_app (goodIn_of _ (by decide +kernel)) ggX4_count_X2_markCount
set_option maxRecDepth 20000 in
theorem ggX4_count_X2_byteCount : GoodIn wsX4_count wsX2_byteCount := goodIn_r _ [30, 14, 19, 20, 21, 12, 22, 23, 24, 25, 26, 56, 57, 58, 59, 60, 61, 62, 63, 64, 65, 66, 67, 68, 69] (by decide +kernel) (by decide +kernel)
set_option maxRecDepth 20000 in
theorem gX4_count_X2_byteCount : GoodIn wsX4_count (wsV RX4 282 RX2 yX2_byteCount wsX2_byteCount) := goodIn_app (goodIn_of _ (by decide +kernel)) ggX4_count_X2_byteCount
set_option maxRecDepth 20000 in
theorem ggX4_count_J6_bitCount_0f7a4 : GoodIn wsX4_count wsJ6_bitCount_0f7a4 := goodIn_r _ [34, 35, 36, 37] (by decide +kernel) (by decide +kernel)
set_option maxRecDepth 20000 in
theorem gX4_count_J6_bitCount_0f7a4 : GoodIn wsX4_count (va_wsS RX4 201 yJ6_bitCount_0f7a4 wsJ6_bitCount_0f7a4) := goodIn_app (goodIn_of _ (by decide +kernel)) ggX4_count_J6_bitCount_0f7a4
set_option maxRecDepth 20000 in
theorem ggX4_count_X1_isNothing : GoodIn wsX4_count wsX1_isNothing := goodIn_r _ [42, 43, 80, 81, 82] (by decide +kernel) (by decide +kernel)
set_option maxRecDepth 20000 in
theorem gX4_count_X1_isNothing : GoodIn wsX4_count (wsV RX4 285 RX1 yX1_isNothing wsX1_isNothing) := goodIn_app (goodIn_of _ (by decide +kernel)) ggX4_count_X1_isNothing
theorem dX4_count_0 : decode cX4_count 0 = .ok (.iload_n 1, 1) := by decide +kernel
theorem dX4_count_1 : decode cX4_count 1 = .ok (.tableswitch 114 0 6 #[43, 51, 59, 67, 75, 83, 91], 43) := by decide +kernel
theorem dX4_count_44 : decode cX4_count 44 = .ok (.aload_n 0, 1) := by decide +kernel
theorem dX4_count_45 : decode cX4_count 45 = .ok (.getfield 10, 3) := by decide +kernel
theorem dX4_count_48 : decode cX4_count 48 = .ok (.getfield 138, 3) := by decide +kernel
theorem dX4_count_51 : decode cX4_count 51 = .ok (.ireturn, 1) := by decide +kernel
theorem dX4_count_52 : decode cX4_count 52 = .ok (.aload_n 0, 1) := by decide +kernel
theorem dX4_count_53 : decode cX4_count 53 = .ok (.getfield 10, 3) := by decide +kernel
theorem dX4_count_56 : decode cX4_count 56 = .ok (.invokevirtual 279, 3) := by decide +kernel
theorem dX4_count_59 : decode cX4_count 59 = .ok (.ireturn, 1) := by decide +kernel
theorem dX4_count_60 : decode cX4_count 60 = .ok (.aload_n 0, 1) := by decide +kernel
theorem dX4_count_61 : decode cX4_count 61 = .ok (.getfield 10, 3) := by decide +kernel
theorem dX4_count_64 : decode cX4_count 64 = .ok (.invokevirtual 282, 3) := by decide +kernel
theorem dX4_count_67 : decode cX4_count 67 = .ok (.ireturn, 1) := by decide +kernel
theorem dX4_count_68 : decode cX4_count 68 = .ok (.aload_n 0, 1) := by decide +kernel
theorem dX4_count_69 : decode cX4_count 69 = .ok (.getfield 10, 3) := by decide +kernel
theorem dX4_count_72 : decode cX4_count 72 = .ok (.getfield 235, 3) := by decide +kernel
theorem dX4_count_75 : decode cX4_count 75 = .ok (.ireturn, 1) := by decide +kernel
theorem dX4_count_76 : decode cX4_count 76 = .ok (.aload_n 0, 1) := by decide +kernel
theorem dX4_count_77 : decode cX4_count 77 = .ok (.getfield 59, 3) := by decide +kernel
theorem dX4_count_80 : decode cX4_count 80 = .ok (.invokestatic 201, 3) := by decide +kernel
theorem dX4_count_83 : decode cX4_count 83 = .ok (.ireturn, 1) := by decide +kernel
theorem dX4_count_84 : decode cX4_count 84 = .ok (.aload_n 0, 1) := by decide +kernel
theorem dX4_count_85 : decode cX4_count 85 = .ok (.getfield 19, 3) := by decide +kernel
theorem dX4_count_88 : decode cX4_count 88 = .ok (.getfield 62, 3) := by decide +kernel
theorem dX4_count_91 : decode cX4_count 91 = .ok (.ireturn, 1) := by decide +kernel
theorem dX4_count_92 : decode cX4_count 92 = .ok (.aload_n 0, 1) := by decide +kernel
theorem dX4_count_93 : decode cX4_count 93 = .ok (.getfield 39, 3) := by decide +kernel
theorem dX4_count_96 : decode cX4_count 96 = .ok (.invokevirtual 285, 3) := by decide +kernel
theorem dX4_count_99 : decode cX4_count 99 = .ok (.ifCond .eq 8, 3) := by decide +kernel
theorem dX4_count_102 : decode cX4_count 102 = .ok (.bipush (-4), 2) := by decide +kernel
theorem dX4_count_104 : decode cX4_count 104 = .ok (.goto 10, 3) := by decide +kernel
theorem dX4_count_107 : decode cX4_count 107 = .ok (.aload_n 0, 1) := by decide +kernel
theorem dX4_count_108 : decode cX4_count 108 = .ok (.getfield 39, 3) := by decide +kernel
theorem dX4_count_111 : decode cX4_count 111 = .ok (.getfield 289, 3) := by decide +kernel
theorem dX4_count_114 : decode cX4_count 114 = .ok (.ireturn, 1) := by decide +kernel
theorem dX4_count_115 : decode cX4_count 115 = .ok (.iconst (-1), 1) := by decide +kernel
theorem dX4_count_116 : decode cX4_count 116 = .ok (.ireturn, 1) := by decide +kernel
theorem dX4_imageNumbered_0 : decode cX4_imageNumbered 0 = .ok (.iload_n 1, 1) := by decide +kernel
theorem dX4_imageNumbered_1 : decode cX4_imageNumbered 1 = .ok (.ifCond .ne 10, 3) := by decide +kernel
theorem dX4_imageNumbered_4 : decode cX4_imageNumbered 4 = .ok (.aload_n 0, 1) := by decide +kernel
theorem dX4_imageNumbered_5 : decode cX4_imageNumbered 5 = .ok (.getfield 30, 3) := by decide +kernel
theorem dX4_imageNumbered_8 : decode cX4_imageNumbered 8 = .ok (.goto 7, 3) := by decide +kernel
theorem dX4_imageNumbered_11 : decode cX4_imageNumbered 11 = .ok (.aload_n 0, 1) := by decide +kernel
theorem dX4_imageNumbered_12 : decode cX4_imageNumbered 12 = .ok (.getfield 33, 3) := by decide +kernel
theorem dX4_imageNumbered_15 : decode cX4_imageNumbered 15 = .ok (.areturn, 1) := by decide +kernel
theorem dX4_sheetNumbered_0 : decode cX4_sheetNumbered 0 = .ok (.iload_n 1, 1) := by decide +kernel
theorem dX4_sheetNumbered_1 : decode cX4_sheetNumbered 1 = .ok (.tableswitch 42 0 2 #[27, 32, 37], 27) := by decide +kernel
theorem dX4_sheetNumbered_28 : decode cX4_sheetNumbered 28 = .ok (.aload_n 0, 1) := by decide +kernel
theorem dX4_sheetNumbered_29 : decode cX4_sheetNumbered 29 = .ok (.getfield 39, 3) := by decide +kernel
theorem dX4_sheetNumbered_32 : decode cX4_sheetNumbered 32 = .ok (.areturn, 1) := by decide +kernel
theorem dX4_sheetNumbered_33 : decode cX4_sheetNumbered 33 = .ok (.aload_n 0, 1) := by decide +kernel
theorem dX4_sheetNumbered_34 : decode cX4_sheetNumbered 34 = .ok (.getfield 43, 3) := by decide +kernel
theorem dX4_sheetNumbered_37 : decode cX4_sheetNumbered 37 = .ok (.areturn, 1) := by decide +kernel
theorem dX4_sheetNumbered_38 : decode cX4_sheetNumbered 38 = .ok (.aload_n 0, 1) := by decide +kernel
theorem dX4_sheetNumbered_39 : decode cX4_sheetNumbered 39 = .ok (.getfield 46, 3) := by decide +kernel
theorem dX4_sheetNumbered_42 : decode cX4_sheetNumbered 42 = .ok (.areturn, 1) := by decide +kernel
theorem dX4_sheetNumbered_43 : decode cX4_sheetNumbered 43 = .ok (.aload_n 0, 1) := by decide +kernel
theorem dX4_sheetNumbered_44 : decode cX4_sheetNumbered 44 = .ok (.getfield 49, 3) := by decide +kernel
theorem dX4_sheetNumbered_47 : decode cX4_sheetNumbered 47 = .ok (.areturn, 1) := by decide +kernel
set_option maxRecDepth 20000 in
theorem ggX4_isStream_X4_isBetween : GoodIn wsX4_isStream wsX4_isBetween := goodIn_r _ [4] (by decide +kernel) (by decide +kernel)
set_option maxRecDepth 20000 in
theorem gX4_isStream_X4_isBetween : GoodIn wsX4_isStream (va_wsS RX4 69 yX4_isBetween wsX4_isBetween) := goodIn_app (goodIn_of _ (by decide +kernel)) ggX4_isStream_X4_isBetween
theorem dX4_isStream_0 : decode cX4_isStream 0 = .ok (.iload_n 0, 1) := by decide +kernel
theorem dX4_isStream_1 : decode cX4_isStream 1 = .ok (.iconst 1, 1) := by decide +kernel
theorem dX4_isStream_2 : decode cX4_isStream 2 = .ok (.bipush 99, 2) := by decide +kernel
theorem dX4_isStream_4 : decode cX4_isStream 4 = .ok (.invokestatic 69, 3) := by decide +kernel
theorem dX4_isStream_7 : decode cX4_isStream 7 = .ok (.ifCond .eq 28, 3) := by decide +kernel
theorem dX4_isStream_10 : decode cX4_isStream 10 = .ok (.iload_n 1, 1) := by decide +kernel
theorem dX4_isStream_11 : decode cX4_isStream 11 = .ok (.iconst 1, 1) := by decide +kernel
theorem dX4_isStream_12 : decode cX4_isStream 12 = .ok (.bipush 99, 2) := by decide +kernel
theorem dX4_isStream_14 : decode cX4_isStream 14 = .ok (.invokestatic 69, 3) := by decide +kernel
theorem dX4_isStream_17 : decode cX4_isStream 17 = .ok (.ifCond .eq 18, 3) := by decide +kernel
theorem dX4_isStream_20 : decode cX4_isStream 20 = .ok (.iload_n 2, 1) := by decide +kernel
theorem dX4_isStream_21 : decode cX4_isStream 21 = .ok (.iconst 0, 1) := by decide +kernel
theorem dX4_isStream_22 : decode cX4_isStream 22 = .ok (.sipush 9999, 3) := by decide +kernel
theorem dX4_isStream_25 : decode cX4_isStream 25 = .ok (.invokestatic 69, 3) := by decide +kernel
theorem dX4_isStream_28 : decode cX4_isStream 28 = .ok (.ifCond .eq 7, 3) := by decide +kernel
theorem dX4_isStream_31 : decode cX4_isStream 31 = .ok (.iconst 1, 1) := by decide +kernel
theorem dX4_isStream_32 : decode cX4_isStream 32 = .ok (.goto 4, 3) := by decide +kernel
theorem dX4_isStream_35 : decode cX4_isStream 35 = .ok (.iconst 0, 1) := by decide +kernel
theorem dX4_isStream_36 : decode cX4_isStream 36 = .ok (.ireturn, 1) := by decide +kernel
theorem dX4_isBetween_0 : decode cX4_isBetween 0 = .ok (.iload_n 0, 1) := by decide +kernel
theorem dX4_isBetween_1 : decode cX4_isBetween 1 = .ok (.iload_n 1, 1) := by decide +kernel
theorem dX4_isBetween_2 : decode cX4_isBetween 2 = .ok (.if_icmp .lt 12, 3) := by decide +kernel
theorem dX4_isBetween_5 : decode cX4_isBetween 5 = .ok (.iload_n 0, 1) := by decide +kernel
theorem dX4_isBetween_6 : decode cX4_isBetween 6 = .ok (.iload_n 2, 1) := by decide +kernel
theorem dX4_isBetween_7 : decode cX4_isBetween 7 = .ok (.if_icmp .gt 7, 3) := by decide +kernel
theorem dX4_isBetween_10 : decode cX4_isBetween 10 = .ok (.iconst 1, 1) := by decide +kernel
theorem dX4_isBetween_11 : decode cX4_isBetween 11 = .ok (.goto 4, 3) := by decide +kernel
theorem dX4_isBetween_14 : decode cX4_isBetween 14 = .ok (.iconst 0, 1) := by decide +kernel
theorem dX4_isBetween_15 : decode cX4_isBetween 15 = .ok (.ireturn, 1) := by decide +kernel
theorem dX4_dividedUp_0 : decode cX4_dividedUp 0 = .ok (.iload_n 1, 1) := by decide +kernel
theorem dX4_dividedUp_1 : decode cX4_dividedUp 1 = .ok (.iconst 1, 1) := by decide +kernel
theorem dX4_dividedUp_2 : decode cX4_dividedUp 2 = .ok (.if_icmp .ge 7, 3) := by decide +kernel
theorem dX4_dividedUp_5 : decode cX4_dividedUp 5 = .ok (.iconst 0, 1) := by decide +kernel
theorem dX4_dividedUp_6 : decode cX4_dividedUp 6 = .ok (.goto 10, 3) := by decide +kernel
theorem dX4_dividedUp_9 : decode cX4_dividedUp 9 = .ok (.iload_n 0, 1) := by decide +kernel
theorem dX4_dividedUp_10 : decode cX4_dividedUp 10 = .ok (.iload_n 1, 1) := by decide +kernel
theorem dX4_dividedUp_11 : decode cX4_dividedUp 11 = .ok (.iadd, 1) := by decide +kernel
theorem dX4_dividedUp_12 : decode cX4_dividedUp 12 = .ok (.iconst 1, 1) := by decide +kernel
theorem dX4_dividedUp_13 : decode cX4_dividedUp 13 = .ok (.isub, 1) := by decide +kernel
theorem dX4_dividedUp_14 : decode cX4_dividedUp 14 = .ok (.iload_n 1, 1) := by decide +kernel
theorem dX4_dividedUp_15 : decode cX4_dividedUp 15 = .ok (.idiv, 1) := by decide +kernel
theorem dX4_dividedUp_16 : decode cX4_dividedUp 16 = .ok (.ireturn, 1) := by decide +kernel
theorem dX4_lengthOfTurns_0 : decode cX4_lengthOfTurns 0 = .ok (.iload_n 0, 1) := by decide +kernel
theorem dX4_lengthOfTurns_1 : decode cX4_lengthOfTurns 1 = .ok (.iload_n 1, 1) := by decide +kernel
theorem dX4_lengthOfTurns_2 : decode cX4_lengthOfTurns 2 = .ok (.imul, 1) := by decide +kernel
theorem dX4_lengthOfTurns_3 : decode cX4_lengthOfTurns 3 = .ok (.iload_n 2, 1) := by decide +kernel
theorem dX4_lengthOfTurns_4 : decode cX4_lengthOfTurns 4 = .ok (.iload_n 0, 1) := by decide +kernel
theorem dX4_lengthOfTurns_5 : decode cX4_lengthOfTurns 5 = .ok (.iload_n 0, 1) := by decide +kernel
theorem dX4_lengthOfTurns_6 : decode cX4_lengthOfTurns 6 = .ok (.iconst 1, 1) := by decide +kernel
theorem dX4_lengthOfTurns_7 : decode cX4_lengthOfTurns 7 = .ok (.isub, 1) := by decide +kernel
theorem dX4_lengthOfTurns_8 : decode cX4_lengthOfTurns 8 = .ok (.imul, 1) := by decide +kernel
theorem dX4_lengthOfTurns_9 : decode cX4_lengthOfTurns 9 = .ok (.iconst 2, 1) := by decide +kernel
theorem dX4_lengthOfTurns_10 : decode cX4_lengthOfTurns 10 = .ok (.idiv, 1) := by decide +kernel
theorem dX4_lengthOfTurns_11 : decode cX4_lengthOfTurns 11 = .ok (.imul, 1) := by decide +kernel
theorem dX4_lengthOfTurns_12 : decode cX4_lengthOfTurns 12 = .ok (.iadd, 1) := by decide +kernel
theorem dX4_lengthOfTurns_13 : decode cX4_lengthOfTurns 13 = .ok (.ireturn, 1) := by decide +kernel
theorem dX4_cell_0 : decode cX4_cell 0 = .ok (.aload_n 0, 1) := by decide +kernel
theorem dX4_cell_1 : decode cX4_cell 1 = .ok (.ifnull 19, 3) := by decide +kernel
theorem dX4_cell_4 : decode cX4_cell 4 = .ok (.iload_n 1, 1) := by decide +kernel
theorem dX4_cell_5 : decode cX4_cell 5 = .ok (.ifCond .lt 15, 3) := by decide +kernel
theorem dX4_cell_8 : decode cX4_cell 8 = .ok (.iload_n 1, 1) := by decide +kernel
theorem dX4_cell_9 : decode cX4_cell 9 = .ok (.aload_n 0, 1) := by decide +kernel
theorem dX4_cell_10 : decode cX4_cell 10 = .ok (.arraylength, 1) := by decide +kernel
theorem dX4_cell_11 : decode cX4_cell 11 = .ok (.if_icmp .ge 9, 3) := by decide +kernel
theorem dX4_cell_14 : decode cX4_cell 14 = .ok (.aload_n 0, 1) := by decide +kernel
theorem dX4_cell_15 : decode cX4_cell 15 = .ok (.iload_n 1, 1) := by decide +kernel
theorem dX4_cell_16 : decode cX4_cell 16 = .ok (.iaload, 1) := by decide +kernel
theorem dX4_cell_17 : decode cX4_cell 17 = .ok (.goto 4, 3) := by decide +kernel
theorem dX4_cell_20 : decode cX4_cell 20 = .ok (.iconst 0, 1) := by decide +kernel
theorem dX4_cell_21 : decode cX4_cell 21 = .ok (.ireturn, 1) := by decide +kernel
theorem dX4_setCell_0 : decode cX4_setCell 0 = .ok (.aload_n 0, 1) := by decide +kernel
theorem dX4_setCell_1 : decode cX4_setCell 1 = .ok (.ifnull 17, 3) := by decide +kernel
theorem dX4_setCell_4 : decode cX4_setCell 4 = .ok (.iload_n 1, 1) := by decide +kernel
theorem dX4_setCell_5 : decode cX4_setCell 5 = .ok (.ifCond .lt 13, 3) := by decide +kernel
theorem dX4_setCell_8 : decode cX4_setCell 8 = .ok (.iload_n 1, 1) := by decide +kernel
theorem dX4_setCell_9 : decode cX4_setCell 9 = .ok (.aload_n 0, 1) := by decide +kernel
theorem dX4_setCell_10 : decode cX4_setCell 10 = .ok (.arraylength, 1) := by decide +kernel
theorem dX4_setCell_11 : decode cX4_setCell 11 = .ok (.if_icmp .ge 7, 3) := by decide +kernel
theorem dX4_setCell_14 : decode cX4_setCell 14 = .ok (.aload_n 0, 1) := by decide +kernel
theorem dX4_setCell_15 : decode cX4_setCell 15 = .ok (.iload_n 1, 1) := by decide +kernel
theorem dX4_setCell_16 : decode cX4_setCell 16 = .ok (.iload_n 2, 1) := by decide +kernel
theorem dX4_setCell_17 : decode cX4_setCell 17 = .ok (.iastore, 1) := by decide +kernel
theorem dX4_setCell_18 : decode cX4_setCell 18 = .ok (.return_, 1) := by decide +kernel
theorem dX4_copyRow_0 : decode cX4_copyRow 0 = .ok (.aload_n 0, 1) := by decide +kernel
theorem dX4_copyRow_1 : decode cX4_copyRow 1 = .ok (.ifnull 21, 3) := by decide +kernel
theorem dX4_copyRow_4 : decode cX4_copyRow 4 = .ok (.aload_n 1, 1) := by decide +kernel
theorem dX4_copyRow_5 : decode cX4_copyRow 5 = .ok (.ifnull 17, 3) := by decide +kernel
theorem dX4_copyRow_8 : decode cX4_copyRow 8 = .ok (.aload_n 0, 1) := by decide +kernel
theorem dX4_copyRow_9 : decode cX4_copyRow 9 = .ok (.iconst 0, 1) := by decide +kernel
theorem dX4_copyRow_10 : decode cX4_copyRow 10 = .ok (.aload_n 1, 1) := by decide +kernel
theorem dX4_copyRow_11 : decode cX4_copyRow 11 = .ok (.iconst 0, 1) := by decide +kernel
theorem dX4_copyRow_12 : decode cX4_copyRow 12 = .ok (.aload_n 0, 1) := by decide +kernel
theorem dX4_copyRow_13 : decode cX4_copyRow 13 = .ok (.arraylength, 1) := by decide +kernel
theorem dX4_copyRow_14 : decode cX4_copyRow 14 = .ok (.aload_n 1, 1) := by decide +kernel
theorem dX4_copyRow_15 : decode cX4_copyRow 15 = .ok (.arraylength, 1) := by decide +kernel
theorem dX4_copyRow_16 : decode cX4_copyRow 16 = .ok (.invokestatic 292, 3) := by decide +kernel
theorem dX4_copyRow_19 : decode cX4_copyRow 19 = .ok (.invokestatic 297, 3) := by decide +kernel
theorem dX4_copyRow_22 : decode cX4_copyRow 22 = .ok (.return_, 1) := by decide +kernel
