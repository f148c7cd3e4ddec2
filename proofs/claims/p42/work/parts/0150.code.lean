def drX0_init_b0 : List (Nat × (Instr × Nat)) := [(0, (.aload_n 0, 1)), (1, (.invokespecial 3, 3)), (4, (.aload_n 0, 1)), (5, (.bipush 72, 2)), (7, (.newarray .int, 2)), (9, (.putfield 9, 3)), (12, (.aload_n 0, 1)), (13, (.sipush 2048, 3)), (16, (.newarray .int, 2)), (18, (.putfield 15, 3))]
theorem dkX0_init_b0 : ((drX0_init_b0).all fun r => decide (decode cX0_init r.1 = .ok r.2)) = true := by decide +kernel
theorem dX0_init_0 : decode cX0_init 0 = .ok (.aload_n 0, 1) := dc_at dkX0_init_b0 0 rfl
theorem dX0_init_1 : decode cX0_init 1 = .ok (.invokespecial 3, 3) := dc_at dkX0_init_b0 1 rfl
theorem dX0_init_4 : decode cX0_init 4 = .ok (.aload_n 0, 1) := dc_at dkX0_init_b0 2 rfl
theorem dX0_init_5 : decode cX0_init 5 = .ok (.bipush 72, 2) := dc_at dkX0_init_b0 3 rfl
theorem dX0_init_7 : decode cX0_init 7 = .ok (.newarray .int, 2) := dc_at dkX0_init_b0 4 rfl
theorem dX0_init_9 : decode cX0_init 9 = .ok (.putfield 9, 3) := dc_at dkX0_init_b0 5 rfl
theorem dX0_init_12 : decode cX0_init 12 = .ok (.aload_n 0, 1) := dc_at dkX0_init_b0 6 rfl
theorem dX0_init_13 : decode cX0_init 13 = .ok (.sipush 2048, 3) := dc_at dkX0_init_b0 7 rfl
theorem dX0_init_16 : decode cX0_init 16 = .ok (.newarray .int, 2) := dc_at dkX0_init_b0 8 rfl
theorem dX0_init_18 : decode cX0_init 18 = .ok (.putfield 15, 3) := dc_at dkX0_init_b0 9 rfl
def drX0_init_b1 : List (Nat × (Instr × Nat)) := [(21, (.aload_n 0, 1)), (22, (.bipush 8, 2)), (24, (.newarray .int, 2)), (26, (.putfield 18, 3)), (29, (.aload_n 0, 1)), (30, (.bipush 8, 2)), (32, (.newarray .int, 2)), (34, (.putfield 21, 3)), (37, (.return_, 1))]
theorem dkX0_init_b1 : ((drX0_init_b1).all fun r => decide (decode cX0_init r.1 = .ok r.2)) = true := by decide +kernel
theorem dX0_init_21 : decode cX0_init 21 = .ok (.aload_n 0, 1) := dc_at dkX0_init_b1 0 rfl
theorem dX0_init_22 : decode cX0_init 22 = .ok (.bipush 8, 2) := dc_at dkX0_init_b1 1 rfl
theorem dX0_init_24 : decode cX0_init 24 = .ok (.newarray .int, 2) := dc_at dkX0_init_b1 2 rfl
theorem dX0_init_26 : decode cX0_init 26 = .ok (.putfield 18, 3) := dc_at dkX0_init_b1 3 rfl
theorem dX0_init_29 : decode cX0_init 29 = .ok (.aload_n 0, 1) := dc_at dkX0_init_b1 4 rfl
theorem dX0_init_30 : decode cX0_init 30 = .ok (.bipush 8, 2) := dc_at dkX0_init_b1 5 rfl
theorem dX0_init_32 : decode cX0_init 32 = .ok (.newarray .int, 2) := dc_at dkX0_init_b1 6 rfl
theorem dX0_init_34 : decode cX0_init 34 = .ok (.putfield 21, 3) := dc_at dkX0_init_b1 7 rfl
theorem dX0_init_37 : decode cX0_init 37 = .ok (.return_, 1) := dc_at dkX0_init_b1 8 rfl
def drX0_plan_b0 : List (Nat × (Instr × Nat)) := [(0, (.aload_n 1, 1)), (1, (.ifnonnull 4, 3)), (4, (.return_, 1)), (5, (.aload_n 0, 1)), (6, (.iload_n 2, 1)), (7, (.invokevirtual 24, 3)), (10, (.aload_n 0, 1)), (11, (.aload_n 1, 1)), (12, (.invokevirtual 28, 3)), (15, (.iconst 0, 1))]
theorem dkX0_plan_b0 : ((drX0_plan_b0).all fun r => decide (decode cX0_plan r.1 = .ok r.2)) = true := by decide +kernel
theorem dX0_plan_0 : decode cX0_plan 0 = .ok (.aload_n 1, 1) := dc_at dkX0_plan_b0 0 rfl
theorem dX0_plan_1 : decode cX0_plan 1 = .ok (.ifnonnull 4, 3) := dc_at dkX0_plan_b0 1 rfl
theorem dX0_plan_4 : decode cX0_plan 4 = .ok (.return_, 1) := dc_at dkX0_plan_b0 2 rfl
theorem dX0_plan_5 : decode cX0_plan 5 = .ok (.aload_n 0, 1) := dc_at dkX0_plan_b0 3 rfl
theorem dX0_plan_6 : decode cX0_plan 6 = .ok (.iload_n 2, 1) := dc_at dkX0_plan_b0 4 rfl
theorem dX0_plan_7 : decode cX0_plan 7 = .ok (.invokevirtual 24, 3) := dc_at dkX0_plan_b0 5 rfl
theorem dX0_plan_10 : decode cX0_plan 10 = .ok (.aload_n 0, 1) := dc_at dkX0_plan_b0 6 rfl
theorem dX0_plan_11 : decode cX0_plan 11 = .ok (.aload_n 1, 1) := dc_at dkX0_plan_b0 7 rfl
theorem dX0_plan_12 : decode cX0_plan 12 = .ok (.invokevirtual 28, 3) := dc_at dkX0_plan_b0 8 rfl
theorem dX0_plan_15 : decode cX0_plan 15 = .ok (.iconst 0, 1) := dc_at dkX0_plan_b0 9 rfl
def drX0_plan_b1 : List (Nat × (Instr × Nat)) := [(16, (.istore_n 3, 1)), (17, (.iload_n 3, 1)), (18, (.iconst 1, 1)), (19, (.aload_n 0, 1)), (20, (.getfield 32, 3)), (23, (.ishl, 1)), (24, (.if_icmp .ge 56, 3)), (27, (.iconst 0, 1)), (28, (.istore 4, 2)), (30, (.iload 4, 2))]
theorem dkX0_plan_b1 : ((drX0_plan_b1).all fun r => decide (decode cX0_plan r.1 = .ok r.2)) = true := by decide +kernel
theorem dX0_plan_16 : decode cX0_plan 16 = .ok (.istore_n 3, 1) := dc_at dkX0_plan_b1 0 rfl
theorem dX0_plan_17 : decode cX0_plan 17 = .ok (.iload_n 3, 1) := dc_at dkX0_plan_b1 1 rfl
theorem dX0_plan_18 : decode cX0_plan 18 = .ok (.iconst 1, 1) := dc_at dkX0_plan_b1 2 rfl
theorem dX0_plan_19 : decode cX0_plan 19 = .ok (.aload_n 0, 1) := dc_at dkX0_plan_b1 3 rfl
theorem dX0_plan_20 : decode cX0_plan 20 = .ok (.getfield 32, 3) := dc_at dkX0_plan_b1 4 rfl
theorem dX0_plan_23 : decode cX0_plan 23 = .ok (.ishl, 1) := dc_at dkX0_plan_b1 5 rfl
theorem dX0_plan_24 : decode cX0_plan 24 = .ok (.if_icmp .ge 56, 3) := dc_at dkX0_plan_b1 6 rfl
theorem dX0_plan_27 : decode cX0_plan 27 = .ok (.iconst 0, 1) := dc_at dkX0_plan_b1 7 rfl
theorem dX0_plan_28 : decode cX0_plan 28 = .ok (.istore 4, 2) := dc_at dkX0_plan_b1 8 rfl
theorem dX0_plan_30 : decode cX0_plan 30 = .ok (.iload 4, 2) := dc_at dkX0_plan_b1 9 rfl
def drX0_plan_b2 : List (Nat × (Instr × Nat)) := [(32, (.aload_n 0, 1)), (33, (.getfield 32, 3)), (36, (.if_icmp .ge 38, 3)), (39, (.aload_n 0, 1)), (40, (.getfield 15, 3)), (43, (.iload_n 3, 1)), (44, (.bipush 8, 2)), (46, (.imul, 1)), (47, (.iload 4, 2)), (49, (.iadd, 1))]
theorem dkX0_plan_b2 : ((drX0_plan_b2).all fun r => decide (decode cX0_plan r.1 = .ok r.2)) = true := by decide +kernel
theorem dX0_plan_32 : decode cX0_plan 32 = .ok (.aload_n 0, 1) := dc_at dkX0_plan_b2 0 rfl
theorem dX0_plan_33 : decode cX0_plan 33 = .ok (.getfield 32, 3) := dc_at dkX0_plan_b2 1 rfl
theorem dX0_plan_36 : decode cX0_plan 36 = .ok (.if_icmp .ge 38, 3) := dc_at dkX0_plan_b2 2 rfl
theorem dX0_plan_39 : decode cX0_plan 39 = .ok (.aload_n 0, 1) := dc_at dkX0_plan_b2 3 rfl
theorem dX0_plan_40 : decode cX0_plan 40 = .ok (.getfield 15, 3) := dc_at dkX0_plan_b2 4 rfl
theorem dX0_plan_43 : decode cX0_plan 43 = .ok (.iload_n 3, 1) := dc_at dkX0_plan_b2 5 rfl
theorem dX0_plan_44 : decode cX0_plan 44 = .ok (.bipush 8, 2) := dc_at dkX0_plan_b2 6 rfl
theorem dX0_plan_46 : decode cX0_plan 46 = .ok (.imul, 1) := dc_at dkX0_plan_b2 7 rfl
theorem dX0_plan_47 : decode cX0_plan 47 = .ok (.iload 4, 2) := dc_at dkX0_plan_b2 8 rfl
theorem dX0_plan_49 : decode cX0_plan 49 = .ok (.iadd, 1) := dc_at dkX0_plan_b2 9 rfl
def drX0_plan_b3 : List (Nat × (Instr × Nat)) := [(50, (.iload_n 3, 1)), (51, (.ifCond .ne 7, 3)), (54, (.iconst 0, 1)), (55, (.goto 10, 3)), (58, (.aload_n 0, 1)), (59, (.iload 4, 2)), (61, (.iload_n 3, 1)), (62, (.invokevirtual 36, 3)), (65, (.invokestatic 40, 3)), (68, (.iinc 4 1, 3))]
theorem dkX0_plan_b3 : ((drX0_plan_b3).all fun r => decide (decode cX0_plan r.1 = .ok r.2)) = true := by decide +kernel
theorem dX0_plan_50 : decode cX0_plan 50 = .ok (.iload_n 3, 1) := dc_at dkX0_plan_b3 0 rfl
theorem dX0_plan_51 : decode cX0_plan 51 = .ok (.ifCond .ne 7, 3) := dc_at dkX0_plan_b3 1 rfl
theorem dX0_plan_54 : decode cX0_plan 54 = .ok (.iconst 0, 1) := dc_at dkX0_plan_b3 2 rfl
theorem dX0_plan_55 : decode cX0_plan 55 = .ok (.goto 10, 3) := dc_at dkX0_plan_b3 3 rfl
theorem dX0_plan_58 : decode cX0_plan 58 = .ok (.aload_n 0, 1) := dc_at dkX0_plan_b3 4 rfl
theorem dX0_plan_59 : decode cX0_plan 59 = .ok (.iload 4, 2) := dc_at dkX0_plan_b3 5 rfl
theorem dX0_plan_61 : decode cX0_plan 61 = .ok (.iload_n 3, 1) := dc_at dkX0_plan_b3 6 rfl
theorem dX0_plan_62 : decode cX0_plan 62 = .ok (.invokevirtual 36, 3) := dc_at dkX0_plan_b3 7 rfl
theorem dX0_plan_65 : decode cX0_plan 65 = .ok (.invokestatic 40, 3) := dc_at dkX0_plan_b3 8 rfl
theorem dX0_plan_68 : decode cX0_plan 68 = .ok (.iinc 4 1, 3) := dc_at dkX0_plan_b3 9 rfl
def drX0_plan_b4 : List (Nat × (Instr × Nat)) := [(71, (.goto (-41), 3)), (74, (.iinc 3 1, 3)), (77, (.goto (-60), 3)), (80, (.aload_n 0, 1)), (81, (.invokevirtual 44, 3)), (84, (.return_, 1))]
theorem dkX0_plan_b4 : ((drX0_plan_b4).all fun r => decide (decode cX0_plan r.1 = .ok r.2)) = true := by decide +kernel
theorem dX0_plan_71 : decode cX0_plan 71 = .ok (.goto (-41), 3) := dc_at dkX0_plan_b4 0 rfl
theorem dX0_plan_74 : decode cX0_plan 74 = .ok (.iinc 3 1, 3) := dc_at dkX0_plan_b4 1 rfl
theorem dX0_plan_77 : decode cX0_plan 77 = .ok (.goto (-60), 3) := dc_at dkX0_plan_b4 2 rfl
theorem dX0_plan_80 : decode cX0_plan 80 = .ok (.aload_n 0, 1) := dc_at dkX0_plan_b4 3 rfl
theorem dX0_plan_81 : decode cX0_plan 81 = .ok (.invokevirtual 44, 3) := dc_at dkX0_plan_b4 4 rfl
theorem dX0_plan_84 : decode cX0_plan 84 = .ok (.return_, 1) := dc_at dkX0_plan_b4 5 rfl
def drX0_stopAt_b0 : List (Nat × (Instr × Nat)) := [(0, (.aload_n 0, 1)), (1, (.getfield 21, 3)), (4, (.iload_n 1, 1)), (5, (.invokestatic 47, 3)), (8, (.ireturn, 1))]
theorem dkX0_stopAt_b0 : ((drX0_stopAt_b0).all fun r => decide (decode cX0_stopAt r.1 = .ok r.2)) = true := by decide +kernel
theorem dX0_stopAt_0 : decode cX0_stopAt 0 = .ok (.aload_n 0, 1) := dc_at dkX0_stopAt_b0 0 rfl
theorem dX0_stopAt_1 : decode cX0_stopAt 1 = .ok (.getfield 21, 3) := dc_at dkX0_stopAt_b0 1 rfl
theorem dX0_stopAt_4 : decode cX0_stopAt 4 = .ok (.iload_n 1, 1) := dc_at dkX0_stopAt_b0 2 rfl
theorem dX0_stopAt_5 : decode cX0_stopAt 5 = .ok (.invokestatic 47, 3) := dc_at dkX0_stopAt_b0 3 rfl
theorem dX0_stopAt_8 : decode cX0_stopAt 8 = .ok (.ireturn, 1) := dc_at dkX0_stopAt_b0 4 rfl
def drX0_choose_b0 : List (Nat × (Instr × Nat)) := [(0, (.aload_n 0, 1)), (1, (.iconst 0, 1)), (2, (.putfield 32, 3)), (5, (.iconst 0, 1)), (6, (.istore_n 2, 1)), (7, (.iload_n 2, 1)), (8, (.bipush 12, 2)), (10, (.if_icmp .ge 49, 3)), (13, (.iload_n 1, 1)), (14, (.iload_n 2, 1))]
theorem dkX0_choose_b0 : ((drX0_choose_b0).all fun r => decide (decode cX0_choose r.1 = .ok r.2)) = true := by decide +kernel
theorem dX0_choose_0 : decode cX0_choose 0 = .ok (.aload_n 0, 1) := dc_at dkX0_choose_b0 0 rfl
theorem dX0_choose_1 : decode cX0_choose 1 = .ok (.iconst 0, 1) := dc_at dkX0_choose_b0 1 rfl
theorem dX0_choose_2 : decode cX0_choose 2 = .ok (.putfield 32, 3) := dc_at dkX0_choose_b0 2 rfl
theorem dX0_choose_5 : decode cX0_choose 5 = .ok (.iconst 0, 1) := dc_at dkX0_choose_b0 3 rfl
theorem dX0_choose_6 : decode cX0_choose 6 = .ok (.istore_n 2, 1) := dc_at dkX0_choose_b0 4 rfl
theorem dX0_choose_7 : decode cX0_choose 7 = .ok (.iload_n 2, 1) := dc_at dkX0_choose_b0 5 rfl
theorem dX0_choose_8 : decode cX0_choose 8 = .ok (.bipush 12, 2) := dc_at dkX0_choose_b0 6 rfl
theorem dX0_choose_10 : decode cX0_choose 10 = .ok (.if_icmp .ge 49, 3) := dc_at dkX0_choose_b0 7 rfl
theorem dX0_choose_13 : decode cX0_choose 13 = .ok (.iload_n 1, 1) := dc_at dkX0_choose_b0 8 rfl
theorem dX0_choose_14 : decode cX0_choose 14 = .ok (.iload_n 2, 1) := dc_at dkX0_choose_b0 9 rfl
def drX0_choose_b1 : List (Nat × (Instr × Nat)) := [(15, (.ishr, 1)), (16, (.iconst 1, 1)), (17, (.iand, 1)), (18, (.iconst 1, 1)), (19, (.if_icmp .ne 34, 3)), (22, (.aload_n 0, 1)), (23, (.getfield 32, 3)), (26, (.bipush 8, 2)), (28, (.if_icmp .ge 25, 3)), (31, (.aload_n 0, 1))]
theorem dkX0_choose_b1 : ((drX0_choose_b1).all fun r => decide (decode cX0_choose r.1 = .ok r.2)) = true := by decide +kernel
theorem dX0_choose_15 : decode cX0_choose 15 = .ok (.ishr, 1) := dc_at dkX0_choose_b1 0 rfl
theorem dX0_choose_16 : decode cX0_choose 16 = .ok (.iconst 1, 1) := dc_at dkX0_choose_b1 1 rfl
theorem dX0_choose_17 : decode cX0_choose 17 = .ok (.iand, 1) := dc_at dkX0_choose_b1 2 rfl
theorem dX0_choose_18 : decode cX0_choose 18 = .ok (.iconst 1, 1) := dc_at dkX0_choose_b1 3 rfl
theorem dX0_choose_19 : decode cX0_choose 19 = .ok (.if_icmp .ne 34, 3) := dc_at dkX0_choose_b1 4 rfl
theorem dX0_choose_22 : decode cX0_choose 22 = .ok (.aload_n 0, 1) := dc_at dkX0_choose_b1 5 rfl
theorem dX0_choose_23 : decode cX0_choose 23 = .ok (.getfield 32, 3) := dc_at dkX0_choose_b1 6 rfl
theorem dX0_choose_26 : decode cX0_choose 26 = .ok (.bipush 8, 2) := dc_at dkX0_choose_b1 7 rfl
theorem dX0_choose_28 : decode cX0_choose 28 = .ok (.if_icmp .ge 25, 3) := dc_at dkX0_choose_b1 8 rfl
theorem dX0_choose_31 : decode cX0_choose 31 = .ok (.aload_n 0, 1) := dc_at dkX0_choose_b1 9 rfl
def drX0_choose_b2 : List (Nat × (Instr × Nat)) := [(32, (.getfield 18, 3)), (35, (.aload_n 0, 1)), (36, (.getfield 32, 3)), (39, (.iload_n 2, 1)), (40, (.invokestatic 40, 3)), (43, (.aload_n 0, 1)), (44, (.dup, 1)), (45, (.getfield 32, 3)), (48, (.iconst 1, 1)), (49, (.iadd, 1))]
theorem dkX0_choose_b2 : ((drX0_choose_b2).all fun r => decide (decode cX0_choose r.1 = .ok r.2)) = true := by decide +kernel
theorem dX0_choose_32 : decode cX0_choose 32 = .ok (.getfield 18, 3) := dc_at dkX0_choose_b2 0 rfl
theorem dX0_choose_35 : decode cX0_choose 35 = .ok (.aload_n 0, 1) := dc_at dkX0_choose_b2 1 rfl
theorem dX0_choose_36 : decode cX0_choose 36 = .ok (.getfield 32, 3) := dc_at dkX0_choose_b2 2 rfl
theorem dX0_choose_39 : decode cX0_choose 39 = .ok (.iload_n 2, 1) := dc_at dkX0_choose_b2 3 rfl
theorem dX0_choose_40 : decode cX0_choose 40 = .ok (.invokestatic 40, 3) := dc_at dkX0_choose_b2 4 rfl
theorem dX0_choose_43 : decode cX0_choose 43 = .ok (.aload_n 0, 1) := dc_at dkX0_choose_b2 5 rfl
theorem dX0_choose_44 : decode cX0_choose 44 = .ok (.dup, 1) := dc_at dkX0_choose_b2 6 rfl
theorem dX0_choose_45 : decode cX0_choose 45 = .ok (.getfield 32, 3) := dc_at dkX0_choose_b2 7 rfl
theorem dX0_choose_48 : decode cX0_choose 48 = .ok (.iconst 1, 1) := dc_at dkX0_choose_b2 8 rfl
theorem dX0_choose_49 : decode cX0_choose 49 = .ok (.iadd, 1) := dc_at dkX0_choose_b2 9 rfl
def drX0_choose_b3 : List (Nat × (Instr × Nat)) := [(50, (.putfield 32, 3)), (53, (.iinc 2 1, 3)), (56, (.goto (-49), 3)), (59, (.return_, 1))]
theorem dkX0_choose_b3 : ((drX0_choose_b3).all fun r => decide (decode cX0_choose r.1 = .ok r.2)) = true := by decide +kernel
theorem dX0_choose_50 : decode cX0_choose 50 = .ok (.putfield 32, 3) := dc_at dkX0_choose_b3 0 rfl
theorem dX0_choose_53 : decode cX0_choose 53 = .ok (.iinc 2 1, 3) := dc_at dkX0_choose_b3 1 rfl
theorem dX0_choose_56 : decode cX0_choose 56 = .ok (.goto (-49), 3) := dc_at dkX0_choose_b3 2 rfl
theorem dX0_choose_59 : decode cX0_choose 59 = .ok (.return_, 1) := dc_at dkX0_choose_b3 3 rfl
def drX0_measureHops_b0 : List (Nat × (Instr × Nat)) := [(0, (.iconst 0, 1)), (1, (.istore_n 2, 1)), (2, (.iload_n 2, 1)), (3, (.aload_n 0, 1)), (4, (.getfield 32, 3)), (7, (.if_icmp .gt 106, 3)), (10, (.iload_n 2, 1)), (11, (.aload_n 0, 1)), (12, (.getfield 32, 3)), (15, (.if_icmp .ne 10, 3))]
theorem dkX0_measureHops_b0 : ((drX0_measureHops_b0).all fun r => decide (decode cX0_measureHops r.1 = .ok r.2)) = true := by decide +kernel
theorem dX0_measureHops_0 : decode cX0_measureHops 0 = .ok (.iconst 0, 1) := dc_at dkX0_measureHops_b0 0 rfl
theorem dX0_measureHops_1 : decode cX0_measureHops 1 = .ok (.istore_n 2, 1) := dc_at dkX0_measureHops_b0 1 rfl
theorem dX0_measureHops_2 : decode cX0_measureHops 2 = .ok (.iload_n 2, 1) := dc_at dkX0_measureHops_b0 2 rfl
theorem dX0_measureHops_3 : decode cX0_measureHops 3 = .ok (.aload_n 0, 1) := dc_at dkX0_measureHops_b0 3 rfl
theorem dX0_measureHops_4 : decode cX0_measureHops 4 = .ok (.getfield 32, 3) := dc_at dkX0_measureHops_b0 4 rfl
theorem dX0_measureHops_7 : decode cX0_measureHops 7 = .ok (.if_icmp .gt 106, 3) := dc_at dkX0_measureHops_b0 5 rfl
theorem dX0_measureHops_10 : decode cX0_measureHops 10 = .ok (.iload_n 2, 1) := dc_at dkX0_measureHops_b0 6 rfl
theorem dX0_measureHops_11 : decode cX0_measureHops 11 = .ok (.aload_n 0, 1) := dc_at dkX0_measureHops_b0 7 rfl
theorem dX0_measureHops_12 : decode cX0_measureHops 12 = .ok (.getfield 32, 3) := dc_at dkX0_measureHops_b0 8 rfl
theorem dX0_measureHops_15 : decode cX0_measureHops 15 = .ok (.if_icmp .ne 10, 3) := dc_at dkX0_measureHops_b0 9 rfl
def drX0_measureHops_b1 : List (Nat × (Instr × Nat)) := [(18, (.aload_n 1, 1)), (19, (.getfield 51, 3)), (22, (.goto 15, 3)), (25, (.aload_n 1, 1)), (26, (.aload_n 0, 1)), (27, (.getfield 18, 3)), (30, (.iload_n 2, 1)), (31, (.invokestatic 47, 3)), (34, (.invokevirtual 56, 3)), (37, (.istore_n 3, 1))]
theorem dkX0_measureHops_b1 : ((drX0_measureHops_b1).all fun r => decide (decode cX0_measureHops r.1 = .ok r.2)) = true := by decide +kernel
theorem dX0_measureHops_18 : decode cX0_measureHops 18 = .ok (.aload_n 1, 1) := dc_at dkX0_measureHops_b1 0 rfl
theorem dX0_measureHops_19 : decode cX0_measureHops 19 = .ok (.getfield 51, 3) := dc_at dkX0_measureHops_b1 1 rfl
theorem dX0_measureHops_22 : decode cX0_measureHops 22 = .ok (.goto 15, 3) := dc_at dkX0_measureHops_b1 2 rfl
theorem dX0_measureHops_25 : decode cX0_measureHops 25 = .ok (.aload_n 1, 1) := dc_at dkX0_measureHops_b1 3 rfl
theorem dX0_measureHops_26 : decode cX0_measureHops 26 = .ok (.aload_n 0, 1) := dc_at dkX0_measureHops_b1 4 rfl
theorem dX0_measureHops_27 : decode cX0_measureHops 27 = .ok (.getfield 18, 3) := dc_at dkX0_measureHops_b1 5 rfl
theorem dX0_measureHops_30 : decode cX0_measureHops 30 = .ok (.iload_n 2, 1) := dc_at dkX0_measureHops_b1 6 rfl
theorem dX0_measureHops_31 : decode cX0_measureHops 31 = .ok (.invokestatic 47, 3) := dc_at dkX0_measureHops_b1 7 rfl
theorem dX0_measureHops_34 : decode cX0_measureHops 34 = .ok (.invokevirtual 56, 3) := dc_at dkX0_measureHops_b1 8 rfl
theorem dX0_measureHops_37 : decode cX0_measureHops 37 = .ok (.istore_n 3, 1) := dc_at dkX0_measureHops_b1 9 rfl
def drX0_measureHops_b2 : List (Nat × (Instr × Nat)) := [(38, (.iconst 0, 1)), (39, (.istore 4, 2)), (41, (.iload 4, 2)), (43, (.aload_n 0, 1)), (44, (.getfield 32, 3)), (47, (.if_icmp .ge 60, 3)), (50, (.aload_n 0, 1)), (51, (.getfield 18, 3)), (54, (.iload 4, 2)), (56, (.invokestatic 47, 3))]
theorem dkX0_measureHops_b2 : ((drX0_measureHops_b2).all fun r => decide (decode cX0_measureHops r.1 = .ok r.2)) = true := by decide +kernel
theorem dX0_measureHops_38 : decode cX0_measureHops 38 = .ok (.iconst 0, 1) := dc_at dkX0_measureHops_b2 0 rfl
theorem dX0_measureHops_39 : decode cX0_measureHops 39 = .ok (.istore 4, 2) := dc_at dkX0_measureHops_b2 1 rfl
theorem dX0_measureHops_41 : decode cX0_measureHops 41 = .ok (.iload 4, 2) := dc_at dkX0_measureHops_b2 2 rfl
theorem dX0_measureHops_43 : decode cX0_measureHops 43 = .ok (.aload_n 0, 1) := dc_at dkX0_measureHops_b2 3 rfl
theorem dX0_measureHops_44 : decode cX0_measureHops 44 = .ok (.getfield 32, 3) := dc_at dkX0_measureHops_b2 4 rfl
theorem dX0_measureHops_47 : decode cX0_measureHops 47 = .ok (.if_icmp .ge 60, 3) := dc_at dkX0_measureHops_b2 5 rfl
theorem dX0_measureHops_50 : decode cX0_measureHops 50 = .ok (.aload_n 0, 1) := dc_at dkX0_measureHops_b2 6 rfl
theorem dX0_measureHops_51 : decode cX0_measureHops 51 = .ok (.getfield 18, 3) := dc_at dkX0_measureHops_b2 7 rfl
theorem dX0_measureHops_54 : decode cX0_measureHops 54 = .ok (.iload 4, 2) := dc_at dkX0_measureHops_b2 8 rfl
theorem dX0_measureHops_56 : decode cX0_measureHops 56 = .ok (.invokestatic 47, 3) := dc_at dkX0_measureHops_b2 9 rfl
def drX0_measureHops_b3 : List (Nat × (Instr × Nat)) := [(59, (.istore 5, 2)), (61, (.aload_n 1, 1)), (62, (.iload_n 3, 1)), (63, (.aload_n 1, 1)), (64, (.iload 5, 2)), (66, (.invokevirtual 60, 3)), (69, (.invokevirtual 63, 3)), (72, (.aload_n 1, 1)), (73, (.aload_n 1, 1)), (74, (.iload 5, 2))]
theorem dkX0_measureHops_b3 : ((drX0_measureHops_b3).all fun r => decide (decode cX0_measureHops r.1 = .ok r.2)) = true := by decide +kernel
theorem dX0_measureHops_59 : decode cX0_measureHops 59 = .ok (.istore 5, 2) := dc_at dkX0_measureHops_b3 0 rfl
theorem dX0_measureHops_61 : decode cX0_measureHops 61 = .ok (.aload_n 1, 1) := dc_at dkX0_measureHops_b3 1 rfl
theorem dX0_measureHops_62 : decode cX0_measureHops 62 = .ok (.iload_n 3, 1) := dc_at dkX0_measureHops_b3 2 rfl
theorem dX0_measureHops_63 : decode cX0_measureHops 63 = .ok (.aload_n 1, 1) := dc_at dkX0_measureHops_b3 3 rfl
theorem dX0_measureHops_64 : decode cX0_measureHops 64 = .ok (.iload 5, 2) := dc_at dkX0_measureHops_b3 4 rfl
theorem dX0_measureHops_66 : decode cX0_measureHops 66 = .ok (.invokevirtual 60, 3) := dc_at dkX0_measureHops_b3 5 rfl
theorem dX0_measureHops_69 : decode cX0_measureHops 69 = .ok (.invokevirtual 63, 3) := dc_at dkX0_measureHops_b3 6 rfl
theorem dX0_measureHops_72 : decode cX0_measureHops 72 = .ok (.aload_n 1, 1) := dc_at dkX0_measureHops_b3 7 rfl
theorem dX0_measureHops_73 : decode cX0_measureHops 73 = .ok (.aload_n 1, 1) := dc_at dkX0_measureHops_b3 8 rfl
theorem dX0_measureHops_74 : decode cX0_measureHops 74 = .ok (.iload 5, 2) := dc_at dkX0_measureHops_b3 9 rfl
def drX0_measureHops_b4 : List (Nat × (Instr × Nat)) := [(76, (.invokevirtual 66, 3)), (79, (.invokevirtual 69, 3)), (82, (.iadd, 1)), (83, (.istore 6, 2)), (85, (.aload_n 0, 1)), (86, (.getfield 9, 3)), (89, (.iload_n 2, 1)), (90, (.bipush 8, 2)), (92, (.imul, 1)), (93, (.iload 4, 2))]
theorem dkX0_measureHops_b4 : ((drX0_measureHops_b4).all fun r => decide (decode cX0_measureHops r.1 = .ok r.2)) = true := by decide +kernel
theorem dX0_measureHops_76 : decode cX0_measureHops 76 = .ok (.invokevirtual 66, 3) := dc_at dkX0_measureHops_b4 0 rfl
theorem dX0_measureHops_79 : decode cX0_measureHops 79 = .ok (.invokevirtual 69, 3) := dc_at dkX0_measureHops_b4 1 rfl
theorem dX0_measureHops_82 : decode cX0_measureHops 82 = .ok (.iadd, 1) := dc_at dkX0_measureHops_b4 2 rfl
theorem dX0_measureHops_83 : decode cX0_measureHops 83 = .ok (.istore 6, 2) := dc_at dkX0_measureHops_b4 3 rfl
theorem dX0_measureHops_85 : decode cX0_measureHops 85 = .ok (.aload_n 0, 1) := dc_at dkX0_measureHops_b4 4 rfl
theorem dX0_measureHops_86 : decode cX0_measureHops 86 = .ok (.getfield 9, 3) := dc_at dkX0_measureHops_b4 5 rfl
theorem dX0_measureHops_89 : decode cX0_measureHops 89 = .ok (.iload_n 2, 1) := dc_at dkX0_measureHops_b4 6 rfl
theorem dX0_measureHops_90 : decode cX0_measureHops 90 = .ok (.bipush 8, 2) := dc_at dkX0_measureHops_b4 7 rfl
theorem dX0_measureHops_92 : decode cX0_measureHops 92 = .ok (.imul, 1) := dc_at dkX0_measureHops_b4 8 rfl
theorem dX0_measureHops_93 : decode cX0_measureHops 93 = .ok (.iload 4, 2) := dc_at dkX0_measureHops_b4 9 rfl
def drX0_measureHops_b5 : List (Nat × (Instr × Nat)) := [(95, (.iadd, 1)), (96, (.iload 6, 2)), (98, (.invokestatic 40, 3)), (101, (.iinc 4 1, 3)), (104, (.goto (-63), 3)), (107, (.iinc 2 1, 3)), (110, (.goto (-108), 3)), (113, (.return_, 1))]
theorem dkX0_measureHops_b5 : ((drX0_measureHops_b5).all fun r => decide (decode cX0_measureHops r.1 = .ok r.2)) = true := by decide +kernel
theorem dX0_measureHops_95 : decode cX0_measureHops 95 = .ok (.iadd, 1) := dc_at dkX0_measureHops_b5 0 rfl
theorem dX0_measureHops_96 : decode cX0_measureHops 96 = .ok (.iload 6, 2) := dc_at dkX0_measureHops_b5 1 rfl
theorem dX0_measureHops_98 : decode cX0_measureHops 98 = .ok (.invokestatic 40, 3) := dc_at dkX0_measureHops_b5 2 rfl
theorem dX0_measureHops_101 : decode cX0_measureHops 101 = .ok (.iinc 4 1, 3) := dc_at dkX0_measureHops_b5 3 rfl
theorem dX0_measureHops_104 : decode cX0_measureHops 104 = .ok (.goto (-63), 3) := dc_at dkX0_measureHops_b5 4 rfl
theorem dX0_measureHops_107 : decode cX0_measureHops 107 = .ok (.iinc 2 1, 3) := dc_at dkX0_measureHops_b5 5 rfl
theorem dX0_measureHops_110 : decode cX0_measureHops 110 = .ok (.goto (-108), 3) := dc_at dkX0_measureHops_b5 6 rfl
theorem dX0_measureHops_113 : decode cX0_measureHops 113 = .ok (.return_, 1) := dc_at dkX0_measureHops_b5 7 rfl
def drX0_ticksBy_b0 : List (Nat × (Instr × Nat)) := [(0, (.aload_n 0, 1)), (1, (.getfield 9, 3)), (4, (.iload_n 1, 1)), (5, (.bipush 8, 2)), (7, (.imul, 1)), (8, (.iload_n 2, 1)), (9, (.iadd, 1)), (10, (.invokestatic 47, 3)), (13, (.aload_n 0, 1)), (14, (.getfield 15, 3))]
theorem dkX0_ticksBy_b0 : ((drX0_ticksBy_b0).all fun r => decide (decode cX0_ticksBy r.1 = .ok r.2)) = true := by decide +kernel
theorem dX0_ticksBy_0 : decode cX0_ticksBy 0 = .ok (.aload_n 0, 1) := dc_at dkX0_ticksBy_b0 0 rfl
theorem dX0_ticksBy_1 : decode cX0_ticksBy 1 = .ok (.getfield 9, 3) := dc_at dkX0_ticksBy_b0 1 rfl
theorem dX0_ticksBy_4 : decode cX0_ticksBy 4 = .ok (.iload_n 1, 1) := dc_at dkX0_ticksBy_b0 2 rfl
theorem dX0_ticksBy_5 : decode cX0_ticksBy 5 = .ok (.bipush 8, 2) := dc_at dkX0_ticksBy_b0 3 rfl
theorem dX0_ticksBy_7 : decode cX0_ticksBy 7 = .ok (.imul, 1) := dc_at dkX0_ticksBy_b0 4 rfl
theorem dX0_ticksBy_8 : decode cX0_ticksBy 8 = .ok (.iload_n 2, 1) := dc_at dkX0_ticksBy_b0 5 rfl
theorem dX0_ticksBy_9 : decode cX0_ticksBy 9 = .ok (.iadd, 1) := dc_at dkX0_ticksBy_b0 6 rfl
theorem dX0_ticksBy_10 : decode cX0_ticksBy 10 = .ok (.invokestatic 47, 3) := dc_at dkX0_ticksBy_b0 7 rfl
theorem dX0_ticksBy_13 : decode cX0_ticksBy 13 = .ok (.aload_n 0, 1) := dc_at dkX0_ticksBy_b0 8 rfl
theorem dX0_ticksBy_14 : decode cX0_ticksBy 14 = .ok (.getfield 15, 3) := dc_at dkX0_ticksBy_b0 9 rfl
def drX0_ticksBy_b1 : List (Nat × (Instr × Nat)) := [(17, (.iload_n 3, 1)), (18, (.iconst 1, 1)), (19, (.iload_n 2, 1)), (20, (.ishl, 1)), (21, (.ixor, 1)), (22, (.bipush 8, 2)), (24, (.imul, 1)), (25, (.iload_n 2, 1)), (26, (.iadd, 1)), (27, (.invokestatic 47, 3))]
theorem dkX0_ticksBy_b1 : ((drX0_ticksBy_b1).all fun r => decide (decode cX0_ticksBy r.1 = .ok r.2)) = true := by decide +kernel
theorem dX0_ticksBy_17 : decode cX0_ticksBy 17 = .ok (.iload_n 3, 1) := dc_at dkX0_ticksBy_b1 0 rfl
theorem dX0_ticksBy_18 : decode cX0_ticksBy 18 = .ok (.iconst 1, 1) := dc_at dkX0_ticksBy_b1 1 rfl
theorem dX0_ticksBy_19 : decode cX0_ticksBy 19 = .ok (.iload_n 2, 1) := dc_at dkX0_ticksBy_b1 2 rfl
theorem dX0_ticksBy_20 : decode cX0_ticksBy 20 = .ok (.ishl, 1) := dc_at dkX0_ticksBy_b1 3 rfl
theorem dX0_ticksBy_21 : decode cX0_ticksBy 21 = .ok (.ixor, 1) := dc_at dkX0_ticksBy_b1 4 rfl
theorem dX0_ticksBy_22 : decode cX0_ticksBy 22 = .ok (.bipush 8, 2) := dc_at dkX0_ticksBy_b1 5 rfl
theorem dX0_ticksBy_24 : decode cX0_ticksBy 24 = .ok (.imul, 1) := dc_at dkX0_ticksBy_b1 6 rfl
theorem dX0_ticksBy_25 : decode cX0_ticksBy 25 = .ok (.iload_n 2, 1) := dc_at dkX0_ticksBy_b1 7 rfl
theorem dX0_ticksBy_26 : decode cX0_ticksBy 26 = .ok (.iadd, 1) := dc_at dkX0_ticksBy_b1 8 rfl
theorem dX0_ticksBy_27 : decode cX0_ticksBy 27 = .ok (.invokestatic 47, 3) := dc_at dkX0_ticksBy_b1 9 rfl
def drX0_ticksBy_b2 : List (Nat × (Instr × Nat)) := [(30, (.iadd, 1)), (31, (.ireturn, 1))]
theorem dkX0_ticksBy_b2 : ((drX0_ticksBy_b2).all fun r => decide (decode cX0_ticksBy r.1 = .ok r.2)) = true := by decide +kernel
theorem dX0_ticksBy_30 : decode cX0_ticksBy 30 = .ok (.iadd, 1) := dc_at dkX0_ticksBy_b2 0 rfl
theorem dX0_ticksBy_31 : decode cX0_ticksBy 31 = .ok (.ireturn, 1) := dc_at dkX0_ticksBy_b2 1 rfl
def drX0_fewestFrom_b0 : List (Nat × (Instr × Nat)) := [(0, (.ldc 72, 2)), (2, (.istore_n 3, 1)), (3, (.iconst 0, 1)), (4, (.istore 4, 2)), (6, (.iload 4, 2)), (8, (.aload_n 0, 1)), (9, (.getfield 32, 3)), (12, (.if_icmp .ge 32, 3)), (15, (.iload_n 2, 1)), (16, (.iload 4, 2))]
theorem dkX0_fewestFrom_b0 : ((drX0_fewestFrom_b0).all fun r => decide (decode cX0_fewestFrom r.1 = .ok r.2)) = true := by decide +kernel
theorem dX0_fewestFrom_0 : decode cX0_fewestFrom 0 = .ok (.ldc 72, 2) := dc_at dkX0_fewestFrom_b0 0 rfl
theorem dX0_fewestFrom_2 : decode cX0_fewestFrom 2 = .ok (.istore_n 3, 1) := dc_at dkX0_fewestFrom_b0 1 rfl
theorem dX0_fewestFrom_3 : decode cX0_fewestFrom 3 = .ok (.iconst 0, 1) := dc_at dkX0_fewestFrom_b0 2 rfl
theorem dX0_fewestFrom_4 : decode cX0_fewestFrom 4 = .ok (.istore 4, 2) := dc_at dkX0_fewestFrom_b0 3 rfl
theorem dX0_fewestFrom_6 : decode cX0_fewestFrom 6 = .ok (.iload 4, 2) := dc_at dkX0_fewestFrom_b0 4 rfl
theorem dX0_fewestFrom_8 : decode cX0_fewestFrom 8 = .ok (.aload_n 0, 1) := dc_at dkX0_fewestFrom_b0 5 rfl
theorem dX0_fewestFrom_9 : decode cX0_fewestFrom 9 = .ok (.getfield 32, 3) := dc_at dkX0_fewestFrom_b0 6 rfl
theorem dX0_fewestFrom_12 : decode cX0_fewestFrom 12 = .ok (.if_icmp .ge 32, 3) := dc_at dkX0_fewestFrom_b0 7 rfl
theorem dX0_fewestFrom_15 : decode cX0_fewestFrom 15 = .ok (.iload_n 2, 1) := dc_at dkX0_fewestFrom_b0 8 rfl
theorem dX0_fewestFrom_16 : decode cX0_fewestFrom 16 = .ok (.iload 4, 2) := dc_at dkX0_fewestFrom_b0 9 rfl
def drX0_fewestFrom_b1 : List (Nat × (Instr × Nat)) := [(18, (.ishr, 1)), (19, (.iconst 1, 1)), (20, (.iand, 1)), (21, (.iconst 1, 1)), (22, (.if_icmp .ne 16, 3)), (25, (.iload_n 3, 1)), (26, (.aload_n 0, 1)), (27, (.iload_n 1, 1)), (28, (.iload 4, 2)), (30, (.iload_n 2, 1))]
theorem dkX0_fewestFrom_b1 : ((drX0_fewestFrom_b1).all fun r => decide (decode cX0_fewestFrom r.1 = .ok r.2)) = true := by decide +kernel
theorem dX0_fewestFrom_18 : decode cX0_fewestFrom 18 = .ok (.ishr, 1) := dc_at dkX0_fewestFrom_b1 0 rfl
theorem dX0_fewestFrom_19 : decode cX0_fewestFrom 19 = .ok (.iconst 1, 1) := dc_at dkX0_fewestFrom_b1 1 rfl
theorem dX0_fewestFrom_20 : decode cX0_fewestFrom 20 = .ok (.iand, 1) := dc_at dkX0_fewestFrom_b1 2 rfl
theorem dX0_fewestFrom_21 : decode cX0_fewestFrom 21 = .ok (.iconst 1, 1) := dc_at dkX0_fewestFrom_b1 3 rfl
theorem dX0_fewestFrom_22 : decode cX0_fewestFrom 22 = .ok (.if_icmp .ne 16, 3) := dc_at dkX0_fewestFrom_b1 4 rfl
theorem dX0_fewestFrom_25 : decode cX0_fewestFrom 25 = .ok (.iload_n 3, 1) := dc_at dkX0_fewestFrom_b1 5 rfl
theorem dX0_fewestFrom_26 : decode cX0_fewestFrom 26 = .ok (.aload_n 0, 1) := dc_at dkX0_fewestFrom_b1 6 rfl
theorem dX0_fewestFrom_27 : decode cX0_fewestFrom 27 = .ok (.iload_n 1, 1) := dc_at dkX0_fewestFrom_b1 7 rfl
theorem dX0_fewestFrom_28 : decode cX0_fewestFrom 28 = .ok (.iload 4, 2) := dc_at dkX0_fewestFrom_b1 8 rfl
theorem dX0_fewestFrom_30 : decode cX0_fewestFrom 30 = .ok (.iload_n 2, 1) := dc_at dkX0_fewestFrom_b1 9 rfl
def drX0_fewestFrom_b2 : List (Nat × (Instr × Nat)) := [(31, (.invokevirtual 73, 3)), (34, (.invokestatic 77, 3)), (37, (.istore_n 3, 1)), (38, (.iinc 4 1, 3)), (41, (.goto (-35), 3)), (44, (.iload_n 3, 1)), (45, (.ireturn, 1))]
theorem dkX0_fewestFrom_b2 : ((drX0_fewestFrom_b2).all fun r => decide (decode cX0_fewestFrom r.1 = .ok r.2)) = true := by decide +kernel
theorem dX0_fewestFrom_31 : decode cX0_fewestFrom 31 = .ok (.invokevirtual 73, 3) := dc_at dkX0_fewestFrom_b2 0 rfl
theorem dX0_fewestFrom_34 : decode cX0_fewestFrom 34 = .ok (.invokestatic 77, 3) := dc_at dkX0_fewestFrom_b2 1 rfl
theorem dX0_fewestFrom_37 : decode cX0_fewestFrom 37 = .ok (.istore_n 3, 1) := dc_at dkX0_fewestFrom_b2 2 rfl
theorem dX0_fewestFrom_38 : decode cX0_fewestFrom 38 = .ok (.iinc 4 1, 3) := dc_at dkX0_fewestFrom_b2 3 rfl
theorem dX0_fewestFrom_41 : decode cX0_fewestFrom 41 = .ok (.goto (-35), 3) := dc_at dkX0_fewestFrom_b2 4 rfl
theorem dX0_fewestFrom_44 : decode cX0_fewestFrom 44 = .ok (.iload_n 3, 1) := dc_at dkX0_fewestFrom_b2 5 rfl
theorem dX0_fewestFrom_45 : decode cX0_fewestFrom 45 = .ok (.ireturn, 1) := dc_at dkX0_fewestFrom_b2 6 rfl
def drX0_followFirst_b0 : List (Nat × (Instr × Nat)) := [(0, (.iconst 1, 1)), (1, (.aload_n 0, 1)), (2, (.getfield 32, 3)), (5, (.ishl, 1)), (6, (.iconst 1, 1)), (7, (.isub, 1)), (8, (.istore_n 1, 1)), (9, (.aload_n 0, 1)), (10, (.getfield 32, 3)), (13, (.istore_n 2, 1))]
theorem dkX0_followFirst_b0 : ((drX0_followFirst_b0).all fun r => decide (decode cX0_followFirst r.1 = .ok r.2)) = true := by decide +kernel
theorem dX0_followFirst_0 : decode cX0_followFirst 0 = .ok (.iconst 1, 1) := dc_at dkX0_followFirst_b0 0 rfl
theorem dX0_followFirst_1 : decode cX0_followFirst 1 = .ok (.aload_n 0, 1) := dc_at dkX0_followFirst_b0 1 rfl
theorem dX0_followFirst_2 : decode cX0_followFirst 2 = .ok (.getfield 32, 3) := dc_at dkX0_followFirst_b0 2 rfl
theorem dX0_followFirst_5 : decode cX0_followFirst 5 = .ok (.ishl, 1) := dc_at dkX0_followFirst_b0 3 rfl
theorem dX0_followFirst_6 : decode cX0_followFirst 6 = .ok (.iconst 1, 1) := dc_at dkX0_followFirst_b0 4 rfl
theorem dX0_followFirst_7 : decode cX0_followFirst 7 = .ok (.isub, 1) := dc_at dkX0_followFirst_b0 5 rfl
theorem dX0_followFirst_8 : decode cX0_followFirst 8 = .ok (.istore_n 1, 1) := dc_at dkX0_followFirst_b0 6 rfl
theorem dX0_followFirst_9 : decode cX0_followFirst 9 = .ok (.aload_n 0, 1) := dc_at dkX0_followFirst_b0 7 rfl
theorem dX0_followFirst_10 : decode cX0_followFirst 10 = .ok (.getfield 32, 3) := dc_at dkX0_followFirst_b0 8 rfl
theorem dX0_followFirst_13 : decode cX0_followFirst 13 = .ok (.istore_n 2, 1) := dc_at dkX0_followFirst_b0 9 rfl
def drX0_followFirst_b1 : List (Nat × (Instr × Nat)) := [(14, (.aload_n 0, 1)), (15, (.iload_n 1, 1)), (16, (.ifCond .ne 7, 3)), (19, (.iconst 0, 1)), (20, (.goto 9, 3)), (23, (.aload_n 0, 1)), (24, (.iload_n 2, 1)), (25, (.iload_n 1, 1)), (26, (.invokevirtual 36, 3)), (29, (.putfield 82, 3))]
theorem dkX0_followFirst_b1 : ((drX0_followFirst_b1).all fun r => decide (decode cX0_followFirst r.1 = .ok r.2)) = true := by decide +kernel
theorem dX0_followFirst_14 : decode cX0_followFirst 14 = .ok (.aload_n 0, 1) := dc_at dkX0_followFirst_b1 0 rfl
theorem dX0_followFirst_15 : decode cX0_followFirst 15 = .ok (.iload_n 1, 1) := dc_at dkX0_followFirst_b1 1 rfl
theorem dX0_followFirst_16 : decode cX0_followFirst 16 = .ok (.ifCond .ne 7, 3) := dc_at dkX0_followFirst_b1 2 rfl
theorem dX0_followFirst_19 : decode cX0_followFirst 19 = .ok (.iconst 0, 1) := dc_at dkX0_followFirst_b1 3 rfl
theorem dX0_followFirst_20 : decode cX0_followFirst 20 = .ok (.goto 9, 3) := dc_at dkX0_followFirst_b1 4 rfl
theorem dX0_followFirst_23 : decode cX0_followFirst 23 = .ok (.aload_n 0, 1) := dc_at dkX0_followFirst_b1 5 rfl
theorem dX0_followFirst_24 : decode cX0_followFirst 24 = .ok (.iload_n 2, 1) := dc_at dkX0_followFirst_b1 6 rfl
theorem dX0_followFirst_25 : decode cX0_followFirst 25 = .ok (.iload_n 1, 1) := dc_at dkX0_followFirst_b1 7 rfl
theorem dX0_followFirst_26 : decode cX0_followFirst 26 = .ok (.invokevirtual 36, 3) := dc_at dkX0_followFirst_b1 8 rfl
theorem dX0_followFirst_29 : decode cX0_followFirst 29 = .ok (.putfield 82, 3) := dc_at dkX0_followFirst_b1 9 rfl
def drX0_followFirst_b2 : List (Nat × (Instr × Nat)) := [(32, (.iconst 0, 1)), (33, (.istore_n 3, 1)), (34, (.iload_n 3, 1)), (35, (.aload_n 0, 1)), (36, (.getfield 32, 3)), (39, (.if_icmp .ge 44, 3)), (42, (.aload_n 0, 1)), (43, (.iload_n 2, 1)), (44, (.iload_n 1, 1)), (45, (.invokevirtual 85, 3))]
theorem dkX0_followFirst_b2 : ((drX0_followFirst_b2).all fun r => decide (decode cX0_followFirst r.1 = .ok r.2)) = true := by decide +kernel
theorem dX0_followFirst_32 : decode cX0_followFirst 32 = .ok (.iconst 0, 1) := dc_at dkX0_followFirst_b2 0 rfl
theorem dX0_followFirst_33 : decode cX0_followFirst 33 = .ok (.istore_n 3, 1) := dc_at dkX0_followFirst_b2 1 rfl
theorem dX0_followFirst_34 : decode cX0_followFirst 34 = .ok (.iload_n 3, 1) := dc_at dkX0_followFirst_b2 2 rfl
theorem dX0_followFirst_35 : decode cX0_followFirst 35 = .ok (.aload_n 0, 1) := dc_at dkX0_followFirst_b2 3 rfl
theorem dX0_followFirst_36 : decode cX0_followFirst 36 = .ok (.getfield 32, 3) := dc_at dkX0_followFirst_b2 4 rfl
theorem dX0_followFirst_39 : decode cX0_followFirst 39 = .ok (.if_icmp .ge 44, 3) := dc_at dkX0_followFirst_b2 5 rfl
theorem dX0_followFirst_42 : decode cX0_followFirst 42 = .ok (.aload_n 0, 1) := dc_at dkX0_followFirst_b2 6 rfl
theorem dX0_followFirst_43 : decode cX0_followFirst 43 = .ok (.iload_n 2, 1) := dc_at dkX0_followFirst_b2 7 rfl
theorem dX0_followFirst_44 : decode cX0_followFirst 44 = .ok (.iload_n 1, 1) := dc_at dkX0_followFirst_b2 8 rfl
theorem dX0_followFirst_45 : decode cX0_followFirst 45 = .ok (.invokevirtual 85, 3) := dc_at dkX0_followFirst_b2 9 rfl
def drX0_followFirst_b3 : List (Nat × (Instr × Nat)) := [(48, (.istore 4, 2)), (50, (.aload_n 0, 1)), (51, (.getfield 21, 3)), (54, (.iload_n 3, 1)), (55, (.aload_n 0, 1)), (56, (.getfield 18, 3)), (59, (.iload 4, 2)), (61, (.invokestatic 47, 3)), (64, (.invokestatic 40, 3)), (67, (.iload_n 1, 1))]
theorem dkX0_followFirst_b3 : ((drX0_followFirst_b3).all fun r => decide (decode cX0_followFirst r.1 = .ok r.2)) = true := by decide +kernel
theorem dX0_followFirst_48 : decode cX0_followFirst 48 = .ok (.istore 4, 2) := dc_at dkX0_followFirst_b3 0 rfl
theorem dX0_followFirst_50 : decode cX0_followFirst 50 = .ok (.aload_n 0, 1) := dc_at dkX0_followFirst_b3 1 rfl
theorem dX0_followFirst_51 : decode cX0_followFirst 51 = .ok (.getfield 21, 3) := dc_at dkX0_followFirst_b3 2 rfl
theorem dX0_followFirst_54 : decode cX0_followFirst 54 = .ok (.iload_n 3, 1) := dc_at dkX0_followFirst_b3 3 rfl
theorem dX0_followFirst_55 : decode cX0_followFirst 55 = .ok (.aload_n 0, 1) := dc_at dkX0_followFirst_b3 4 rfl
theorem dX0_followFirst_56 : decode cX0_followFirst 56 = .ok (.getfield 18, 3) := dc_at dkX0_followFirst_b3 5 rfl
theorem dX0_followFirst_59 : decode cX0_followFirst 59 = .ok (.iload 4, 2) := dc_at dkX0_followFirst_b3 6 rfl
theorem dX0_followFirst_61 : decode cX0_followFirst 61 = .ok (.invokestatic 47, 3) := dc_at dkX0_followFirst_b3 7 rfl
theorem dX0_followFirst_64 : decode cX0_followFirst 64 = .ok (.invokestatic 40, 3) := dc_at dkX0_followFirst_b3 8 rfl
theorem dX0_followFirst_67 : decode cX0_followFirst 67 = .ok (.iload_n 1, 1) := dc_at dkX0_followFirst_b3 9 rfl
def drX0_followFirst_b4 : List (Nat × (Instr × Nat)) := [(68, (.iconst 1, 1)), (69, (.iload 4, 2)), (71, (.ishl, 1)), (72, (.ixor, 1)), (73, (.istore_n 1, 1)), (74, (.iload 4, 2)), (76, (.istore_n 2, 1)), (77, (.iinc 3 1, 3)), (80, (.goto (-46), 3)), (83, (.return_, 1))]
theorem dkX0_followFirst_b4 : ((drX0_followFirst_b4).all fun r => decide (decode cX0_followFirst r.1 = .ok r.2)) = true := by decide +kernel
theorem dX0_followFirst_68 : decode cX0_followFirst 68 = .ok (.iconst 1, 1) := dc_at dkX0_followFirst_b4 0 rfl
theorem dX0_followFirst_69 : decode cX0_followFirst 69 = .ok (.iload 4, 2) := dc_at dkX0_followFirst_b4 1 rfl
theorem dX0_followFirst_71 : decode cX0_followFirst 71 = .ok (.ishl, 1) := dc_at dkX0_followFirst_b4 2 rfl
theorem dX0_followFirst_72 : decode cX0_followFirst 72 = .ok (.ixor, 1) := dc_at dkX0_followFirst_b4 3 rfl
theorem dX0_followFirst_73 : decode cX0_followFirst 73 = .ok (.istore_n 1, 1) := dc_at dkX0_followFirst_b4 4 rfl
theorem dX0_followFirst_74 : decode cX0_followFirst 74 = .ok (.iload 4, 2) := dc_at dkX0_followFirst_b4 5 rfl
theorem dX0_followFirst_76 : decode cX0_followFirst 76 = .ok (.istore_n 2, 1) := dc_at dkX0_followFirst_b4 6 rfl
theorem dX0_followFirst_77 : decode cX0_followFirst 77 = .ok (.iinc 3 1, 3) := dc_at dkX0_followFirst_b4 7 rfl
theorem dX0_followFirst_80 : decode cX0_followFirst 80 = .ok (.goto (-46), 3) := dc_at dkX0_followFirst_b4 8 rfl
theorem dX0_followFirst_83 : decode cX0_followFirst 83 = .ok (.return_, 1) := dc_at dkX0_followFirst_b4 9 rfl
def drX0_firstOfFewest_b0 : List (Nat × (Instr × Nat)) := [(0, (.aload_n 0, 1)), (1, (.iload_n 1, 1)), (2, (.iload_n 2, 1)), (3, (.invokevirtual 36, 3)), (6, (.istore_n 3, 1)), (7, (.iconst 0, 1)), (8, (.istore 4, 2)), (10, (.iload 4, 2)), (12, (.aload_n 0, 1)), (13, (.getfield 32, 3))]
theorem dkX0_firstOfFewest_b0 : ((drX0_firstOfFewest_b0).all fun r => decide (decode cX0_firstOfFewest r.1 = .ok r.2)) = true := by decide +kernel
theorem dX0_firstOfFewest_0 : decode cX0_firstOfFewest 0 = .ok (.aload_n 0, 1) := dc_at dkX0_firstOfFewest_b0 0 rfl
theorem dX0_firstOfFewest_1 : decode cX0_firstOfFewest 1 = .ok (.iload_n 1, 1) := dc_at dkX0_firstOfFewest_b0 1 rfl
theorem dX0_firstOfFewest_2 : decode cX0_firstOfFewest 2 = .ok (.iload_n 2, 1) := dc_at dkX0_firstOfFewest_b0 2 rfl
theorem dX0_firstOfFewest_3 : decode cX0_firstOfFewest 3 = .ok (.invokevirtual 36, 3) := dc_at dkX0_firstOfFewest_b0 3 rfl
theorem dX0_firstOfFewest_6 : decode cX0_firstOfFewest 6 = .ok (.istore_n 3, 1) := dc_at dkX0_firstOfFewest_b0 4 rfl
theorem dX0_firstOfFewest_7 : decode cX0_firstOfFewest 7 = .ok (.iconst 0, 1) := dc_at dkX0_firstOfFewest_b0 5 rfl
theorem dX0_firstOfFewest_8 : decode cX0_firstOfFewest 8 = .ok (.istore 4, 2) := dc_at dkX0_firstOfFewest_b0 6 rfl
theorem dX0_firstOfFewest_10 : decode cX0_firstOfFewest 10 = .ok (.iload 4, 2) := dc_at dkX0_firstOfFewest_b0 7 rfl
theorem dX0_firstOfFewest_12 : decode cX0_firstOfFewest 12 = .ok (.aload_n 0, 1) := dc_at dkX0_firstOfFewest_b0 8 rfl
theorem dX0_firstOfFewest_13 : decode cX0_firstOfFewest 13 = .ok (.getfield 32, 3) := dc_at dkX0_firstOfFewest_b0 9 rfl
def drX0_firstOfFewest_b1 : List (Nat × (Instr × Nat)) := [(16, (.if_icmp .ge 34, 3)), (19, (.iload_n 2, 1)), (20, (.iload 4, 2)), (22, (.ishr, 1)), (23, (.iconst 1, 1)), (24, (.iand, 1)), (25, (.iconst 1, 1)), (26, (.if_icmp .ne 18, 3)), (29, (.aload_n 0, 1)), (30, (.iload_n 1, 1))]
theorem dkX0_firstOfFewest_b1 : ((drX0_firstOfFewest_b1).all fun r => decide (decode cX0_firstOfFewest r.1 = .ok r.2)) = true := by decide +kernel
theorem dX0_firstOfFewest_16 : decode cX0_firstOfFewest 16 = .ok (.if_icmp .ge 34, 3) := dc_at dkX0_firstOfFewest_b1 0 rfl
theorem dX0_firstOfFewest_19 : decode cX0_firstOfFewest 19 = .ok (.iload_n 2, 1) := dc_at dkX0_firstOfFewest_b1 1 rfl
theorem dX0_firstOfFewest_20 : decode cX0_firstOfFewest 20 = .ok (.iload 4, 2) := dc_at dkX0_firstOfFewest_b1 2 rfl
theorem dX0_firstOfFewest_22 : decode cX0_firstOfFewest 22 = .ok (.ishr, 1) := dc_at dkX0_firstOfFewest_b1 3 rfl
theorem dX0_firstOfFewest_23 : decode cX0_firstOfFewest 23 = .ok (.iconst 1, 1) := dc_at dkX0_firstOfFewest_b1 4 rfl
theorem dX0_firstOfFewest_24 : decode cX0_firstOfFewest 24 = .ok (.iand, 1) := dc_at dkX0_firstOfFewest_b1 5 rfl
theorem dX0_firstOfFewest_25 : decode cX0_firstOfFewest 25 = .ok (.iconst 1, 1) := dc_at dkX0_firstOfFewest_b1 6 rfl
theorem dX0_firstOfFewest_26 : decode cX0_firstOfFewest 26 = .ok (.if_icmp .ne 18, 3) := dc_at dkX0_firstOfFewest_b1 7 rfl
theorem dX0_firstOfFewest_29 : decode cX0_firstOfFewest 29 = .ok (.aload_n 0, 1) := dc_at dkX0_firstOfFewest_b1 8 rfl
theorem dX0_firstOfFewest_30 : decode cX0_firstOfFewest 30 = .ok (.iload_n 1, 1) := dc_at dkX0_firstOfFewest_b1 9 rfl
def drX0_firstOfFewest_b2 : List (Nat × (Instr × Nat)) := [(31, (.iload 4, 2)), (33, (.iload_n 2, 1)), (34, (.invokevirtual 73, 3)), (37, (.iload_n 3, 1)), (38, (.if_icmp .ne 6, 3)), (41, (.iload 4, 2)), (43, (.ireturn, 1)), (44, (.iinc 4 1, 3)), (47, (.goto (-37), 3)), (50, (.iconst 0, 1))]
theorem dkX0_firstOfFewest_b2 : ((drX0_firstOfFewest_b2).all fun r => decide (decode cX0_firstOfFewest r.1 = .ok r.2)) = true := by decide +kernel
theorem dX0_firstOfFewest_31 : decode cX0_firstOfFewest 31 = .ok (.iload 4, 2) := dc_at dkX0_firstOfFewest_b2 0 rfl
theorem dX0_firstOfFewest_33 : decode cX0_firstOfFewest 33 = .ok (.iload_n 2, 1) := dc_at dkX0_firstOfFewest_b2 1 rfl
theorem dX0_firstOfFewest_34 : decode cX0_firstOfFewest 34 = .ok (.invokevirtual 73, 3) := dc_at dkX0_firstOfFewest_b2 2 rfl
theorem dX0_firstOfFewest_37 : decode cX0_firstOfFewest 37 = .ok (.iload_n 3, 1) := dc_at dkX0_firstOfFewest_b2 3 rfl
theorem dX0_firstOfFewest_38 : decode cX0_firstOfFewest 38 = .ok (.if_icmp .ne 6, 3) := dc_at dkX0_firstOfFewest_b2 4 rfl
theorem dX0_firstOfFewest_41 : decode cX0_firstOfFewest 41 = .ok (.iload 4, 2) := dc_at dkX0_firstOfFewest_b2 5 rfl
theorem dX0_firstOfFewest_43 : decode cX0_firstOfFewest 43 = .ok (.ireturn, 1) := dc_at dkX0_firstOfFewest_b2 6 rfl
theorem dX0_firstOfFewest_44 : decode cX0_firstOfFewest 44 = .ok (.iinc 4 1, 3) := dc_at dkX0_firstOfFewest_b2 7 rfl
theorem dX0_firstOfFewest_47 : decode cX0_firstOfFewest 47 = .ok (.goto (-37), 3) := dc_at dkX0_firstOfFewest_b2 8 rfl
theorem dX0_firstOfFewest_50 : decode cX0_firstOfFewest 50 = .ok (.iconst 0, 1) := dc_at dkX0_firstOfFewest_b2 9 rfl
def drX0_firstOfFewest_b3 : List (Nat × (Instr × Nat)) := [(51, (.ireturn, 1))]
theorem dkX0_firstOfFewest_b3 : ((drX0_firstOfFewest_b3).all fun r => decide (decode cX0_firstOfFewest r.1 = .ok r.2)) = true := by decide +kernel
theorem dX0_firstOfFewest_51 : decode cX0_firstOfFewest 51 = .ok (.ireturn, 1) := dc_at dkX0_firstOfFewest_b3 0 rfl
def drX1_init_b0 : List (Nat × (Instr × Nat)) := [(0, (.aload_n 0, 1)), (1, (.invokespecial 3, 3)), (4, (.aload_n 0, 1)), (5, (.bipush 40, 2)), (7, (.newarray .int, 2)), (9, (.putfield 9, 3)), (12, (.aload_n 0, 1)), (13, (.iconst (-1), 1)), (14, (.putfield 15, 3)), (17, (.aload_n 0, 1))]
theorem dkX1_init_b0 : ((drX1_init_b0).all fun r => decide (decode cX1_init r.1 = .ok r.2)) = true := by decide +kernel
theorem dX1_init_0 : decode cX1_init 0 = .ok (.aload_n 0, 1) := dc_at dkX1_init_b0 0 rfl
theorem dX1_init_1 : decode cX1_init 1 = .ok (.invokespecial 3, 3) := dc_at dkX1_init_b0 1 rfl
theorem dX1_init_4 : decode cX1_init 4 = .ok (.aload_n 0, 1) := dc_at dkX1_init_b0 2 rfl
theorem dX1_init_5 : decode cX1_init 5 = .ok (.bipush 40, 2) := dc_at dkX1_init_b0 3 rfl
theorem dX1_init_7 : decode cX1_init 7 = .ok (.newarray .int, 2) := dc_at dkX1_init_b0 4 rfl
theorem dX1_init_9 : decode cX1_init 9 = .ok (.putfield 9, 3) := dc_at dkX1_init_b0 5 rfl
theorem dX1_init_12 : decode cX1_init 12 = .ok (.aload_n 0, 1) := dc_at dkX1_init_b0 6 rfl
theorem dX1_init_13 : decode cX1_init 13 = .ok (.iconst (-1), 1) := dc_at dkX1_init_b0 7 rfl
theorem dX1_init_14 : decode cX1_init 14 = .ok (.putfield 15, 3) := dc_at dkX1_init_b0 8 rfl
theorem dX1_init_17 : decode cX1_init 17 = .ok (.aload_n 0, 1) := dc_at dkX1_init_b0 9 rfl
def drX1_init_b1 : List (Nat × (Instr × Nat)) := [(18, (.iconst 0, 1)), (19, (.putfield 19, 3)), (22, (.return_, 1))]
theorem dkX1_init_b1 : ((drX1_init_b1).all fun r => decide (decode cX1_init r.1 = .ok r.2)) = true := by decide +kernel
theorem dX1_init_18 : decode cX1_init 18 = .ok (.iconst 0, 1) := dc_at dkX1_init_b1 0 rfl
theorem dX1_init_19 : decode cX1_init 19 = .ok (.putfield 19, 3) := dc_at dkX1_init_b1 1 rfl
theorem dX1_init_22 : decode cX1_init 22 = .ok (.return_, 1) := dc_at dkX1_init_b1 2 rfl
def drX1_isNothing_b0 : List (Nat × (Instr × Nat)) := [(0, (.aload_n 0, 1)), (1, (.getfield 15, 3)), (4, (.iconst (-1), 1)), (5, (.if_icmp .ne 7, 3)), (8, (.iconst 1, 1)), (9, (.goto 4, 3)), (12, (.iconst 0, 1)), (13, (.ireturn, 1))]
theorem dkX1_isNothing_b0 : ((drX1_isNothing_b0).all fun r => decide (decode cX1_isNothing r.1 = .ok r.2)) = true := by decide +kernel
theorem dX1_isNothing_0 : decode cX1_isNothing 0 = .ok (.aload_n 0, 1) := dc_at dkX1_isNothing_b0 0 rfl
theorem dX1_isNothing_1 : decode cX1_isNothing 1 = .ok (.getfield 15, 3) := dc_at dkX1_isNothing_b0 1 rfl
theorem dX1_isNothing_4 : decode cX1_isNothing 4 = .ok (.iconst (-1), 1) := dc_at dkX1_isNothing_b0 2 rfl
theorem dX1_isNothing_5 : decode cX1_isNothing 5 = .ok (.if_icmp .ne 7, 3) := dc_at dkX1_isNothing_b0 3 rfl
theorem dX1_isNothing_8 : decode cX1_isNothing 8 = .ok (.iconst 1, 1) := dc_at dkX1_isNothing_b0 4 rfl
theorem dX1_isNothing_9 : decode cX1_isNothing 9 = .ok (.goto 4, 3) := dc_at dkX1_isNothing_b0 5 rfl
theorem dX1_isNothing_12 : decode cX1_isNothing 12 = .ok (.iconst 0, 1) := dc_at dkX1_isNothing_b0 6 rfl
theorem dX1_isNothing_13 : decode cX1_isNothing 13 = .ok (.ireturn, 1) := dc_at dkX1_isNothing_b0 7 rfl
def drX1_makeNew_b0 : List (Nat × (Instr × Nat)) := [(0, (.aload_n 0, 1)), (1, (.iload_n 1, 1)), (2, (.putfield 15, 3)), (5, (.aload_n 0, 1)), (6, (.iload_n 2, 1)), (7, (.putfield 19, 3)), (10, (.iconst 0, 1)), (11, (.istore_n 3, 1)), (12, (.iload_n 3, 1)), (13, (.bipush 40, 2))]
theorem dkX1_makeNew_b0 : ((drX1_makeNew_b0).all fun r => decide (decode cX1_makeNew r.1 = .ok r.2)) = true := by decide +kernel
theorem dX1_makeNew_0 : decode cX1_makeNew 0 = .ok (.aload_n 0, 1) := dc_at dkX1_makeNew_b0 0 rfl
theorem dX1_makeNew_1 : decode cX1_makeNew 1 = .ok (.iload_n 1, 1) := dc_at dkX1_makeNew_b0 1 rfl
theorem dX1_makeNew_2 : decode cX1_makeNew 2 = .ok (.putfield 15, 3) := dc_at dkX1_makeNew_b0 2 rfl
theorem dX1_makeNew_5 : decode cX1_makeNew 5 = .ok (.aload_n 0, 1) := dc_at dkX1_makeNew_b0 3 rfl
theorem dX1_makeNew_6 : decode cX1_makeNew 6 = .ok (.iload_n 2, 1) := dc_at dkX1_makeNew_b0 4 rfl
theorem dX1_makeNew_7 : decode cX1_makeNew 7 = .ok (.putfield 19, 3) := dc_at dkX1_makeNew_b0 5 rfl
theorem dX1_makeNew_10 : decode cX1_makeNew 10 = .ok (.iconst 0, 1) := dc_at dkX1_makeNew_b0 6 rfl
theorem dX1_makeNew_11 : decode cX1_makeNew 11 = .ok (.istore_n 3, 1) := dc_at dkX1_makeNew_b0 7 rfl
theorem dX1_makeNew_12 : decode cX1_makeNew 12 = .ok (.iload_n 3, 1) := dc_at dkX1_makeNew_b0 8 rfl
theorem dX1_makeNew_13 : decode cX1_makeNew 13 = .ok (.bipush 40, 2) := dc_at dkX1_makeNew_b0 9 rfl
def drX1_makeNew_b1 : List (Nat × (Instr × Nat)) := [(15, (.if_icmp .ge 18, 3)), (18, (.aload_n 0, 1)), (19, (.getfield 9, 3)), (22, (.iload_n 3, 1)), (23, (.iconst 0, 1)), (24, (.invokestatic 22, 3)), (27, (.iinc 3 1, 3)), (30, (.goto (-18), 3)), (33, (.return_, 1))]
theorem dkX1_makeNew_b1 : ((drX1_makeNew_b1).all fun r => decide (decode cX1_makeNew r.1 = .ok r.2)) = true := by decide +kernel
theorem dX1_makeNew_15 : decode cX1_makeNew 15 = .ok (.if_icmp .ge 18, 3) := dc_at dkX1_makeNew_b1 0 rfl
theorem dX1_makeNew_18 : decode cX1_makeNew 18 = .ok (.aload_n 0, 1) := dc_at dkX1_makeNew_b1 1 rfl
theorem dX1_makeNew_19 : decode cX1_makeNew 19 = .ok (.getfield 9, 3) := dc_at dkX1_makeNew_b1 2 rfl
theorem dX1_makeNew_22 : decode cX1_makeNew 22 = .ok (.iload_n 3, 1) := dc_at dkX1_makeNew_b1 3 rfl
theorem dX1_makeNew_23 : decode cX1_makeNew 23 = .ok (.iconst 0, 1) := dc_at dkX1_makeNew_b1 4 rfl
theorem dX1_makeNew_24 : decode cX1_makeNew 24 = .ok (.invokestatic 22, 3) := dc_at dkX1_makeNew_b1 5 rfl
theorem dX1_makeNew_27 : decode cX1_makeNew 27 = .ok (.iinc 3 1, 3) := dc_at dkX1_makeNew_b1 6 rfl
theorem dX1_makeNew_30 : decode cX1_makeNew 30 = .ok (.goto (-18), 3) := dc_at dkX1_makeNew_b1 7 rfl
theorem dX1_makeNew_33 : decode cX1_makeNew 33 = .ok (.return_, 1) := dc_at dkX1_makeNew_b1 8 rfl
def drX1_faultOf_b0 : List (Nat × (Instr × Nat)) := [(0, (.aload_n 0, 1)), (1, (.invokevirtual 26, 3)), (4, (.ifCond .eq 5, 3)), (7, (.iconst 1, 1)), (8, (.ireturn, 1)), (9, (.iload_n 1, 1)), (10, (.aload_n 0, 1)), (11, (.getfield 15, 3)), (14, (.if_icmp .eq 5, 3)), (17, (.iconst 3, 1))]
theorem dkX1_faultOf_b0 : ((drX1_faultOf_b0).all fun r => decide (decode cX1_faultOf r.1 = .ok r.2)) = true := by decide +kernel
theorem dX1_faultOf_0 : decode cX1_faultOf 0 = .ok (.aload_n 0, 1) := dc_at dkX1_faultOf_b0 0 rfl
theorem dX1_faultOf_1 : decode cX1_faultOf 1 = .ok (.invokevirtual 26, 3) := dc_at dkX1_faultOf_b0 1 rfl
theorem dX1_faultOf_4 : decode cX1_faultOf 4 = .ok (.ifCond .eq 5, 3) := dc_at dkX1_faultOf_b0 2 rfl
theorem dX1_faultOf_7 : decode cX1_faultOf 7 = .ok (.iconst 1, 1) := dc_at dkX1_faultOf_b0 3 rfl
theorem dX1_faultOf_8 : decode cX1_faultOf 8 = .ok (.ireturn, 1) := dc_at dkX1_faultOf_b0 4 rfl
theorem dX1_faultOf_9 : decode cX1_faultOf 9 = .ok (.iload_n 1, 1) := dc_at dkX1_faultOf_b0 5 rfl
theorem dX1_faultOf_10 : decode cX1_faultOf 10 = .ok (.aload_n 0, 1) := dc_at dkX1_faultOf_b0 6 rfl
theorem dX1_faultOf_11 : decode cX1_faultOf 11 = .ok (.getfield 15, 3) := dc_at dkX1_faultOf_b0 7 rfl
theorem dX1_faultOf_14 : decode cX1_faultOf 14 = .ok (.if_icmp .eq 5, 3) := dc_at dkX1_faultOf_b0 8 rfl
theorem dX1_faultOf_17 : decode cX1_faultOf 17 = .ok (.iconst 3, 1) := dc_at dkX1_faultOf_b0 9 rfl
def drX1_faultOf_b1 : List (Nat × (Instr × Nat)) := [(18, (.ireturn, 1)), (19, (.iload_n 2, 1)), (20, (.iconst 0, 1)), (21, (.aload_n 0, 1)), (22, (.getfield 19, 3)), (25, (.iconst 1, 1)), (26, (.isub, 1)), (27, (.invokestatic 30, 3)), (30, (.ifCond .eq 7, 3)), (33, (.iconst 0, 1))]
theorem dkX1_faultOf_b1 : ((drX1_faultOf_b1).all fun r => decide (decode cX1_faultOf r.1 = .ok r.2)) = true := by decide +kernel
theorem dX1_faultOf_18 : decode cX1_faultOf 18 = .ok (.ireturn, 1) := dc_at dkX1_faultOf_b1 0 rfl
theorem dX1_faultOf_19 : decode cX1_faultOf 19 = .ok (.iload_n 2, 1) := dc_at dkX1_faultOf_b1 1 rfl
theorem dX1_faultOf_20 : decode cX1_faultOf 20 = .ok (.iconst 0, 1) := dc_at dkX1_faultOf_b1 2 rfl
theorem dX1_faultOf_21 : decode cX1_faultOf 21 = .ok (.aload_n 0, 1) := dc_at dkX1_faultOf_b1 3 rfl
theorem dX1_faultOf_22 : decode cX1_faultOf 22 = .ok (.getfield 19, 3) := dc_at dkX1_faultOf_b1 4 rfl
theorem dX1_faultOf_25 : decode cX1_faultOf 25 = .ok (.iconst 1, 1) := dc_at dkX1_faultOf_b1 5 rfl
theorem dX1_faultOf_26 : decode cX1_faultOf 26 = .ok (.isub, 1) := dc_at dkX1_faultOf_b1 6 rfl
theorem dX1_faultOf_27 : decode cX1_faultOf 27 = .ok (.invokestatic 30, 3) := dc_at dkX1_faultOf_b1 7 rfl
theorem dX1_faultOf_30 : decode cX1_faultOf 30 = .ok (.ifCond .eq 7, 3) := dc_at dkX1_faultOf_b1 8 rfl
theorem dX1_faultOf_33 : decode cX1_faultOf 33 = .ok (.iconst 0, 1) := dc_at dkX1_faultOf_b1 9 rfl
def drX1_faultOf_b2 : List (Nat × (Instr × Nat)) := [(34, (.goto 4, 3)), (37, (.iconst 2, 1)), (38, (.ireturn, 1))]
theorem dkX1_faultOf_b2 : ((drX1_faultOf_b2).all fun r => decide (decode cX1_faultOf r.1 = .ok r.2)) = true := by decide +kernel
theorem dX1_faultOf_34 : decode cX1_faultOf 34 = .ok (.goto 4, 3) := dc_at dkX1_faultOf_b2 0 rfl
theorem dX1_faultOf_37 : decode cX1_faultOf 37 = .ok (.iconst 2, 1) := dc_at dkX1_faultOf_b2 1 rfl
theorem dX1_faultOf_38 : decode cX1_faultOf 38 = .ok (.ireturn, 1) := dc_at dkX1_faultOf_b2 2 rfl
def drX1_cellAt_b0 : List (Nat × (Instr × Nat)) := [(0, (.aload_n 0, 1)), (1, (.getfield 9, 3)), (4, (.iload_n 1, 1)), (5, (.invokestatic 34, 3)), (8, (.ireturn, 1))]
theorem dkX1_cellAt_b0 : ((drX1_cellAt_b0).all fun r => decide (decode cX1_cellAt r.1 = .ok r.2)) = true := by decide +kernel
theorem dX1_cellAt_0 : decode cX1_cellAt 0 = .ok (.aload_n 0, 1) := dc_at dkX1_cellAt_b0 0 rfl
theorem dX1_cellAt_1 : decode cX1_cellAt 1 = .ok (.getfield 9, 3) := dc_at dkX1_cellAt_b0 1 rfl
theorem dX1_cellAt_4 : decode cX1_cellAt 4 = .ok (.iload_n 1, 1) := dc_at dkX1_cellAt_b0 2 rfl
theorem dX1_cellAt_5 : decode cX1_cellAt 5 = .ok (.invokestatic 34, 3) := dc_at dkX1_cellAt_b0 3 rfl
theorem dX1_cellAt_8 : decode cX1_cellAt 8 = .ok (.ireturn, 1) := dc_at dkX1_cellAt_b0 4 rfl
def drX1_put_b0 : List (Nat × (Instr × Nat)) := [(0, (.aload_n 0, 1)), (1, (.getfield 15, 3)), (4, (.ifCond .ne 8, 3)), (7, (.iload_n 2, 1)), (8, (.i2b, 1)), (9, (.goto 17, 3)), (12, (.aload_n 0, 1)), (13, (.getfield 15, 3)), (16, (.iconst 1, 1)), (17, (.if_icmp .ne 8, 3))]
theorem dkX1_put_b0 : ((drX1_put_b0).all fun r => decide (decode cX1_put r.1 = .ok r.2)) = true := by decide +kernel
theorem dX1_put_0 : decode cX1_put 0 = .ok (.aload_n 0, 1) := dc_at dkX1_put_b0 0 rfl
theorem dX1_put_1 : decode cX1_put 1 = .ok (.getfield 15, 3) := dc_at dkX1_put_b0 1 rfl
theorem dX1_put_4 : decode cX1_put 4 = .ok (.ifCond .ne 8, 3) := dc_at dkX1_put_b0 2 rfl
theorem dX1_put_7 : decode cX1_put 7 = .ok (.iload_n 2, 1) := dc_at dkX1_put_b0 3 rfl
theorem dX1_put_8 : decode cX1_put 8 = .ok (.i2b, 1) := dc_at dkX1_put_b0 4 rfl
theorem dX1_put_9 : decode cX1_put 9 = .ok (.goto 17, 3) := dc_at dkX1_put_b0 5 rfl
theorem dX1_put_12 : decode cX1_put 12 = .ok (.aload_n 0, 1) := dc_at dkX1_put_b0 6 rfl
theorem dX1_put_13 : decode cX1_put 13 = .ok (.getfield 15, 3) := dc_at dkX1_put_b0 7 rfl
theorem dX1_put_16 : decode cX1_put 16 = .ok (.iconst 1, 1) := dc_at dkX1_put_b0 8 rfl
theorem dX1_put_17 : decode cX1_put 17 = .ok (.if_icmp .ne 8, 3) := dc_at dkX1_put_b0 9 rfl
def drX1_put_b1 : List (Nat × (Instr × Nat)) := [(20, (.iload_n 2, 1)), (21, (.i2s, 1)), (22, (.goto 4, 3)), (25, (.iload_n 2, 1)), (26, (.istore_n 3, 1)), (27, (.aload_n 0, 1)), (28, (.getfield 9, 3)), (31, (.iload_n 1, 1)), (32, (.iload_n 3, 1)), (33, (.invokestatic 22, 3))]
theorem dkX1_put_b1 : ((drX1_put_b1).all fun r => decide (decode cX1_put r.1 = .ok r.2)) = true := by decide +kernel
theorem dX1_put_20 : decode cX1_put 20 = .ok (.iload_n 2, 1) := dc_at dkX1_put_b1 0 rfl
theorem dX1_put_21 : decode cX1_put 21 = .ok (.i2s, 1) := dc_at dkX1_put_b1 1 rfl
theorem dX1_put_22 : decode cX1_put 22 = .ok (.goto 4, 3) := dc_at dkX1_put_b1 2 rfl
theorem dX1_put_25 : decode cX1_put 25 = .ok (.iload_n 2, 1) := dc_at dkX1_put_b1 3 rfl
theorem dX1_put_26 : decode cX1_put 26 = .ok (.istore_n 3, 1) := dc_at dkX1_put_b1 4 rfl
theorem dX1_put_27 : decode cX1_put 27 = .ok (.aload_n 0, 1) := dc_at dkX1_put_b1 5 rfl
theorem dX1_put_28 : decode cX1_put 28 = .ok (.getfield 9, 3) := dc_at dkX1_put_b1 6 rfl
theorem dX1_put_31 : decode cX1_put 31 = .ok (.iload_n 1, 1) := dc_at dkX1_put_b1 7 rfl
theorem dX1_put_32 : decode cX1_put 32 = .ok (.iload_n 3, 1) := dc_at dkX1_put_b1 8 rfl
theorem dX1_put_33 : decode cX1_put 33 = .ok (.invokestatic 22, 3) := dc_at dkX1_put_b1 9 rfl
def drX1_put_b2 : List (Nat × (Instr × Nat)) := [(36, (.return_, 1))]
theorem dkX1_put_b2 : ((drX1_put_b2).all fun r => decide (decode cX1_put r.1 = .ok r.2)) = true := by decide +kernel
theorem dX1_put_36 : decode cX1_put 36 = .ok (.return_, 1) := dc_at dkX1_put_b2 0 rfl
def drX2_init_b0 : List (Nat × (Instr × Nat)) := [(0, (.aload_n 0, 1)), (1, (.invokespecial 3, 3)), (4, (.aload_n 0, 1)), (5, (.bipush 9, 2)), (7, (.newarray .int, 2)), (9, (.putfield 9, 3)), (12, (.aload_n 0, 1)), (13, (.bipush 12, 2)), (15, (.newarray .int, 2)), (17, (.putfield 15, 3))]
theorem dkX2_init_b0 : ((drX2_init_b0).all fun r => decide (decode cX2_init r.1 = .ok r.2)) = true := by decide +kernel
theorem dX2_init_0 : decode cX2_init 0 = .ok (.aload_n 0, 1) := dc_at dkX2_init_b0 0 rfl
theorem dX2_init_1 : decode cX2_init 1 = .ok (.invokespecial 3, 3) := dc_at dkX2_init_b0 1 rfl
theorem dX2_init_4 : decode cX2_init 4 = .ok (.aload_n 0, 1) := dc_at dkX2_init_b0 2 rfl
theorem dX2_init_5 : decode cX2_init 5 = .ok (.bipush 9, 2) := dc_at dkX2_init_b0 3 rfl
theorem dX2_init_7 : decode cX2_init 7 = .ok (.newarray .int, 2) := dc_at dkX2_init_b0 4 rfl
theorem dX2_init_9 : decode cX2_init 9 = .ok (.putfield 9, 3) := dc_at dkX2_init_b0 5 rfl
theorem dX2_init_12 : decode cX2_init 12 = .ok (.aload_n 0, 1) := dc_at dkX2_init_b0 6 rfl
theorem dX2_init_13 : decode cX2_init 13 = .ok (.bipush 12, 2) := dc_at dkX2_init_b0 7 rfl
theorem dX2_init_15 : decode cX2_init 15 = .ok (.newarray .int, 2) := dc_at dkX2_init_b0 8 rfl
theorem dX2_init_17 : decode cX2_init 17 = .ok (.putfield 15, 3) := dc_at dkX2_init_b0 9 rfl
def drX2_init_b1 : List (Nat × (Instr × Nat)) := [(20, (.aload_n 0, 1)), (21, (.bipush 12, 2)), (23, (.newarray .int, 2)), (25, (.putfield 18, 3)), (28, (.aload_n 0, 1)), (29, (.sipush 156, 3)), (32, (.newarray .int, 2)), (34, (.putfield 21, 3)), (37, (.aload_n 0, 1)), (38, (.sipush 144, 3))]
theorem dkX2_init_b1 : ((drX2_init_b1).all fun r => decide (decode cX2_init r.1 = .ok r.2)) = true := by decide +kernel
theorem dX2_init_20 : decode cX2_init 20 = .ok (.aload_n 0, 1) := dc_at dkX2_init_b1 0 rfl
theorem dX2_init_21 : decode cX2_init 21 = .ok (.bipush 12, 2) := dc_at dkX2_init_b1 1 rfl
theorem dX2_init_23 : decode cX2_init 23 = .ok (.newarray .int, 2) := dc_at dkX2_init_b1 2 rfl
theorem dX2_init_25 : decode cX2_init 25 = .ok (.putfield 18, 3) := dc_at dkX2_init_b1 3 rfl
theorem dX2_init_28 : decode cX2_init 28 = .ok (.aload_n 0, 1) := dc_at dkX2_init_b1 4 rfl
theorem dX2_init_29 : decode cX2_init 29 = .ok (.sipush 156, 3) := dc_at dkX2_init_b1 5 rfl
theorem dX2_init_32 : decode cX2_init 32 = .ok (.newarray .int, 2) := dc_at dkX2_init_b1 6 rfl
theorem dX2_init_34 : decode cX2_init 34 = .ok (.putfield 21, 3) := dc_at dkX2_init_b1 7 rfl
theorem dX2_init_37 : decode cX2_init 37 = .ok (.aload_n 0, 1) := dc_at dkX2_init_b1 8 rfl
theorem dX2_init_38 : decode cX2_init 38 = .ok (.sipush 144, 3) := dc_at dkX2_init_b1 9 rfl
def drX2_init_b2 : List (Nat × (Instr × Nat)) := [(41, (.newarray .int, 2)), (43, (.putfield 24, 3)), (46, (.aload_n 0, 1)), (47, (.bipush 12, 2)), (49, (.newarray .int, 2)), (51, (.putfield 27, 3)), (54, (.aload_n 0, 1)), (55, (.bipush 12, 2)), (57, (.newarray .int, 2)), (59, (.putfield 30, 3))]
theorem dkX2_init_b2 : ((drX2_init_b2).all fun r => decide (decode cX2_init r.1 = .ok r.2)) = true := by decide +kernel
theorem dX2_init_41 : decode cX2_init 41 = .ok (.newarray .int, 2) := dc_at dkX2_init_b2 0 rfl
theorem dX2_init_43 : decode cX2_init 43 = .ok (.putfield 24, 3) := dc_at dkX2_init_b2 1 rfl
theorem dX2_init_46 : decode cX2_init 46 = .ok (.aload_n 0, 1) := dc_at dkX2_init_b2 2 rfl
theorem dX2_init_47 : decode cX2_init 47 = .ok (.bipush 12, 2) := dc_at dkX2_init_b2 3 rfl
theorem dX2_init_49 : decode cX2_init 49 = .ok (.newarray .int, 2) := dc_at dkX2_init_b2 4 rfl
theorem dX2_init_51 : decode cX2_init 51 = .ok (.putfield 27, 3) := dc_at dkX2_init_b2 5 rfl
theorem dX2_init_54 : decode cX2_init 54 = .ok (.aload_n 0, 1) := dc_at dkX2_init_b2 6 rfl
theorem dX2_init_55 : decode cX2_init 55 = .ok (.bipush 12, 2) := dc_at dkX2_init_b2 7 rfl
theorem dX2_init_57 : decode cX2_init 57 = .ok (.newarray .int, 2) := dc_at dkX2_init_b2 8 rfl
theorem dX2_init_59 : decode cX2_init 59 = .ok (.putfield 30, 3) := dc_at dkX2_init_b2 9 rfl
def drX2_init_b3 : List (Nat × (Instr × Nat)) := [(62, (.aload_n 0, 1)), (63, (.bipush 12, 2)), (65, (.newarray .int, 2)), (67, (.putfield 33, 3)), (70, (.aload_n 0, 1)), (71, (.invokevirtual 36, 3)), (74, (.return_, 1))]
theorem dkX2_init_b3 : ((drX2_init_b3).all fun r => decide (decode cX2_init r.1 = .ok r.2)) = true := by decide +kernel
theorem dX2_init_62 : decode cX2_init 62 = .ok (.aload_n 0, 1) := dc_at dkX2_init_b3 0 rfl
theorem dX2_init_63 : decode cX2_init 63 = .ok (.bipush 12, 2) := dc_at dkX2_init_b3 1 rfl
theorem dX2_init_65 : decode cX2_init 65 = .ok (.newarray .int, 2) := dc_at dkX2_init_b3 2 rfl
theorem dX2_init_67 : decode cX2_init 67 = .ok (.putfield 33, 3) := dc_at dkX2_init_b3 3 rfl
theorem dX2_init_70 : decode cX2_init 70 = .ok (.aload_n 0, 1) := dc_at dkX2_init_b3 4 rfl
theorem dX2_init_71 : decode cX2_init 71 = .ok (.invokevirtual 36, 3) := dc_at dkX2_init_b3 5 rfl
theorem dX2_init_74 : decode cX2_init 74 = .ok (.return_, 1) := dc_at dkX2_init_b3 6 rfl
def drX2_reset_b0 : List (Nat × (Instr × Nat)) := [(0, (.getstatic 39, 3)), (3, (.aload_n 0, 1)), (4, (.getfield 9, 3)), (7, (.invokestatic 42, 3)), (10, (.aload_n 0, 1)), (11, (.iconst 0, 1)), (12, (.putfield 46, 3)), (15, (.aload_n 0, 1)), (16, (.iconst 0, 1)), (17, (.putfield 50, 3))]
theorem dkX2_reset_b0 : ((drX2_reset_b0).all fun r => decide (decode cX2_reset r.1 = .ok r.2)) = true := by decide +kernel
theorem dX2_reset_0 : decode cX2_reset 0 = .ok (.getstatic 39, 3) := dc_at dkX2_reset_b0 0 rfl
theorem dX2_reset_3 : decode cX2_reset 3 = .ok (.aload_n 0, 1) := dc_at dkX2_reset_b0 1 rfl
theorem dX2_reset_4 : decode cX2_reset 4 = .ok (.getfield 9, 3) := dc_at dkX2_reset_b0 2 rfl
theorem dX2_reset_7 : decode cX2_reset 7 = .ok (.invokestatic 42, 3) := dc_at dkX2_reset_b0 3 rfl
theorem dX2_reset_10 : decode cX2_reset 10 = .ok (.aload_n 0, 1) := dc_at dkX2_reset_b0 4 rfl
theorem dX2_reset_11 : decode cX2_reset 11 = .ok (.iconst 0, 1) := dc_at dkX2_reset_b0 5 rfl
theorem dX2_reset_12 : decode cX2_reset 12 = .ok (.putfield 46, 3) := dc_at dkX2_reset_b0 6 rfl
theorem dX2_reset_15 : decode cX2_reset 15 = .ok (.aload_n 0, 1) := dc_at dkX2_reset_b0 7 rfl
theorem dX2_reset_16 : decode cX2_reset 16 = .ok (.iconst 0, 1) := dc_at dkX2_reset_b0 8 rfl
theorem dX2_reset_17 : decode cX2_reset 17 = .ok (.putfield 50, 3) := dc_at dkX2_reset_b0 9 rfl
def drX2_reset_b1 : List (Nat × (Instr × Nat)) := [(20, (.aload_n 0, 1)), (21, (.iconst 0, 1)), (22, (.putfield 53, 3)), (25, (.aload_n 0, 1)), (26, (.iconst 0, 1)), (27, (.putfield 56, 3)), (30, (.aload_n 0, 1)), (31, (.bipush (-4), 2)), (33, (.putfield 59, 3)), (36, (.aload_n 0, 1))]
theorem dkX2_reset_b1 : ((drX2_reset_b1).all fun r => decide (decode cX2_reset r.1 = .ok r.2)) = true := by decide +kernel
theorem dX2_reset_20 : decode cX2_reset 20 = .ok (.aload_n 0, 1) := dc_at dkX2_reset_b1 0 rfl
theorem dX2_reset_21 : decode cX2_reset 21 = .ok (.iconst 0, 1) := dc_at dkX2_reset_b1 1 rfl
theorem dX2_reset_22 : decode cX2_reset 22 = .ok (.putfield 53, 3) := dc_at dkX2_reset_b1 2 rfl
theorem dX2_reset_25 : decode cX2_reset 25 = .ok (.aload_n 0, 1) := dc_at dkX2_reset_b1 3 rfl
theorem dX2_reset_26 : decode cX2_reset 26 = .ok (.iconst 0, 1) := dc_at dkX2_reset_b1 4 rfl
theorem dX2_reset_27 : decode cX2_reset 27 = .ok (.putfield 56, 3) := dc_at dkX2_reset_b1 5 rfl
theorem dX2_reset_30 : decode cX2_reset 30 = .ok (.aload_n 0, 1) := dc_at dkX2_reset_b1 6 rfl
theorem dX2_reset_31 : decode cX2_reset 31 = .ok (.bipush (-4), 2) := dc_at dkX2_reset_b1 7 rfl
theorem dX2_reset_33 : decode cX2_reset 33 = .ok (.putfield 59, 3) := dc_at dkX2_reset_b1 8 rfl
theorem dX2_reset_36 : decode cX2_reset 36 = .ok (.aload_n 0, 1) := dc_at dkX2_reset_b1 9 rfl
def drX2_reset_b2 : List (Nat × (Instr × Nat)) := [(37, (.iconst 0, 1)), (38, (.putfield 62, 3)), (41, (.return_, 1))]
theorem dkX2_reset_b2 : ((drX2_reset_b2).all fun r => decide (decode cX2_reset r.1 = .ok r.2)) = true := by decide +kernel
theorem dX2_reset_37 : decode cX2_reset 37 = .ok (.iconst 0, 1) := dc_at dkX2_reset_b2 0 rfl
theorem dX2_reset_38 : decode cX2_reset 38 = .ok (.putfield 62, 3) := dc_at dkX2_reset_b2 1 rfl
theorem dX2_reset_41 : decode cX2_reset 41 = .ok (.return_, 1) := dc_at dkX2_reset_b2 2 rfl
def drX2_becomes_b0 : List (Nat × (Instr × Nat)) := [(0, (.aload_n 1, 1)), (1, (.ifnonnull 4, 3)), (4, (.return_, 1)), (5, (.aload_n 1, 1)), (6, (.getfield 9, 3)), (9, (.aload_n 0, 1)), (10, (.getfield 9, 3)), (13, (.invokestatic 42, 3)), (16, (.aload_n 1, 1)), (17, (.getfield 15, 3))]
theorem dkX2_becomes_b0 : ((drX2_becomes_b0).all fun r => decide (decode cX2_becomes r.1 = .ok r.2)) = true := by decide +kernel
theorem dX2_becomes_0 : decode cX2_becomes 0 = .ok (.aload_n 1, 1) := dc_at dkX2_becomes_b0 0 rfl
theorem dX2_becomes_1 : decode cX2_becomes 1 = .ok (.ifnonnull 4, 3) := dc_at dkX2_becomes_b0 1 rfl
theorem dX2_becomes_4 : decode cX2_becomes 4 = .ok (.return_, 1) := dc_at dkX2_becomes_b0 2 rfl
theorem dX2_becomes_5 : decode cX2_becomes 5 = .ok (.aload_n 1, 1) := dc_at dkX2_becomes_b0 3 rfl
theorem dX2_becomes_6 : decode cX2_becomes 6 = .ok (.getfield 9, 3) := dc_at dkX2_becomes_b0 4 rfl
theorem dX2_becomes_9 : decode cX2_becomes 9 = .ok (.aload_n 0, 1) := dc_at dkX2_becomes_b0 5 rfl
theorem dX2_becomes_10 : decode cX2_becomes 10 = .ok (.getfield 9, 3) := dc_at dkX2_becomes_b0 6 rfl
theorem dX2_becomes_13 : decode cX2_becomes 13 = .ok (.invokestatic 42, 3) := dc_at dkX2_becomes_b0 7 rfl
theorem dX2_becomes_16 : decode cX2_becomes 16 = .ok (.aload_n 1, 1) := dc_at dkX2_becomes_b0 8 rfl
theorem dX2_becomes_17 : decode cX2_becomes 17 = .ok (.getfield 15, 3) := dc_at dkX2_becomes_b0 9 rfl
def drX2_becomes_b1 : List (Nat × (Instr × Nat)) := [(20, (.aload_n 0, 1)), (21, (.getfield 15, 3)), (24, (.invokestatic 42, 3)), (27, (.aload_n 1, 1)), (28, (.getfield 18, 3)), (31, (.aload_n 0, 1)), (32, (.getfield 18, 3)), (35, (.invokestatic 42, 3)), (38, (.aload_n 1, 1)), (39, (.getfield 21, 3))]
theorem dkX2_becomes_b1 : ((drX2_becomes_b1).all fun r => decide (decode cX2_becomes r.1 = .ok r.2)) = true := by decide +kernel
theorem dX2_becomes_20 : decode cX2_becomes 20 = .ok (.aload_n 0, 1) := dc_at dkX2_becomes_b1 0 rfl
theorem dX2_becomes_21 : decode cX2_becomes 21 = .ok (.getfield 15, 3) := dc_at dkX2_becomes_b1 1 rfl
theorem dX2_becomes_24 : decode cX2_becomes 24 = .ok (.invokestatic 42, 3) := dc_at dkX2_becomes_b1 2 rfl
theorem dX2_becomes_27 : decode cX2_becomes 27 = .ok (.aload_n 1, 1) := dc_at dkX2_becomes_b1 3 rfl
theorem dX2_becomes_28 : decode cX2_becomes 28 = .ok (.getfield 18, 3) := dc_at dkX2_becomes_b1 4 rfl
theorem dX2_becomes_31 : decode cX2_becomes 31 = .ok (.aload_n 0, 1) := dc_at dkX2_becomes_b1 5 rfl
theorem dX2_becomes_32 : decode cX2_becomes 32 = .ok (.getfield 18, 3) := dc_at dkX2_becomes_b1 6 rfl
theorem dX2_becomes_35 : decode cX2_becomes 35 = .ok (.invokestatic 42, 3) := dc_at dkX2_becomes_b1 7 rfl
theorem dX2_becomes_38 : decode cX2_becomes 38 = .ok (.aload_n 1, 1) := dc_at dkX2_becomes_b1 8 rfl
theorem dX2_becomes_39 : decode cX2_becomes 39 = .ok (.getfield 21, 3) := dc_at dkX2_becomes_b1 9 rfl
def drX2_becomes_b2 : List (Nat × (Instr × Nat)) := [(42, (.aload_n 0, 1)), (43, (.getfield 21, 3)), (46, (.invokestatic 42, 3)), (49, (.aload_n 1, 1)), (50, (.getfield 24, 3)), (53, (.aload_n 0, 1)), (54, (.getfield 24, 3)), (57, (.invokestatic 42, 3)), (60, (.aload_n 1, 1)), (61, (.getfield 27, 3))]
theorem dkX2_becomes_b2 : ((drX2_becomes_b2).all fun r => decide (decode cX2_becomes r.1 = .ok r.2)) = true := by decide +kernel
theorem dX2_becomes_42 : decode cX2_becomes 42 = .ok (.aload_n 0, 1) := dc_at dkX2_becomes_b2 0 rfl
theorem dX2_becomes_43 : decode cX2_becomes 43 = .ok (.getfield 21, 3) := dc_at dkX2_becomes_b2 1 rfl
theorem dX2_becomes_46 : decode cX2_becomes 46 = .ok (.invokestatic 42, 3) := dc_at dkX2_becomes_b2 2 rfl
theorem dX2_becomes_49 : decode cX2_becomes 49 = .ok (.aload_n 1, 1) := dc_at dkX2_becomes_b2 3 rfl
theorem dX2_becomes_50 : decode cX2_becomes 50 = .ok (.getfield 24, 3) := dc_at dkX2_becomes_b2 4 rfl
theorem dX2_becomes_53 : decode cX2_becomes 53 = .ok (.aload_n 0, 1) := dc_at dkX2_becomes_b2 5 rfl
theorem dX2_becomes_54 : decode cX2_becomes 54 = .ok (.getfield 24, 3) := dc_at dkX2_becomes_b2 6 rfl
theorem dX2_becomes_57 : decode cX2_becomes 57 = .ok (.invokestatic 42, 3) := dc_at dkX2_becomes_b2 7 rfl
theorem dX2_becomes_60 : decode cX2_becomes 60 = .ok (.aload_n 1, 1) := dc_at dkX2_becomes_b2 8 rfl
theorem dX2_becomes_61 : decode cX2_becomes 61 = .ok (.getfield 27, 3) := dc_at dkX2_becomes_b2 9 rfl
def drX2_becomes_b3 : List (Nat × (Instr × Nat)) := [(64, (.aload_n 0, 1)), (65, (.getfield 27, 3)), (68, (.invokestatic 42, 3)), (71, (.aload_n 1, 1)), (72, (.getfield 30, 3)), (75, (.aload_n 0, 1)), (76, (.getfield 30, 3)), (79, (.invokestatic 42, 3)), (82, (.aload_n 1, 1)), (83, (.getfield 33, 3))]
theorem dkX2_becomes_b3 : ((drX2_becomes_b3).all fun r => decide (decode cX2_becomes r.1 = .ok r.2)) = true := by decide +kernel
theorem dX2_becomes_64 : decode cX2_becomes 64 = .ok (.aload_n 0, 1) := dc_at dkX2_becomes_b3 0 rfl
theorem dX2_becomes_65 : decode cX2_becomes 65 = .ok (.getfield 27, 3) := dc_at dkX2_becomes_b3 1 rfl
theorem dX2_becomes_68 : decode cX2_becomes 68 = .ok (.invokestatic 42, 3) := dc_at dkX2_becomes_b3 2 rfl
theorem dX2_becomes_71 : decode cX2_becomes 71 = .ok (.aload_n 1, 1) := dc_at dkX2_becomes_b3 3 rfl
theorem dX2_becomes_72 : decode cX2_becomes 72 = .ok (.getfield 30, 3) := dc_at dkX2_becomes_b3 4 rfl
theorem dX2_becomes_75 : decode cX2_becomes 75 = .ok (.aload_n 0, 1) := dc_at dkX2_becomes_b3 5 rfl
theorem dX2_becomes_76 : decode cX2_becomes 76 = .ok (.getfield 30, 3) := dc_at dkX2_becomes_b3 6 rfl
theorem dX2_becomes_79 : decode cX2_becomes 79 = .ok (.invokestatic 42, 3) := dc_at dkX2_becomes_b3 7 rfl
theorem dX2_becomes_82 : decode cX2_becomes 82 = .ok (.aload_n 1, 1) := dc_at dkX2_becomes_b3 8 rfl
theorem dX2_becomes_83 : decode cX2_becomes 83 = .ok (.getfield 33, 3) := dc_at dkX2_becomes_b3 9 rfl
def drX2_becomes_b4 : List (Nat × (Instr × Nat)) := [(86, (.aload_n 0, 1)), (87, (.getfield 33, 3)), (90, (.invokestatic 42, 3)), (93, (.aload_n 0, 1)), (94, (.aload_n 1, 1)), (95, (.getfield 46, 3)), (98, (.putfield 46, 3)), (101, (.aload_n 0, 1)), (102, (.aload_n 1, 1)), (103, (.getfield 50, 3))]
theorem dkX2_becomes_b4 : ((drX2_becomes_b4).all fun r => decide (decode cX2_becomes r.1 = .ok r.2)) = true := by decide +kernel
theorem dX2_becomes_86 : decode cX2_becomes 86 = .ok (.aload_n 0, 1) := dc_at dkX2_becomes_b4 0 rfl
theorem dX2_becomes_87 : decode cX2_becomes 87 = .ok (.getfield 33, 3) := dc_at dkX2_becomes_b4 1 rfl
theorem dX2_becomes_90 : decode cX2_becomes 90 = .ok (.invokestatic 42, 3) := dc_at dkX2_becomes_b4 2 rfl
theorem dX2_becomes_93 : decode cX2_becomes 93 = .ok (.aload_n 0, 1) := dc_at dkX2_becomes_b4 3 rfl
theorem dX2_becomes_94 : decode cX2_becomes 94 = .ok (.aload_n 1, 1) := dc_at dkX2_becomes_b4 4 rfl
theorem dX2_becomes_95 : decode cX2_becomes 95 = .ok (.getfield 46, 3) := dc_at dkX2_becomes_b4 5 rfl
theorem dX2_becomes_98 : decode cX2_becomes 98 = .ok (.putfield 46, 3) := dc_at dkX2_becomes_b4 6 rfl
theorem dX2_becomes_101 : decode cX2_becomes 101 = .ok (.aload_n 0, 1) := dc_at dkX2_becomes_b4 7 rfl
theorem dX2_becomes_102 : decode cX2_becomes 102 = .ok (.aload_n 1, 1) := dc_at dkX2_becomes_b4 8 rfl
theorem dX2_becomes_103 : decode cX2_becomes 103 = .ok (.getfield 50, 3) := dc_at dkX2_becomes_b4 9 rfl
def drX2_becomes_b5 : List (Nat × (Instr × Nat)) := [(106, (.putfield 50, 3)), (109, (.aload_n 0, 1)), (110, (.aload_n 1, 1)), (111, (.getfield 53, 3)), (114, (.putfield 53, 3)), (117, (.aload_n 0, 1)), (118, (.aload_n 1, 1)), (119, (.getfield 56, 3)), (122, (.putfield 56, 3)), (125, (.aload_n 0, 1))]
theorem dkX2_becomes_b5 : ((drX2_becomes_b5).all fun r => decide (decode cX2_becomes r.1 = .ok r.2)) = true := by decide +kernel
theorem dX2_becomes_106 : decode cX2_becomes 106 = .ok (.putfield 50, 3) := dc_at dkX2_becomes_b5 0 rfl
theorem dX2_becomes_109 : decode cX2_becomes 109 = .ok (.aload_n 0, 1) := dc_at dkX2_becomes_b5 1 rfl
theorem dX2_becomes_110 : decode cX2_becomes 110 = .ok (.aload_n 1, 1) := dc_at dkX2_becomes_b5 2 rfl
theorem dX2_becomes_111 : decode cX2_becomes 111 = .ok (.getfield 53, 3) := dc_at dkX2_becomes_b5 3 rfl
theorem dX2_becomes_114 : decode cX2_becomes 114 = .ok (.putfield 53, 3) := dc_at dkX2_becomes_b5 4 rfl
theorem dX2_becomes_117 : decode cX2_becomes 117 = .ok (.aload_n 0, 1) := dc_at dkX2_becomes_b5 5 rfl
theorem dX2_becomes_118 : decode cX2_becomes 118 = .ok (.aload_n 1, 1) := dc_at dkX2_becomes_b5 6 rfl
theorem dX2_becomes_119 : decode cX2_becomes 119 = .ok (.getfield 56, 3) := dc_at dkX2_becomes_b5 7 rfl
theorem dX2_becomes_122 : decode cX2_becomes 122 = .ok (.putfield 56, 3) := dc_at dkX2_becomes_b5 8 rfl
theorem dX2_becomes_125 : decode cX2_becomes 125 = .ok (.aload_n 0, 1) := dc_at dkX2_becomes_b5 9 rfl
def drX2_becomes_b6 : List (Nat × (Instr × Nat)) := [(126, (.aload_n 1, 1)), (127, (.getfield 59, 3)), (130, (.putfield 59, 3)), (133, (.aload_n 0, 1)), (134, (.aload_n 1, 1)), (135, (.getfield 62, 3)), (138, (.putfield 62, 3)), (141, (.return_, 1))]
theorem dkX2_becomes_b6 : ((drX2_becomes_b6).all fun r => decide (decode cX2_becomes r.1 = .ok r.2)) = true := by decide +kernel
theorem dX2_becomes_126 : decode cX2_becomes 126 = .ok (.aload_n 1, 1) := dc_at dkX2_becomes_b6 0 rfl
theorem dX2_becomes_127 : decode cX2_becomes 127 = .ok (.getfield 59, 3) := dc_at dkX2_becomes_b6 1 rfl
theorem dX2_becomes_130 : decode cX2_becomes 130 = .ok (.putfield 59, 3) := dc_at dkX2_becomes_b6 2 rfl
theorem dX2_becomes_133 : decode cX2_becomes 133 = .ok (.aload_n 0, 1) := dc_at dkX2_becomes_b6 3 rfl
theorem dX2_becomes_134 : decode cX2_becomes 134 = .ok (.aload_n 1, 1) := dc_at dkX2_becomes_b6 4 rfl
theorem dX2_becomes_135 : decode cX2_becomes 135 = .ok (.getfield 62, 3) := dc_at dkX2_becomes_b6 5 rfl
theorem dX2_becomes_138 : decode cX2_becomes 138 = .ok (.putfield 62, 3) := dc_at dkX2_becomes_b6 6 rfl
theorem dX2_becomes_141 : decode cX2_becomes 141 = .ok (.return_, 1) := dc_at dkX2_becomes_b6 7 rfl
def drX2_ruled_b0 : List (Nat × (Instr × Nat)) := [(0, (.iload_n 1, 1)), (1, (.ifCond .lt 21, 3)), (4, (.iload_n 1, 1)), (5, (.aload_n 0, 1)), (6, (.getfield 9, 3)), (9, (.arraylength, 1)), (10, (.if_icmp .ge 12, 3)), (13, (.aload_n 0, 1)), (14, (.getfield 9, 3)), (17, (.iload_n 1, 1))]
theorem dkX2_ruled_b0 : ((drX2_ruled_b0).all fun r => decide (decode cX2_ruled r.1 = .ok r.2)) = true := by decide +kernel
theorem dX2_ruled_0 : decode cX2_ruled 0 = .ok (.iload_n 1, 1) := dc_at dkX2_ruled_b0 0 rfl
theorem dX2_ruled_1 : decode cX2_ruled 1 = .ok (.ifCond .lt 21, 3) := dc_at dkX2_ruled_b0 1 rfl
theorem dX2_ruled_4 : decode cX2_ruled 4 = .ok (.iload_n 1, 1) := dc_at dkX2_ruled_b0 2 rfl
theorem dX2_ruled_5 : decode cX2_ruled 5 = .ok (.aload_n 0, 1) := dc_at dkX2_ruled_b0 3 rfl
theorem dX2_ruled_6 : decode cX2_ruled 6 = .ok (.getfield 9, 3) := dc_at dkX2_ruled_b0 4 rfl
theorem dX2_ruled_9 : decode cX2_ruled 9 = .ok (.arraylength, 1) := dc_at dkX2_ruled_b0 5 rfl
theorem dX2_ruled_10 : decode cX2_ruled 10 = .ok (.if_icmp .ge 12, 3) := dc_at dkX2_ruled_b0 6 rfl
theorem dX2_ruled_13 : decode cX2_ruled 13 = .ok (.aload_n 0, 1) := dc_at dkX2_ruled_b0 7 rfl
theorem dX2_ruled_14 : decode cX2_ruled 14 = .ok (.getfield 9, 3) := dc_at dkX2_ruled_b0 8 rfl
theorem dX2_ruled_17 : decode cX2_ruled 17 = .ok (.iload_n 1, 1) := dc_at dkX2_ruled_b0 9 rfl
def drX2_ruled_b1 : List (Nat × (Instr × Nat)) := [(18, (.iaload, 1)), (19, (.goto 4, 3)), (22, (.iconst 0, 1)), (23, (.ireturn, 1))]
theorem dkX2_ruled_b1 : ((drX2_ruled_b1).all fun r => decide (decode cX2_ruled r.1 = .ok r.2)) = true := by decide +kernel
theorem dX2_ruled_18 : decode cX2_ruled 18 = .ok (.iaload, 1) := dc_at dkX2_ruled_b1 0 rfl
theorem dX2_ruled_19 : decode cX2_ruled 19 = .ok (.goto 4, 3) := dc_at dkX2_ruled_b1 1 rfl
theorem dX2_ruled_22 : decode cX2_ruled 22 = .ok (.iconst 0, 1) := dc_at dkX2_ruled_b1 2 rfl
theorem dX2_ruled_23 : decode cX2_ruled 23 = .ok (.ireturn, 1) := dc_at dkX2_ruled_b1 3 rfl
def drX2_hasPlace_b0 : List (Nat × (Instr × Nat)) := [(0, (.iload_n 1, 1)), (1, (.iconst 0, 1)), (2, (.aload_n 0, 1)), (3, (.iconst 0, 1)), (4, (.invokevirtual 65, 3)), (7, (.invokestatic 69, 3)), (10, (.ireturn, 1))]
theorem dkX2_hasPlace_b0 : ((drX2_hasPlace_b0).all fun r => decide (decode cX2_hasPlace r.1 = .ok r.2)) = true := by decide +kernel
theorem dX2_hasPlace_0 : decode cX2_hasPlace 0 = .ok (.iload_n 1, 1) := dc_at dkX2_hasPlace_b0 0 rfl
theorem dX2_hasPlace_1 : decode cX2_hasPlace 1 = .ok (.iconst 0, 1) := dc_at dkX2_hasPlace_b0 1 rfl
theorem dX2_hasPlace_2 : decode cX2_hasPlace 2 = .ok (.aload_n 0, 1) := dc_at dkX2_hasPlace_b0 2 rfl
theorem dX2_hasPlace_3 : decode cX2_hasPlace 3 = .ok (.iconst 0, 1) := dc_at dkX2_hasPlace_b0 3 rfl
theorem dX2_hasPlace_4 : decode cX2_hasPlace 4 = .ok (.invokevirtual 65, 3) := dc_at dkX2_hasPlace_b0 4 rfl
theorem dX2_hasPlace_7 : decode cX2_hasPlace 7 = .ok (.invokestatic 69, 3) := dc_at dkX2_hasPlace_b0 5 rfl
theorem dX2_hasPlace_10 : decode cX2_hasPlace 10 = .ok (.ireturn, 1) := dc_at dkX2_hasPlace_b0 6 rfl
def drX2_turnsOf_b0 : List (Nat × (Instr × Nat)) := [(0, (.aload_n 0, 1)), (1, (.iconst 1, 1)), (2, (.invokevirtual 65, 3)), (5, (.istore_n 2, 1)), (6, (.aload_n 0, 1)), (7, (.iconst 2, 1)), (8, (.invokevirtual 65, 3)), (11, (.istore_n 3, 1)), (12, (.iconst 0, 1)), (13, (.istore 4, 2))]
theorem dkX2_turnsOf_b0 : ((drX2_turnsOf_b0).all fun r => decide (decode cX2_turnsOf r.1 = .ok r.2)) = true := by decide +kernel
theorem dX2_turnsOf_0 : decode cX2_turnsOf 0 = .ok (.aload_n 0, 1) := dc_at dkX2_turnsOf_b0 0 rfl
theorem dX2_turnsOf_1 : decode cX2_turnsOf 1 = .ok (.iconst 1, 1) := dc_at dkX2_turnsOf_b0 1 rfl
theorem dX2_turnsOf_2 : decode cX2_turnsOf 2 = .ok (.invokevirtual 65, 3) := dc_at dkX2_turnsOf_b0 2 rfl
theorem dX2_turnsOf_5 : decode cX2_turnsOf 5 = .ok (.istore_n 2, 1) := dc_at dkX2_turnsOf_b0 3 rfl
theorem dX2_turnsOf_6 : decode cX2_turnsOf 6 = .ok (.aload_n 0, 1) := dc_at dkX2_turnsOf_b0 4 rfl
theorem dX2_turnsOf_7 : decode cX2_turnsOf 7 = .ok (.iconst 2, 1) := dc_at dkX2_turnsOf_b0 5 rfl
theorem dX2_turnsOf_8 : decode cX2_turnsOf 8 = .ok (.invokevirtual 65, 3) := dc_at dkX2_turnsOf_b0 6 rfl
theorem dX2_turnsOf_11 : decode cX2_turnsOf 11 = .ok (.istore_n 3, 1) := dc_at dkX2_turnsOf_b0 7 rfl
theorem dX2_turnsOf_12 : decode cX2_turnsOf 12 = .ok (.iconst 0, 1) := dc_at dkX2_turnsOf_b0 8 rfl
theorem dX2_turnsOf_13 : decode cX2_turnsOf 13 = .ok (.istore 4, 2) := dc_at dkX2_turnsOf_b0 9 rfl
def drX2_turnsOf_b1 : List (Nat × (Instr × Nat)) := [(15, (.sipush 1024, 3)), (18, (.istore 5, 2)), (20, (.iload 5, 2)), (22, (.ifCond .le 33, 3)), (25, (.iload 4, 2)), (27, (.iload 5, 2)), (29, (.iadd, 1)), (30, (.iload_n 2, 1)), (31, (.iload_n 3, 1)), (32, (.invokestatic 73, 3))]
theorem dkX2_turnsOf_b1 : ((drX2_turnsOf_b1).all fun r => decide (decode cX2_turnsOf r.1 = .ok r.2)) = true := by decide +kernel
theorem dX2_turnsOf_15 : decode cX2_turnsOf 15 = .ok (.sipush 1024, 3) := dc_at dkX2_turnsOf_b1 0 rfl
theorem dX2_turnsOf_18 : decode cX2_turnsOf 18 = .ok (.istore 5, 2) := dc_at dkX2_turnsOf_b1 1 rfl
theorem dX2_turnsOf_20 : decode cX2_turnsOf 20 = .ok (.iload 5, 2) := dc_at dkX2_turnsOf_b1 2 rfl
theorem dX2_turnsOf_22 : decode cX2_turnsOf 22 = .ok (.ifCond .le 33, 3) := dc_at dkX2_turnsOf_b1 3 rfl
theorem dX2_turnsOf_25 : decode cX2_turnsOf 25 = .ok (.iload 4, 2) := dc_at dkX2_turnsOf_b1 4 rfl
theorem dX2_turnsOf_27 : decode cX2_turnsOf 27 = .ok (.iload 5, 2) := dc_at dkX2_turnsOf_b1 5 rfl
theorem dX2_turnsOf_29 : decode cX2_turnsOf 29 = .ok (.iadd, 1) := dc_at dkX2_turnsOf_b1 6 rfl
theorem dX2_turnsOf_30 : decode cX2_turnsOf 30 = .ok (.iload_n 2, 1) := dc_at dkX2_turnsOf_b1 7 rfl
theorem dX2_turnsOf_31 : decode cX2_turnsOf 31 = .ok (.iload_n 3, 1) := dc_at dkX2_turnsOf_b1 8 rfl
theorem dX2_turnsOf_32 : decode cX2_turnsOf 32 = .ok (.invokestatic 73, 3) := dc_at dkX2_turnsOf_b1 9 rfl
def drX2_turnsOf_b2 : List (Nat × (Instr × Nat)) := [(35, (.iload_n 1, 1)), (36, (.if_icmp .gt 10, 3)), (39, (.iload 4, 2)), (41, (.iload 5, 2)), (43, (.iadd, 1)), (44, (.istore 4, 2)), (46, (.iload 5, 2)), (48, (.iconst 2, 1)), (49, (.idiv, 1)), (50, (.istore 5, 2))]
theorem dkX2_turnsOf_b2 : ((drX2_turnsOf_b2).all fun r => decide (decode cX2_turnsOf r.1 = .ok r.2)) = true := by decide +kernel
theorem dX2_turnsOf_35 : decode cX2_turnsOf 35 = .ok (.iload_n 1, 1) := dc_at dkX2_turnsOf_b2 0 rfl
theorem dX2_turnsOf_36 : decode cX2_turnsOf 36 = .ok (.if_icmp .gt 10, 3) := dc_at dkX2_turnsOf_b2 1 rfl
theorem dX2_turnsOf_39 : decode cX2_turnsOf 39 = .ok (.iload 4, 2) := dc_at dkX2_turnsOf_b2 2 rfl
theorem dX2_turnsOf_41 : decode cX2_turnsOf 41 = .ok (.iload 5, 2) := dc_at dkX2_turnsOf_b2 3 rfl
theorem dX2_turnsOf_43 : decode cX2_turnsOf 43 = .ok (.iadd, 1) := dc_at dkX2_turnsOf_b2 4 rfl
theorem dX2_turnsOf_44 : decode cX2_turnsOf 44 = .ok (.istore 4, 2) := dc_at dkX2_turnsOf_b2 5 rfl
theorem dX2_turnsOf_46 : decode cX2_turnsOf 46 = .ok (.iload 5, 2) := dc_at dkX2_turnsOf_b2 6 rfl
theorem dX2_turnsOf_48 : decode cX2_turnsOf 48 = .ok (.iconst 2, 1) := dc_at dkX2_turnsOf_b2 7 rfl
theorem dX2_turnsOf_49 : decode cX2_turnsOf 49 = .ok (.idiv, 1) := dc_at dkX2_turnsOf_b2 8 rfl
theorem dX2_turnsOf_50 : decode cX2_turnsOf 50 = .ok (.istore 5, 2) := dc_at dkX2_turnsOf_b2 9 rfl
def drX2_turnsOf_b3 : List (Nat × (Instr × Nat)) := [(52, (.goto (-32), 3)), (55, (.iload 4, 2)), (57, (.ireturn, 1))]
theorem dkX2_turnsOf_b3 : ((drX2_turnsOf_b3).all fun r => decide (decode cX2_turnsOf r.1 = .ok r.2)) = true := by decide +kernel
theorem dX2_turnsOf_52 : decode cX2_turnsOf 52 = .ok (.goto (-32), 3) := dc_at dkX2_turnsOf_b3 0 rfl
theorem dX2_turnsOf_55 : decode cX2_turnsOf 55 = .ok (.iload 4, 2) := dc_at dkX2_turnsOf_b3 1 rfl
theorem dX2_turnsOf_57 : decode cX2_turnsOf 57 = .ok (.ireturn, 1) := dc_at dkX2_turnsOf_b3 2 rfl
def drX2_rightTurns_b0 : List (Nat × (Instr × Nat)) := [(0, (.aload_n 0, 1)), (1, (.iload_n 1, 1)), (2, (.invokevirtual 77, 3)), (5, (.ireturn, 1))]
theorem dkX2_rightTurns_b0 : ((drX2_rightTurns_b0).all fun r => decide (decode cX2_rightTurns r.1 = .ok r.2)) = true := by decide +kernel
theorem dX2_rightTurns_0 : decode cX2_rightTurns 0 = .ok (.aload_n 0, 1) := dc_at dkX2_rightTurns_b0 0 rfl
theorem dX2_rightTurns_1 : decode cX2_rightTurns 1 = .ok (.iload_n 1, 1) := dc_at dkX2_rightTurns_b0 1 rfl
theorem dX2_rightTurns_2 : decode cX2_rightTurns 2 = .ok (.invokevirtual 77, 3) := dc_at dkX2_rightTurns_b0 2 rfl
theorem dX2_rightTurns_5 : decode cX2_rightTurns 5 = .ok (.ireturn, 1) := dc_at dkX2_rightTurns_b0 3 rfl
def drX2_leftTurns_b0 : List (Nat × (Instr × Nat)) := [(0, (.aload_n 0, 1)), (1, (.aload_n 0, 1)), (2, (.iconst 0, 1)), (3, (.invokevirtual 65, 3)), (6, (.iload_n 1, 1)), (7, (.isub, 1)), (8, (.invokevirtual 77, 3)), (11, (.ireturn, 1))]
theorem dkX2_leftTurns_b0 : ((drX2_leftTurns_b0).all fun r => decide (decode cX2_leftTurns r.1 = .ok r.2)) = true := by decide +kernel
theorem dX2_leftTurns_0 : decode cX2_leftTurns 0 = .ok (.aload_n 0, 1) := dc_at dkX2_leftTurns_b0 0 rfl
theorem dX2_leftTurns_1 : decode cX2_leftTurns 1 = .ok (.aload_n 0, 1) := dc_at dkX2_leftTurns_b0 1 rfl
theorem dX2_leftTurns_2 : decode cX2_leftTurns 2 = .ok (.iconst 0, 1) := dc_at dkX2_leftTurns_b0 2 rfl
theorem dX2_leftTurns_3 : decode cX2_leftTurns 3 = .ok (.invokevirtual 65, 3) := dc_at dkX2_leftTurns_b0 3 rfl
theorem dX2_leftTurns_6 : decode cX2_leftTurns 6 = .ok (.iload_n 1, 1) := dc_at dkX2_leftTurns_b0 4 rfl
theorem dX2_leftTurns_7 : decode cX2_leftTurns 7 = .ok (.isub, 1) := dc_at dkX2_leftTurns_b0 5 rfl
theorem dX2_leftTurns_8 : decode cX2_leftTurns 8 = .ok (.invokevirtual 77, 3) := dc_at dkX2_leftTurns_b0 6 rfl
theorem dX2_leftTurns_11 : decode cX2_leftTurns 11 = .ok (.ireturn, 1) := dc_at dkX2_leftTurns_b0 7 rfl
def drX2_firstShowing_b0 : List (Nat × (Instr × Nat)) := [(0, (.iload_n 1, 1)), (1, (.aload_n 0, 1)), (2, (.iconst 0, 1)), (3, (.invokevirtual 65, 3)), (6, (.if_icmp .le 6, 3)), (9, (.bipush (-4), 2)), (11, (.ireturn, 1)), (12, (.iload_n 1, 1)), (13, (.aload_n 0, 1)), (14, (.iconst 1, 1))]
theorem dkX2_firstShowing_b0 : ((drX2_firstShowing_b0).all fun r => decide (decode cX2_firstShowing r.1 = .ok r.2)) = true := by decide +kernel
theorem dX2_firstShowing_0 : decode cX2_firstShowing 0 = .ok (.iload_n 1, 1) := dc_at dkX2_firstShowing_b0 0 rfl
theorem dX2_firstShowing_1 : decode cX2_firstShowing 1 = .ok (.aload_n 0, 1) := dc_at dkX2_firstShowing_b0 1 rfl
theorem dX2_firstShowing_2 : decode cX2_firstShowing 2 = .ok (.iconst 0, 1) := dc_at dkX2_firstShowing_b0 2 rfl
theorem dX2_firstShowing_3 : decode cX2_firstShowing 3 = .ok (.invokevirtual 65, 3) := dc_at dkX2_firstShowing_b0 3 rfl
theorem dX2_firstShowing_6 : decode cX2_firstShowing 6 = .ok (.if_icmp .le 6, 3) := dc_at dkX2_firstShowing_b0 4 rfl
theorem dX2_firstShowing_9 : decode cX2_firstShowing 9 = .ok (.bipush (-4), 2) := dc_at dkX2_firstShowing_b0 5 rfl
theorem dX2_firstShowing_11 : decode cX2_firstShowing 11 = .ok (.ireturn, 1) := dc_at dkX2_firstShowing_b0 6 rfl
theorem dX2_firstShowing_12 : decode cX2_firstShowing 12 = .ok (.iload_n 1, 1) := dc_at dkX2_firstShowing_b0 7 rfl
theorem dX2_firstShowing_13 : decode cX2_firstShowing 13 = .ok (.aload_n 0, 1) := dc_at dkX2_firstShowing_b0 8 rfl
theorem dX2_firstShowing_14 : decode cX2_firstShowing 14 = .ok (.iconst 1, 1) := dc_at dkX2_firstShowing_b0 9 rfl
def drX2_firstShowing_b1 : List (Nat × (Instr × Nat)) := [(15, (.invokevirtual 65, 3)), (18, (.aload_n 0, 1)), (19, (.iconst 2, 1)), (20, (.invokevirtual 65, 3)), (23, (.invokestatic 73, 3)), (26, (.istore_n 2, 1)), (27, (.aload_n 0, 1)), (28, (.iload_n 2, 1)), (29, (.invokevirtual 80, 3)), (32, (.ifCond .eq 7, 3))]
theorem dkX2_firstShowing_b1 : ((drX2_firstShowing_b1).all fun r => decide (decode cX2_firstShowing r.1 = .ok r.2)) = true := by decide +kernel
theorem dX2_firstShowing_15 : decode cX2_firstShowing 15 = .ok (.invokevirtual 65, 3) := dc_at dkX2_firstShowing_b1 0 rfl
theorem dX2_firstShowing_18 : decode cX2_firstShowing 18 = .ok (.aload_n 0, 1) := dc_at dkX2_firstShowing_b1 1 rfl
theorem dX2_firstShowing_19 : decode cX2_firstShowing 19 = .ok (.iconst 2, 1) := dc_at dkX2_firstShowing_b1 2 rfl
theorem dX2_firstShowing_20 : decode cX2_firstShowing 20 = .ok (.invokevirtual 65, 3) := dc_at dkX2_firstShowing_b1 3 rfl
theorem dX2_firstShowing_23 : decode cX2_firstShowing 23 = .ok (.invokestatic 73, 3) := dc_at dkX2_firstShowing_b1 4 rfl
theorem dX2_firstShowing_26 : decode cX2_firstShowing 26 = .ok (.istore_n 2, 1) := dc_at dkX2_firstShowing_b1 5 rfl
theorem dX2_firstShowing_27 : decode cX2_firstShowing 27 = .ok (.aload_n 0, 1) := dc_at dkX2_firstShowing_b1 6 rfl
theorem dX2_firstShowing_28 : decode cX2_firstShowing 28 = .ok (.iload_n 2, 1) := dc_at dkX2_firstShowing_b1 7 rfl
theorem dX2_firstShowing_29 : decode cX2_firstShowing 29 = .ok (.invokevirtual 80, 3) := dc_at dkX2_firstShowing_b1 8 rfl
theorem dX2_firstShowing_32 : decode cX2_firstShowing 32 = .ok (.ifCond .eq 7, 3) := dc_at dkX2_firstShowing_b1 9 rfl
def drX2_firstShowing_b2 : List (Nat × (Instr × Nat)) := [(35, (.iload_n 2, 1)), (36, (.goto 5, 3)), (39, (.bipush (-4), 2)), (41, (.ireturn, 1))]
theorem dkX2_firstShowing_b2 : ((drX2_firstShowing_b2).all fun r => decide (decode cX2_firstShowing r.1 = .ok r.2)) = true := by decide +kernel
theorem dX2_firstShowing_35 : decode cX2_firstShowing 35 = .ok (.iload_n 2, 1) := dc_at dkX2_firstShowing_b2 0 rfl
theorem dX2_firstShowing_36 : decode cX2_firstShowing 36 = .ok (.goto 5, 3) := dc_at dkX2_firstShowing_b2 1 rfl
theorem dX2_firstShowing_39 : decode cX2_firstShowing 39 = .ok (.bipush (-4), 2) := dc_at dkX2_firstShowing_b2 2 rfl
theorem dX2_firstShowing_41 : decode cX2_firstShowing 41 = .ok (.ireturn, 1) := dc_at dkX2_firstShowing_b2 3 rfl
def drX2_lastShowing_b0 : List (Nat × (Instr × Nat)) := [(0, (.aload_n 0, 1)), (1, (.iload_n 1, 1)), (2, (.invokevirtual 84, 3)), (5, (.bipush (-4), 2)), (7, (.if_icmp .ne 6, 3)), (10, (.bipush (-4), 2)), (12, (.ireturn, 1)), (13, (.aload_n 0, 1)), (14, (.iconst 0, 1)), (15, (.invokevirtual 65, 3))]
theorem dkX2_lastShowing_b0 : ((drX2_lastShowing_b0).all fun r => decide (decode cX2_lastShowing r.1 = .ok r.2)) = true := by decide +kernel
theorem dX2_lastShowing_0 : decode cX2_lastShowing 0 = .ok (.aload_n 0, 1) := dc_at dkX2_lastShowing_b0 0 rfl
theorem dX2_lastShowing_1 : decode cX2_lastShowing 1 = .ok (.iload_n 1, 1) := dc_at dkX2_lastShowing_b0 1 rfl
theorem dX2_lastShowing_2 : decode cX2_lastShowing 2 = .ok (.invokevirtual 84, 3) := dc_at dkX2_lastShowing_b0 2 rfl
theorem dX2_lastShowing_5 : decode cX2_lastShowing 5 = .ok (.bipush (-4), 2) := dc_at dkX2_lastShowing_b0 3 rfl
theorem dX2_lastShowing_7 : decode cX2_lastShowing 7 = .ok (.if_icmp .ne 6, 3) := dc_at dkX2_lastShowing_b0 4 rfl
theorem dX2_lastShowing_10 : decode cX2_lastShowing 10 = .ok (.bipush (-4), 2) := dc_at dkX2_lastShowing_b0 5 rfl
theorem dX2_lastShowing_12 : decode cX2_lastShowing 12 = .ok (.ireturn, 1) := dc_at dkX2_lastShowing_b0 6 rfl
theorem dX2_lastShowing_13 : decode cX2_lastShowing 13 = .ok (.aload_n 0, 1) := dc_at dkX2_lastShowing_b0 7 rfl
theorem dX2_lastShowing_14 : decode cX2_lastShowing 14 = .ok (.iconst 0, 1) := dc_at dkX2_lastShowing_b0 8 rfl
theorem dX2_lastShowing_15 : decode cX2_lastShowing 15 = .ok (.invokevirtual 65, 3) := dc_at dkX2_lastShowing_b0 9 rfl
def drX2_lastShowing_b1 : List (Nat × (Instr × Nat)) := [(18, (.iload_n 1, 1)), (19, (.iconst 1, 1)), (20, (.iadd, 1)), (21, (.aload_n 0, 1)), (22, (.iconst 1, 1)), (23, (.invokevirtual 65, 3)), (26, (.aload_n 0, 1)), (27, (.iconst 2, 1)), (28, (.invokevirtual 65, 3)), (31, (.invokestatic 73, 3))]
theorem dkX2_lastShowing_b1 : ((drX2_lastShowing_b1).all fun r => decide (decode cX2_lastShowing r.1 = .ok r.2)) = true := by decide +kernel
theorem dX2_lastShowing_18 : decode cX2_lastShowing 18 = .ok (.iload_n 1, 1) := dc_at dkX2_lastShowing_b1 0 rfl
theorem dX2_lastShowing_19 : decode cX2_lastShowing 19 = .ok (.iconst 1, 1) := dc_at dkX2_lastShowing_b1 1 rfl
theorem dX2_lastShowing_20 : decode cX2_lastShowing 20 = .ok (.iadd, 1) := dc_at dkX2_lastShowing_b1 2 rfl
theorem dX2_lastShowing_21 : decode cX2_lastShowing 21 = .ok (.aload_n 0, 1) := dc_at dkX2_lastShowing_b1 3 rfl
theorem dX2_lastShowing_22 : decode cX2_lastShowing 22 = .ok (.iconst 1, 1) := dc_at dkX2_lastShowing_b1 4 rfl
theorem dX2_lastShowing_23 : decode cX2_lastShowing 23 = .ok (.invokevirtual 65, 3) := dc_at dkX2_lastShowing_b1 5 rfl
theorem dX2_lastShowing_26 : decode cX2_lastShowing 26 = .ok (.aload_n 0, 1) := dc_at dkX2_lastShowing_b1 6 rfl
theorem dX2_lastShowing_27 : decode cX2_lastShowing 27 = .ok (.iconst 2, 1) := dc_at dkX2_lastShowing_b1 7 rfl
theorem dX2_lastShowing_28 : decode cX2_lastShowing 28 = .ok (.invokevirtual 65, 3) := dc_at dkX2_lastShowing_b1 8 rfl
theorem dX2_lastShowing_31 : decode cX2_lastShowing 31 = .ok (.invokestatic 73, 3) := dc_at dkX2_lastShowing_b1 9 rfl
def drX2_lastShowing_b2 : List (Nat × (Instr × Nat)) := [(34, (.iconst 1, 1)), (35, (.isub, 1)), (36, (.invokestatic 87, 3)), (39, (.ireturn, 1))]
theorem dkX2_lastShowing_b2 : ((drX2_lastShowing_b2).all fun r => decide (decode cX2_lastShowing r.1 = .ok r.2)) = true := by decide +kernel
theorem dX2_lastShowing_34 : decode cX2_lastShowing 34 = .ok (.iconst 1, 1) := dc_at dkX2_lastShowing_b2 0 rfl
theorem dX2_lastShowing_35 : decode cX2_lastShowing 35 = .ok (.isub, 1) := dc_at dkX2_lastShowing_b2 1 rfl
theorem dX2_lastShowing_36 : decode cX2_lastShowing 36 = .ok (.invokestatic 87, 3) := dc_at dkX2_lastShowing_b2 2 rfl
theorem dX2_lastShowing_39 : decode cX2_lastShowing 39 = .ok (.ireturn, 1) := dc_at dkX2_lastShowing_b2 3 rfl
def drX2_meetingPlace_b0 : List (Nat × (Instr × Nat)) := [(0, (.iconst 0, 1)), (1, (.istore_n 1, 1)), (2, (.aload_n 0, 1)), (3, (.iconst 0, 1)), (4, (.invokevirtual 65, 3)), (7, (.istore_n 2, 1)), (8, (.iconst 0, 1)), (9, (.istore_n 3, 1)), (10, (.iload_n 3, 1)), (11, (.bipush 32, 2))]
theorem dkX2_meetingPlace_b0 : ((drX2_meetingPlace_b0).all fun r => decide (decode cX2_meetingPlace r.1 = .ok r.2)) = true := by decide +kernel
theorem dX2_meetingPlace_0 : decode cX2_meetingPlace 0 = .ok (.iconst 0, 1) := dc_at dkX2_meetingPlace_b0 0 rfl
theorem dX2_meetingPlace_1 : decode cX2_meetingPlace 1 = .ok (.istore_n 1, 1) := dc_at dkX2_meetingPlace_b0 1 rfl
theorem dX2_meetingPlace_2 : decode cX2_meetingPlace 2 = .ok (.aload_n 0, 1) := dc_at dkX2_meetingPlace_b0 2 rfl
theorem dX2_meetingPlace_3 : decode cX2_meetingPlace 3 = .ok (.iconst 0, 1) := dc_at dkX2_meetingPlace_b0 3 rfl
theorem dX2_meetingPlace_4 : decode cX2_meetingPlace 4 = .ok (.invokevirtual 65, 3) := dc_at dkX2_meetingPlace_b0 4 rfl
theorem dX2_meetingPlace_7 : decode cX2_meetingPlace 7 = .ok (.istore_n 2, 1) := dc_at dkX2_meetingPlace_b0 5 rfl
theorem dX2_meetingPlace_8 : decode cX2_meetingPlace 8 = .ok (.iconst 0, 1) := dc_at dkX2_meetingPlace_b0 6 rfl
theorem dX2_meetingPlace_9 : decode cX2_meetingPlace 9 = .ok (.istore_n 3, 1) := dc_at dkX2_meetingPlace_b0 7 rfl
theorem dX2_meetingPlace_10 : decode cX2_meetingPlace 10 = .ok (.iload_n 3, 1) := dc_at dkX2_meetingPlace_b0 8 rfl
theorem dX2_meetingPlace_11 : decode cX2_meetingPlace 11 = .ok (.bipush 32, 2) := dc_at dkX2_meetingPlace_b0 9 rfl
def drX2_meetingPlace_b1 : List (Nat × (Instr × Nat)) := [(13, (.if_icmp .ge 47, 3)), (16, (.iload_n 1, 1)), (17, (.iload_n 2, 1)), (18, (.if_icmp .ge 42, 3)), (21, (.iload_n 1, 1)), (22, (.iload_n 2, 1)), (23, (.iadd, 1)), (24, (.iconst 2, 1)), (25, (.idiv, 1)), (26, (.istore 4, 2))]
theorem dkX2_meetingPlace_b1 : ((drX2_meetingPlace_b1).all fun r => decide (decode cX2_meetingPlace r.1 = .ok r.2)) = true := by decide +kernel
theorem dX2_meetingPlace_13 : decode cX2_meetingPlace 13 = .ok (.if_icmp .ge 47, 3) := dc_at dkX2_meetingPlace_b1 0 rfl
theorem dX2_meetingPlace_16 : decode cX2_meetingPlace 16 = .ok (.iload_n 1, 1) := dc_at dkX2_meetingPlace_b1 1 rfl
theorem dX2_meetingPlace_17 : decode cX2_meetingPlace 17 = .ok (.iload_n 2, 1) := dc_at dkX2_meetingPlace_b1 2 rfl
theorem dX2_meetingPlace_18 : decode cX2_meetingPlace 18 = .ok (.if_icmp .ge 42, 3) := dc_at dkX2_meetingPlace_b1 3 rfl
theorem dX2_meetingPlace_21 : decode cX2_meetingPlace 21 = .ok (.iload_n 1, 1) := dc_at dkX2_meetingPlace_b1 4 rfl
theorem dX2_meetingPlace_22 : decode cX2_meetingPlace 22 = .ok (.iload_n 2, 1) := dc_at dkX2_meetingPlace_b1 5 rfl
theorem dX2_meetingPlace_23 : decode cX2_meetingPlace 23 = .ok (.iadd, 1) := dc_at dkX2_meetingPlace_b1 6 rfl
theorem dX2_meetingPlace_24 : decode cX2_meetingPlace 24 = .ok (.iconst 2, 1) := dc_at dkX2_meetingPlace_b1 7 rfl
theorem dX2_meetingPlace_25 : decode cX2_meetingPlace 25 = .ok (.idiv, 1) := dc_at dkX2_meetingPlace_b1 8 rfl
theorem dX2_meetingPlace_26 : decode cX2_meetingPlace 26 = .ok (.istore 4, 2) := dc_at dkX2_meetingPlace_b1 9 rfl
def drX2_meetingPlace_b2 : List (Nat × (Instr × Nat)) := [(28, (.aload_n 0, 1)), (29, (.iload 4, 2)), (31, (.invokevirtual 93, 3)), (34, (.aload_n 0, 1)), (35, (.iload 4, 2)), (37, (.invokevirtual 96, 3)), (40, (.if_icmp .lt 9, 3)), (43, (.iload 4, 2)), (45, (.istore_n 2, 1)), (46, (.goto 8, 3))]
theorem dkX2_meetingPlace_b2 : ((drX2_meetingPlace_b2).all fun r => decide (decode cX2_meetingPlace r.1 = .ok r.2)) = true := by decide +kernel
theorem dX2_meetingPlace_28 : decode cX2_meetingPlace 28 = .ok (.aload_n 0, 1) := dc_at dkX2_meetingPlace_b2 0 rfl
theorem dX2_meetingPlace_29 : decode cX2_meetingPlace 29 = .ok (.iload 4, 2) := dc_at dkX2_meetingPlace_b2 1 rfl
theorem dX2_meetingPlace_31 : decode cX2_meetingPlace 31 = .ok (.invokevirtual 93, 3) := dc_at dkX2_meetingPlace_b2 2 rfl
theorem dX2_meetingPlace_34 : decode cX2_meetingPlace 34 = .ok (.aload_n 0, 1) := dc_at dkX2_meetingPlace_b2 3 rfl
theorem dX2_meetingPlace_35 : decode cX2_meetingPlace 35 = .ok (.iload 4, 2) := dc_at dkX2_meetingPlace_b2 4 rfl
theorem dX2_meetingPlace_37 : decode cX2_meetingPlace 37 = .ok (.invokevirtual 96, 3) := dc_at dkX2_meetingPlace_b2 5 rfl
theorem dX2_meetingPlace_40 : decode cX2_meetingPlace 40 = .ok (.if_icmp .lt 9, 3) := dc_at dkX2_meetingPlace_b2 6 rfl
theorem dX2_meetingPlace_43 : decode cX2_meetingPlace 43 = .ok (.iload 4, 2) := dc_at dkX2_meetingPlace_b2 7 rfl
theorem dX2_meetingPlace_45 : decode cX2_meetingPlace 45 = .ok (.istore_n 2, 1) := dc_at dkX2_meetingPlace_b2 8 rfl
theorem dX2_meetingPlace_46 : decode cX2_meetingPlace 46 = .ok (.goto 8, 3) := dc_at dkX2_meetingPlace_b2 9 rfl
def drX2_meetingPlace_b3 : List (Nat × (Instr × Nat)) := [(49, (.iload 4, 2)), (51, (.iconst 1, 1)), (52, (.iadd, 1)), (53, (.istore_n 1, 1)), (54, (.iinc 3 1, 3)), (57, (.goto (-47), 3)), (60, (.iload_n 1, 1)), (61, (.ireturn, 1))]
theorem dkX2_meetingPlace_b3 : ((drX2_meetingPlace_b3).all fun r => decide (decode cX2_meetingPlace r.1 = .ok r.2)) = true := by decide +kernel
theorem dX2_meetingPlace_49 : decode cX2_meetingPlace 49 = .ok (.iload 4, 2) := dc_at dkX2_meetingPlace_b3 0 rfl
theorem dX2_meetingPlace_51 : decode cX2_meetingPlace 51 = .ok (.iconst 1, 1) := dc_at dkX2_meetingPlace_b3 1 rfl
theorem dX2_meetingPlace_52 : decode cX2_meetingPlace 52 = .ok (.iadd, 1) := dc_at dkX2_meetingPlace_b3 2 rfl
theorem dX2_meetingPlace_53 : decode cX2_meetingPlace 53 = .ok (.istore_n 1, 1) := dc_at dkX2_meetingPlace_b3 3 rfl
theorem dX2_meetingPlace_54 : decode cX2_meetingPlace 54 = .ok (.iinc 3 1, 3) := dc_at dkX2_meetingPlace_b3 4 rfl
theorem dX2_meetingPlace_57 : decode cX2_meetingPlace 57 = .ok (.goto (-47), 3) := dc_at dkX2_meetingPlace_b3 5 rfl
theorem dX2_meetingPlace_60 : decode cX2_meetingPlace 60 = .ok (.iload_n 1, 1) := dc_at dkX2_meetingPlace_b3 6 rfl
theorem dX2_meetingPlace_61 : decode cX2_meetingPlace 61 = .ok (.ireturn, 1) := dc_at dkX2_meetingPlace_b3 7 rfl
def drX2_playedThrough_b0 : List (Nat × (Instr × Nat)) := [(0, (.aload_n 0, 1)), (1, (.iconst 3, 1)), (2, (.invokevirtual 65, 3)), (5, (.iload_n 1, 1)), (6, (.imul, 1)), (7, (.ireturn, 1))]
theorem dkX2_playedThrough_b0 : ((drX2_playedThrough_b0).all fun r => decide (decode cX2_playedThrough r.1 = .ok r.2)) = true := by decide +kernel
theorem dX2_playedThrough_0 : decode cX2_playedThrough 0 = .ok (.aload_n 0, 1) := dc_at dkX2_playedThrough_b0 0 rfl
theorem dX2_playedThrough_1 : decode cX2_playedThrough 1 = .ok (.iconst 3, 1) := dc_at dkX2_playedThrough_b0 1 rfl
theorem dX2_playedThrough_2 : decode cX2_playedThrough 2 = .ok (.invokevirtual 65, 3) := dc_at dkX2_playedThrough_b0 2 rfl
theorem dX2_playedThrough_5 : decode cX2_playedThrough 5 = .ok (.iload_n 1, 1) := dc_at dkX2_playedThrough_b0 3 rfl
theorem dX2_playedThrough_6 : decode cX2_playedThrough 6 = .ok (.imul, 1) := dc_at dkX2_playedThrough_b0 4 rfl
theorem dX2_playedThrough_7 : decode cX2_playedThrough 7 = .ok (.ireturn, 1) := dc_at dkX2_playedThrough_b0 5 rfl
def drX2_played_b0 : List (Nat × (Instr × Nat)) := [(0, (.iload_n 1, 1)), (1, (.iload_n 2, 1)), (2, (.if_icmp .ne 7, 3)), (5, (.iconst 0, 1)), (6, (.goto 19, 3)), (9, (.aload_n 0, 1)), (10, (.iconst 5, 1)), (11, (.invokevirtual 65, 3)), (14, (.aload_n 0, 1)), (15, (.iload_n 2, 1))]
theorem dkX2_played_b0 : ((drX2_played_b0).all fun r => decide (decode cX2_played r.1 = .ok r.2)) = true := by decide +kernel
theorem dX2_played_0 : decode cX2_played 0 = .ok (.iload_n 1, 1) := dc_at dkX2_played_b0 0 rfl
theorem dX2_played_1 : decode cX2_played 1 = .ok (.iload_n 2, 1) := dc_at dkX2_played_b0 1 rfl
theorem dX2_played_2 : decode cX2_played 2 = .ok (.if_icmp .ne 7, 3) := dc_at dkX2_played_b0 2 rfl
theorem dX2_played_5 : decode cX2_played 5 = .ok (.iconst 0, 1) := dc_at dkX2_played_b0 3 rfl
theorem dX2_played_6 : decode cX2_played 6 = .ok (.goto 19, 3) := dc_at dkX2_played_b0 4 rfl
theorem dX2_played_9 : decode cX2_played 9 = .ok (.aload_n 0, 1) := dc_at dkX2_played_b0 5 rfl
theorem dX2_played_10 : decode cX2_played 10 = .ok (.iconst 5, 1) := dc_at dkX2_played_b0 6 rfl
theorem dX2_played_11 : decode cX2_played 11 = .ok (.invokevirtual 65, 3) := dc_at dkX2_played_b0 7 rfl
theorem dX2_played_14 : decode cX2_played 14 = .ok (.aload_n 0, 1) := dc_at dkX2_played_b0 8 rfl
theorem dX2_played_15 : decode cX2_played 15 = .ok (.iload_n 2, 1) := dc_at dkX2_played_b0 9 rfl
def drX2_played_b1 : List (Nat × (Instr × Nat)) := [(16, (.iload_n 1, 1)), (17, (.isub, 1)), (18, (.invokestatic 99, 3)), (21, (.invokevirtual 102, 3)), (24, (.iadd, 1)), (25, (.ireturn, 1))]
theorem dkX2_played_b1 : ((drX2_played_b1).all fun r => decide (decode cX2_played r.1 = .ok r.2)) = true := by decide +kernel
theorem dX2_played_16 : decode cX2_played 16 = .ok (.iload_n 1, 1) := dc_at dkX2_played_b1 0 rfl
theorem dX2_played_17 : decode cX2_played 17 = .ok (.isub, 1) := dc_at dkX2_played_b1 1 rfl
theorem dX2_played_18 : decode cX2_played 18 = .ok (.invokestatic 99, 3) := dc_at dkX2_played_b1 2 rfl
theorem dX2_played_21 : decode cX2_played 21 = .ok (.invokevirtual 102, 3) := dc_at dkX2_played_b1 3 rfl
theorem dX2_played_24 : decode cX2_played 24 = .ok (.iadd, 1) := dc_at dkX2_played_b1 4 rfl
theorem dX2_played_25 : decode cX2_played 25 = .ok (.ireturn, 1) := dc_at dkX2_played_b1 5 rfl
def drX2_wound_b0 : List (Nat × (Instr × Nat)) := [(0, (.iload_n 1, 1)), (1, (.iload_n 2, 1)), (2, (.if_icmp .ne 5, 3)), (5, (.iconst 0, 1)), (6, (.ireturn, 1)), (7, (.aload_n 0, 1)), (8, (.iconst 0, 1)), (9, (.invokevirtual 65, 3)), (12, (.istore_n 3, 1)), (13, (.iload_n 2, 1))]
theorem dkX2_wound_b0 : ((drX2_wound_b0).all fun r => decide (decode cX2_wound r.1 = .ok r.2)) = true := by decide +kernel
theorem dX2_wound_0 : decode cX2_wound 0 = .ok (.iload_n 1, 1) := dc_at dkX2_wound_b0 0 rfl
theorem dX2_wound_1 : decode cX2_wound 1 = .ok (.iload_n 2, 1) := dc_at dkX2_wound_b0 1 rfl
theorem dX2_wound_2 : decode cX2_wound 2 = .ok (.if_icmp .ne 5, 3) := dc_at dkX2_wound_b0 2 rfl
theorem dX2_wound_5 : decode cX2_wound 5 = .ok (.iconst 0, 1) := dc_at dkX2_wound_b0 3 rfl
theorem dX2_wound_6 : decode cX2_wound 6 = .ok (.ireturn, 1) := dc_at dkX2_wound_b0 4 rfl
theorem dX2_wound_7 : decode cX2_wound 7 = .ok (.aload_n 0, 1) := dc_at dkX2_wound_b0 5 rfl
theorem dX2_wound_8 : decode cX2_wound 8 = .ok (.iconst 0, 1) := dc_at dkX2_wound_b0 6 rfl
theorem dX2_wound_9 : decode cX2_wound 9 = .ok (.invokevirtual 65, 3) := dc_at dkX2_wound_b0 7 rfl
theorem dX2_wound_12 : decode cX2_wound 12 = .ok (.istore_n 3, 1) := dc_at dkX2_wound_b0 8 rfl
theorem dX2_wound_13 : decode cX2_wound 13 = .ok (.iload_n 2, 1) := dc_at dkX2_wound_b0 9 rfl
def drX2_wound_b1 : List (Nat × (Instr × Nat)) := [(14, (.iload_n 1, 1)), (15, (.if_icmp .le 17, 3)), (18, (.aload_n 0, 1)), (19, (.iload_n 2, 1)), (20, (.invokevirtual 77, 3)), (23, (.aload_n 0, 1)), (24, (.iload_n 1, 1)), (25, (.invokevirtual 77, 3)), (28, (.isub, 1)), (29, (.goto 18, 3))]
theorem dkX2_wound_b1 : ((drX2_wound_b1).all fun r => decide (decode cX2_wound r.1 = .ok r.2)) = true := by decide +kernel
theorem dX2_wound_14 : decode cX2_wound 14 = .ok (.iload_n 1, 1) := dc_at dkX2_wound_b1 0 rfl
theorem dX2_wound_15 : decode cX2_wound 15 = .ok (.if_icmp .le 17, 3) := dc_at dkX2_wound_b1 1 rfl
theorem dX2_wound_18 : decode cX2_wound 18 = .ok (.aload_n 0, 1) := dc_at dkX2_wound_b1 2 rfl
theorem dX2_wound_19 : decode cX2_wound 19 = .ok (.iload_n 2, 1) := dc_at dkX2_wound_b1 3 rfl
theorem dX2_wound_20 : decode cX2_wound 20 = .ok (.invokevirtual 77, 3) := dc_at dkX2_wound_b1 4 rfl
theorem dX2_wound_23 : decode cX2_wound 23 = .ok (.aload_n 0, 1) := dc_at dkX2_wound_b1 5 rfl
theorem dX2_wound_24 : decode cX2_wound 24 = .ok (.iload_n 1, 1) := dc_at dkX2_wound_b1 6 rfl
theorem dX2_wound_25 : decode cX2_wound 25 = .ok (.invokevirtual 77, 3) := dc_at dkX2_wound_b1 7 rfl
theorem dX2_wound_28 : decode cX2_wound 28 = .ok (.isub, 1) := dc_at dkX2_wound_b1 8 rfl
theorem dX2_wound_29 : decode cX2_wound 29 = .ok (.goto 18, 3) := dc_at dkX2_wound_b1 9 rfl
def drX2_wound_b2 : List (Nat × (Instr × Nat)) := [(32, (.aload_n 0, 1)), (33, (.iload_n 3, 1)), (34, (.iload_n 2, 1)), (35, (.isub, 1)), (36, (.invokevirtual 77, 3)), (39, (.aload_n 0, 1)), (40, (.iload_n 3, 1)), (41, (.iload_n 1, 1)), (42, (.isub, 1)), (43, (.invokevirtual 77, 3))]
theorem dkX2_wound_b2 : ((drX2_wound_b2).all fun r => decide (decode cX2_wound r.1 = .ok r.2)) = true := by decide +kernel
theorem dX2_wound_32 : decode cX2_wound 32 = .ok (.aload_n 0, 1) := dc_at dkX2_wound_b2 0 rfl
theorem dX2_wound_33 : decode cX2_wound 33 = .ok (.iload_n 3, 1) := dc_at dkX2_wound_b2 1 rfl
theorem dX2_wound_34 : decode cX2_wound 34 = .ok (.iload_n 2, 1) := dc_at dkX2_wound_b2 2 rfl
theorem dX2_wound_35 : decode cX2_wound 35 = .ok (.isub, 1) := dc_at dkX2_wound_b2 3 rfl
theorem dX2_wound_36 : decode cX2_wound 36 = .ok (.invokevirtual 77, 3) := dc_at dkX2_wound_b2 4 rfl
theorem dX2_wound_39 : decode cX2_wound 39 = .ok (.aload_n 0, 1) := dc_at dkX2_wound_b2 5 rfl
theorem dX2_wound_40 : decode cX2_wound 40 = .ok (.iload_n 3, 1) := dc_at dkX2_wound_b2 6 rfl
theorem dX2_wound_41 : decode cX2_wound 41 = .ok (.iload_n 1, 1) := dc_at dkX2_wound_b2 7 rfl
theorem dX2_wound_42 : decode cX2_wound 42 = .ok (.isub, 1) := dc_at dkX2_wound_b2 8 rfl
theorem dX2_wound_43 : decode cX2_wound 43 = .ok (.invokevirtual 77, 3) := dc_at dkX2_wound_b2 9 rfl
def drX2_wound_b3 : List (Nat × (Instr × Nat)) := [(46, (.isub, 1)), (47, (.istore 4, 2)), (49, (.iconst 2, 1)), (50, (.aload_n 0, 1)), (51, (.iconst 5, 1)), (52, (.invokevirtual 65, 3)), (55, (.imul, 1)), (56, (.aload_n 0, 1)), (57, (.iconst 4, 1)), (58, (.invokevirtual 65, 3))]
theorem dkX2_wound_b3 : ((drX2_wound_b3).all fun r => decide (decode cX2_wound r.1 = .ok r.2)) = true := by decide +kernel
theorem dX2_wound_46 : decode cX2_wound 46 = .ok (.isub, 1) := dc_at dkX2_wound_b3 0 rfl
theorem dX2_wound_47 : decode cX2_wound 47 = .ok (.istore 4, 2) := dc_at dkX2_wound_b3 1 rfl
theorem dX2_wound_49 : decode cX2_wound 49 = .ok (.iconst 2, 1) := dc_at dkX2_wound_b3 2 rfl
theorem dX2_wound_50 : decode cX2_wound 50 = .ok (.aload_n 0, 1) := dc_at dkX2_wound_b3 3 rfl
theorem dX2_wound_51 : decode cX2_wound 51 = .ok (.iconst 5, 1) := dc_at dkX2_wound_b3 4 rfl
theorem dX2_wound_52 : decode cX2_wound 52 = .ok (.invokevirtual 65, 3) := dc_at dkX2_wound_b3 5 rfl
theorem dX2_wound_55 : decode cX2_wound 55 = .ok (.imul, 1) := dc_at dkX2_wound_b3 6 rfl
theorem dX2_wound_56 : decode cX2_wound 56 = .ok (.aload_n 0, 1) := dc_at dkX2_wound_b3 7 rfl
theorem dX2_wound_57 : decode cX2_wound 57 = .ok (.iconst 4, 1) := dc_at dkX2_wound_b3 8 rfl
theorem dX2_wound_58 : decode cX2_wound 58 = .ok (.invokevirtual 65, 3) := dc_at dkX2_wound_b3 9 rfl
def drX2_wound_b4 : List (Nat × (Instr × Nat)) := [(61, (.iload 4, 2)), (63, (.imul, 1)), (64, (.iadd, 1)), (65, (.ireturn, 1))]
theorem dkX2_wound_b4 : ((drX2_wound_b4).all fun r => decide (decode cX2_wound r.1 = .ok r.2)) = true := by decide +kernel
theorem dX2_wound_61 : decode cX2_wound 61 = .ok (.iload 4, 2) := dc_at dkX2_wound_b4 0 rfl
theorem dX2_wound_63 : decode cX2_wound 63 = .ok (.imul, 1) := dc_at dkX2_wound_b4 1 rfl
theorem dX2_wound_64 : decode cX2_wound 64 = .ok (.iadd, 1) := dc_at dkX2_wound_b4 2 rfl
theorem dX2_wound_65 : decode cX2_wound 65 = .ok (.ireturn, 1) := dc_at dkX2_wound_b4 3 rfl
def drX2_sooner_b0 : List (Nat × (Instr × Nat)) := [(0, (.aload_n 0, 1)), (1, (.iload_n 1, 1)), (2, (.iload_n 2, 1)), (3, (.invokevirtual 105, 3)), (6, (.aload_n 0, 1)), (7, (.iload_n 1, 1)), (8, (.iload_n 2, 1)), (9, (.invokevirtual 108, 3)), (12, (.invokestatic 87, 3)), (15, (.ireturn, 1))]
theorem dkX2_sooner_b0 : ((drX2_sooner_b0).all fun r => decide (decode cX2_sooner r.1 = .ok r.2)) = true := by decide +kernel
theorem dX2_sooner_0 : decode cX2_sooner 0 = .ok (.aload_n 0, 1) := dc_at dkX2_sooner_b0 0 rfl
theorem dX2_sooner_1 : decode cX2_sooner 1 = .ok (.iload_n 1, 1) := dc_at dkX2_sooner_b0 1 rfl
theorem dX2_sooner_2 : decode cX2_sooner 2 = .ok (.iload_n 2, 1) := dc_at dkX2_sooner_b0 2 rfl
theorem dX2_sooner_3 : decode cX2_sooner 3 = .ok (.invokevirtual 105, 3) := dc_at dkX2_sooner_b0 3 rfl
theorem dX2_sooner_6 : decode cX2_sooner 6 = .ok (.aload_n 0, 1) := dc_at dkX2_sooner_b0 4 rfl
theorem dX2_sooner_7 : decode cX2_sooner 7 = .ok (.iload_n 1, 1) := dc_at dkX2_sooner_b0 5 rfl
theorem dX2_sooner_8 : decode cX2_sooner 8 = .ok (.iload_n 2, 1) := dc_at dkX2_sooner_b0 6 rfl
theorem dX2_sooner_9 : decode cX2_sooner 9 = .ok (.invokevirtual 108, 3) := dc_at dkX2_sooner_b0 7 rfl
theorem dX2_sooner_12 : decode cX2_sooner 12 = .ok (.invokestatic 87, 3) := dc_at dkX2_sooner_b0 8 rfl
theorem dX2_sooner_15 : decode cX2_sooner 15 = .ok (.ireturn, 1) := dc_at dkX2_sooner_b0 9 rfl
def drX2_goTo_b0 : List (Nat × (Instr × Nat)) := [(0, (.aload_n 0, 1)), (1, (.aload_n 0, 1)), (2, (.getfield 50, 3)), (5, (.iload_n 1, 1)), (6, (.invokevirtual 111, 3)), (9, (.istore_n 2, 1)), (10, (.aload_n 0, 1)), (11, (.iload_n 1, 1)), (12, (.putfield 50, 3)), (15, (.aload_n 0, 1))]
theorem dkX2_goTo_b0 : ((drX2_goTo_b0).all fun r => decide (decode cX2_goTo r.1 = .ok r.2)) = true := by decide +kernel
theorem dX2_goTo_0 : decode cX2_goTo 0 = .ok (.aload_n 0, 1) := dc_at dkX2_goTo_b0 0 rfl
theorem dX2_goTo_1 : decode cX2_goTo 1 = .ok (.aload_n 0, 1) := dc_at dkX2_goTo_b0 1 rfl
theorem dX2_goTo_2 : decode cX2_goTo 2 = .ok (.getfield 50, 3) := dc_at dkX2_goTo_b0 2 rfl
theorem dX2_goTo_5 : decode cX2_goTo 5 = .ok (.iload_n 1, 1) := dc_at dkX2_goTo_b0 3 rfl
theorem dX2_goTo_6 : decode cX2_goTo 6 = .ok (.invokevirtual 111, 3) := dc_at dkX2_goTo_b0 4 rfl
theorem dX2_goTo_9 : decode cX2_goTo 9 = .ok (.istore_n 2, 1) := dc_at dkX2_goTo_b0 5 rfl
theorem dX2_goTo_10 : decode cX2_goTo 10 = .ok (.aload_n 0, 1) := dc_at dkX2_goTo_b0 6 rfl
theorem dX2_goTo_11 : decode cX2_goTo 11 = .ok (.iload_n 1, 1) := dc_at dkX2_goTo_b0 7 rfl
theorem dX2_goTo_12 : decode cX2_goTo 12 = .ok (.putfield 50, 3) := dc_at dkX2_goTo_b0 8 rfl
theorem dX2_goTo_15 : decode cX2_goTo 15 = .ok (.aload_n 0, 1) := dc_at dkX2_goTo_b0 9 rfl
def drX2_goTo_b1 : List (Nat × (Instr × Nat)) := [(16, (.dup, 1)), (17, (.getfield 53, 3)), (20, (.iload_n 2, 1)), (21, (.iadd, 1)), (22, (.putfield 53, 3)), (25, (.iload_n 2, 1)), (26, (.ireturn, 1))]
theorem dkX2_goTo_b1 : ((drX2_goTo_b1).all fun r => decide (decode cX2_goTo r.1 = .ok r.2)) = true := by decide +kernel
theorem dX2_goTo_16 : decode cX2_goTo 16 = .ok (.dup, 1) := dc_at dkX2_goTo_b1 0 rfl
theorem dX2_goTo_17 : decode cX2_goTo 17 = .ok (.getfield 53, 3) := dc_at dkX2_goTo_b1 1 rfl
theorem dX2_goTo_20 : decode cX2_goTo 20 = .ok (.iload_n 2, 1) := dc_at dkX2_goTo_b1 2 rfl
theorem dX2_goTo_21 : decode cX2_goTo 21 = .ok (.iadd, 1) := dc_at dkX2_goTo_b1 3 rfl
theorem dX2_goTo_22 : decode cX2_goTo 22 = .ok (.putfield 53, 3) := dc_at dkX2_goTo_b1 4 rfl
theorem dX2_goTo_25 : decode cX2_goTo 25 = .ok (.iload_n 2, 1) := dc_at dkX2_goTo_b1 5 rfl
theorem dX2_goTo_26 : decode cX2_goTo 26 = .ok (.ireturn, 1) := dc_at dkX2_goTo_b1 6 rfl
def drX2_reach_b0 : List (Nat × (Instr × Nat)) := [(0, (.iconst 0, 1)), (1, (.istore 4, 2)), (3, (.iload_n 2, 1)), (4, (.istore 5, 2)), (6, (.iconst 0, 1)), (7, (.istore 6, 2)), (9, (.iload 6, 2)), (11, (.bipush 32, 2)), (13, (.if_icmp .ge 61, 3)), (16, (.iload 4, 2))]
theorem dkX2_reach_b0 : ((drX2_reach_b0).all fun r => decide (decode cX2_reach r.1 = .ok r.2)) = true := by decide +kernel
theorem dX2_reach_0 : decode cX2_reach 0 = .ok (.iconst 0, 1) := dc_at dkX2_reach_b0 0 rfl
theorem dX2_reach_1 : decode cX2_reach 1 = .ok (.istore 4, 2) := dc_at dkX2_reach_b0 1 rfl
theorem dX2_reach_3 : decode cX2_reach 3 = .ok (.iload_n 2, 1) := dc_at dkX2_reach_b0 2 rfl
theorem dX2_reach_4 : decode cX2_reach 4 = .ok (.istore 5, 2) := dc_at dkX2_reach_b0 3 rfl
theorem dX2_reach_6 : decode cX2_reach 6 = .ok (.iconst 0, 1) := dc_at dkX2_reach_b0 4 rfl
theorem dX2_reach_7 : decode cX2_reach 7 = .ok (.istore 6, 2) := dc_at dkX2_reach_b0 5 rfl
theorem dX2_reach_9 : decode cX2_reach 9 = .ok (.iload 6, 2) := dc_at dkX2_reach_b0 6 rfl
theorem dX2_reach_11 : decode cX2_reach 11 = .ok (.bipush 32, 2) := dc_at dkX2_reach_b0 7 rfl
theorem dX2_reach_13 : decode cX2_reach 13 = .ok (.if_icmp .ge 61, 3) := dc_at dkX2_reach_b0 8 rfl
theorem dX2_reach_16 : decode cX2_reach 16 = .ok (.iload 4, 2) := dc_at dkX2_reach_b0 9 rfl
def drX2_reach_b1 : List (Nat × (Instr × Nat)) := [(18, (.iload 5, 2)), (20, (.if_icmp .ge 54, 3)), (23, (.iload 4, 2)), (25, (.iload 5, 2)), (27, (.iadd, 1)), (28, (.iconst 1, 1)), (29, (.iadd, 1)), (30, (.iconst 2, 1)), (31, (.idiv, 1)), (32, (.istore 7, 2))]
theorem dkX2_reach_b1 : ((drX2_reach_b1).all fun r => decide (decode cX2_reach r.1 = .ok r.2)) = true := by decide +kernel
theorem dX2_reach_18 : decode cX2_reach 18 = .ok (.iload 5, 2) := dc_at dkX2_reach_b1 0 rfl
theorem dX2_reach_20 : decode cX2_reach 20 = .ok (.if_icmp .ge 54, 3) := dc_at dkX2_reach_b1 1 rfl
theorem dX2_reach_23 : decode cX2_reach 23 = .ok (.iload 4, 2) := dc_at dkX2_reach_b1 2 rfl
theorem dX2_reach_25 : decode cX2_reach 25 = .ok (.iload 5, 2) := dc_at dkX2_reach_b1 3 rfl
theorem dX2_reach_27 : decode cX2_reach 27 = .ok (.iadd, 1) := dc_at dkX2_reach_b1 4 rfl
theorem dX2_reach_28 : decode cX2_reach 28 = .ok (.iconst 1, 1) := dc_at dkX2_reach_b1 5 rfl
theorem dX2_reach_29 : decode cX2_reach 29 = .ok (.iadd, 1) := dc_at dkX2_reach_b1 6 rfl
theorem dX2_reach_30 : decode cX2_reach 30 = .ok (.iconst 2, 1) := dc_at dkX2_reach_b1 7 rfl
theorem dX2_reach_31 : decode cX2_reach 31 = .ok (.idiv, 1) := dc_at dkX2_reach_b1 8 rfl
theorem dX2_reach_32 : decode cX2_reach 32 = .ok (.istore 7, 2) := dc_at dkX2_reach_b1 9 rfl
def drX2_reach_b2 : List (Nat × (Instr × Nat)) := [(34, (.aload_n 0, 1)), (35, (.aload_n 0, 1)), (36, (.getfield 50, 3)), (39, (.aload_n 0, 1)), (40, (.getfield 50, 3)), (43, (.iload_n 3, 1)), (44, (.iload 7, 2)), (46, (.imul, 1)), (47, (.iadd, 1)), (48, (.invokevirtual 111, 3))]
theorem dkX2_reach_b2 : ((drX2_reach_b2).all fun r => decide (decode cX2_reach r.1 = .ok r.2)) = true := by decide +kernel
theorem dX2_reach_34 : decode cX2_reach 34 = .ok (.aload_n 0, 1) := dc_at dkX2_reach_b2 0 rfl
theorem dX2_reach_35 : decode cX2_reach 35 = .ok (.aload_n 0, 1) := dc_at dkX2_reach_b2 1 rfl
theorem dX2_reach_36 : decode cX2_reach 36 = .ok (.getfield 50, 3) := dc_at dkX2_reach_b2 2 rfl
theorem dX2_reach_39 : decode cX2_reach 39 = .ok (.aload_n 0, 1) := dc_at dkX2_reach_b2 3 rfl
theorem dX2_reach_40 : decode cX2_reach 40 = .ok (.getfield 50, 3) := dc_at dkX2_reach_b2 4 rfl
theorem dX2_reach_43 : decode cX2_reach 43 = .ok (.iload_n 3, 1) := dc_at dkX2_reach_b2 5 rfl
theorem dX2_reach_44 : decode cX2_reach 44 = .ok (.iload 7, 2) := dc_at dkX2_reach_b2 6 rfl
theorem dX2_reach_46 : decode cX2_reach 46 = .ok (.imul, 1) := dc_at dkX2_reach_b2 7 rfl
theorem dX2_reach_47 : decode cX2_reach 47 = .ok (.iadd, 1) := dc_at dkX2_reach_b2 8 rfl
theorem dX2_reach_48 : decode cX2_reach 48 = .ok (.invokevirtual 111, 3) := dc_at dkX2_reach_b2 9 rfl
def drX2_reach_b3 : List (Nat × (Instr × Nat)) := [(51, (.iload_n 1, 1)), (52, (.if_icmp .gt 10, 3)), (55, (.iload 7, 2)), (57, (.istore 4, 2)), (59, (.goto 9, 3)), (62, (.iload 7, 2)), (64, (.iconst 1, 1)), (65, (.isub, 1)), (66, (.istore 5, 2)), (68, (.iinc 6 1, 3))]
theorem dkX2_reach_b3 : ((drX2_reach_b3).all fun r => decide (decode cX2_reach r.1 = .ok r.2)) = true := by decide +kernel
theorem dX2_reach_51 : decode cX2_reach 51 = .ok (.iload_n 1, 1) := dc_at dkX2_reach_b3 0 rfl
theorem dX2_reach_52 : decode cX2_reach 52 = .ok (.if_icmp .gt 10, 3) := dc_at dkX2_reach_b3 1 rfl
theorem dX2_reach_55 : decode cX2_reach 55 = .ok (.iload 7, 2) := dc_at dkX2_reach_b3 2 rfl
theorem dX2_reach_57 : decode cX2_reach 57 = .ok (.istore 4, 2) := dc_at dkX2_reach_b3 3 rfl
theorem dX2_reach_59 : decode cX2_reach 59 = .ok (.goto 9, 3) := dc_at dkX2_reach_b3 4 rfl
theorem dX2_reach_62 : decode cX2_reach 62 = .ok (.iload 7, 2) := dc_at dkX2_reach_b3 5 rfl
theorem dX2_reach_64 : decode cX2_reach 64 = .ok (.iconst 1, 1) := dc_at dkX2_reach_b3 6 rfl
theorem dX2_reach_65 : decode cX2_reach 65 = .ok (.isub, 1) := dc_at dkX2_reach_b3 7 rfl
theorem dX2_reach_66 : decode cX2_reach 66 = .ok (.istore 5, 2) := dc_at dkX2_reach_b3 8 rfl
theorem dX2_reach_68 : decode cX2_reach 68 = .ok (.iinc 6 1, 3) := dc_at dkX2_reach_b3 9 rfl
def drX2_reach_b4 : List (Nat × (Instr × Nat)) := [(71, (.goto (-62), 3)), (74, (.iload 4, 2)), (76, (.ireturn, 1))]
theorem dkX2_reach_b4 : ((drX2_reach_b4).all fun r => decide (decode cX2_reach r.1 = .ok r.2)) = true := by decide +kernel
theorem dX2_reach_71 : decode cX2_reach 71 = .ok (.goto (-62), 3) := dc_at dkX2_reach_b4 0 rfl
theorem dX2_reach_74 : decode cX2_reach 74 = .ok (.iload 4, 2) := dc_at dkX2_reach_b4 1 rfl
theorem dX2_reach_76 : decode cX2_reach 76 = .ok (.ireturn, 1) := dc_at dkX2_reach_b4 2 rfl
def drX2_hasBlock_b0 : List (Nat × (Instr × Nat)) := [(0, (.iload_n 1, 1)), (1, (.iconst 0, 1)), (2, (.aload_n 0, 1)), (3, (.getfield 46, 3)), (6, (.iconst 1, 1)), (7, (.isub, 1)), (8, (.invokestatic 69, 3)), (11, (.ireturn, 1))]
theorem dkX2_hasBlock_b0 : ((drX2_hasBlock_b0).all fun r => decide (decode cX2_hasBlock r.1 = .ok r.2)) = true := by decide +kernel
theorem dX2_hasBlock_0 : decode cX2_hasBlock 0 = .ok (.iload_n 1, 1) := dc_at dkX2_hasBlock_b0 0 rfl
theorem dX2_hasBlock_1 : decode cX2_hasBlock 1 = .ok (.iconst 0, 1) := dc_at dkX2_hasBlock_b0 1 rfl
theorem dX2_hasBlock_2 : decode cX2_hasBlock 2 = .ok (.aload_n 0, 1) := dc_at dkX2_hasBlock_b0 2 rfl
theorem dX2_hasBlock_3 : decode cX2_hasBlock 3 = .ok (.getfield 46, 3) := dc_at dkX2_hasBlock_b0 3 rfl
theorem dX2_hasBlock_6 : decode cX2_hasBlock 6 = .ok (.iconst 1, 1) := dc_at dkX2_hasBlock_b0 4 rfl
theorem dX2_hasBlock_7 : decode cX2_hasBlock 7 = .ok (.isub, 1) := dc_at dkX2_hasBlock_b0 5 rfl
theorem dX2_hasBlock_8 : decode cX2_hasBlock 8 = .ok (.invokestatic 69, 3) := dc_at dkX2_hasBlock_b0 6 rfl
theorem dX2_hasBlock_11 : decode cX2_hasBlock 11 = .ok (.ireturn, 1) := dc_at dkX2_hasBlock_b0 7 rfl
def drX2_hasAllOf_b0 : List (Nat × (Instr × Nat)) := [(0, (.iload_n 1, 1)), (1, (.aload_n 0, 1)), (2, (.getfield 46, 3)), (5, (.iushr, 1)), (6, (.ifCond .ne 7, 3)), (9, (.iconst 1, 1)), (10, (.goto 4, 3)), (13, (.iconst 0, 1)), (14, (.ireturn, 1))]
theorem dkX2_hasAllOf_b0 : ((drX2_hasAllOf_b0).all fun r => decide (decode cX2_hasAllOf r.1 = .ok r.2)) = true := by decide +kernel
theorem dX2_hasAllOf_0 : decode cX2_hasAllOf 0 = .ok (.iload_n 1, 1) := dc_at dkX2_hasAllOf_b0 0 rfl
theorem dX2_hasAllOf_1 : decode cX2_hasAllOf 1 = .ok (.aload_n 0, 1) := dc_at dkX2_hasAllOf_b0 1 rfl
theorem dX2_hasAllOf_2 : decode cX2_hasAllOf 2 = .ok (.getfield 46, 3) := dc_at dkX2_hasAllOf_b0 2 rfl
theorem dX2_hasAllOf_5 : decode cX2_hasAllOf 5 = .ok (.iushr, 1) := dc_at dkX2_hasAllOf_b0 3 rfl
theorem dX2_hasAllOf_6 : decode cX2_hasAllOf 6 = .ok (.ifCond .ne 7, 3) := dc_at dkX2_hasAllOf_b0 4 rfl
theorem dX2_hasAllOf_9 : decode cX2_hasAllOf 9 = .ok (.iconst 1, 1) := dc_at dkX2_hasAllOf_b0 5 rfl
theorem dX2_hasAllOf_10 : decode cX2_hasAllOf 10 = .ok (.goto 4, 3) := dc_at dkX2_hasAllOf_b0 6 rfl
theorem dX2_hasAllOf_13 : decode cX2_hasAllOf 13 = .ok (.iconst 0, 1) := dc_at dkX2_hasAllOf_b0 7 rfl
theorem dX2_hasAllOf_14 : decode cX2_hasAllOf 14 = .ok (.ireturn, 1) := dc_at dkX2_hasAllOf_b0 8 rfl
def drX2_beginOf_b0 : List (Nat × (Instr × Nat)) := [(0, (.aload_n 0, 1)), (1, (.getfield 15, 3)), (4, (.iload_n 1, 1)), (5, (.invokestatic 114, 3)), (8, (.ireturn, 1))]
theorem dkX2_beginOf_b0 : ((drX2_beginOf_b0).all fun r => decide (decode cX2_beginOf r.1 = .ok r.2)) = true := by decide +kernel
theorem dX2_beginOf_0 : decode cX2_beginOf 0 = .ok (.aload_n 0, 1) := dc_at dkX2_beginOf_b0 0 rfl
theorem dX2_beginOf_1 : decode cX2_beginOf 1 = .ok (.getfield 15, 3) := dc_at dkX2_beginOf_b0 1 rfl
theorem dX2_beginOf_4 : decode cX2_beginOf 4 = .ok (.iload_n 1, 1) := dc_at dkX2_beginOf_b0 2 rfl
theorem dX2_beginOf_5 : decode cX2_beginOf 5 = .ok (.invokestatic 114, 3) := dc_at dkX2_beginOf_b0 3 rfl
theorem dX2_beginOf_8 : decode cX2_beginOf 8 = .ok (.ireturn, 1) := dc_at dkX2_beginOf_b0 4 rfl
def drX2_sizeOf_b0 : List (Nat × (Instr × Nat)) := [(0, (.aload_n 0, 1)), (1, (.getfield 18, 3)), (4, (.iload_n 1, 1)), (5, (.invokestatic 114, 3)), (8, (.ireturn, 1))]
theorem dkX2_sizeOf_b0 : ((drX2_sizeOf_b0).all fun r => decide (decode cX2_sizeOf r.1 = .ok r.2)) = true := by decide +kernel
theorem dX2_sizeOf_0 : decode cX2_sizeOf 0 = .ok (.aload_n 0, 1) := dc_at dkX2_sizeOf_b0 0 rfl
theorem dX2_sizeOf_1 : decode cX2_sizeOf 1 = .ok (.getfield 18, 3) := dc_at dkX2_sizeOf_b0 1 rfl
theorem dX2_sizeOf_4 : decode cX2_sizeOf 4 = .ok (.iload_n 1, 1) := dc_at dkX2_sizeOf_b0 2 rfl
theorem dX2_sizeOf_5 : decode cX2_sizeOf 5 = .ok (.invokestatic 114, 3) := dc_at dkX2_sizeOf_b0 3 rfl
theorem dX2_sizeOf_8 : decode cX2_sizeOf 8 = .ok (.ireturn, 1) := dc_at dkX2_sizeOf_b0 4 rfl
def drX2_isMark_b0 : List (Nat × (Instr × Nat)) := [(0, (.aload_n 0, 1)), (1, (.iload_n 1, 1)), (2, (.invokevirtual 118, 3)), (5, (.ifCond .ne 7, 3)), (8, (.iconst 1, 1)), (9, (.goto 4, 3)), (12, (.iconst 0, 1)), (13, (.ireturn, 1))]
theorem dkX2_isMark_b0 : ((drX2_isMark_b0).all fun r => decide (decode cX2_isMark r.1 = .ok r.2)) = true := by decide +kernel
theorem dX2_isMark_0 : decode cX2_isMark 0 = .ok (.aload_n 0, 1) := dc_at dkX2_isMark_b0 0 rfl
theorem dX2_isMark_1 : decode cX2_isMark 1 = .ok (.iload_n 1, 1) := dc_at dkX2_isMark_b0 1 rfl
theorem dX2_isMark_2 : decode cX2_isMark 2 = .ok (.invokevirtual 118, 3) := dc_at dkX2_isMark_b0 2 rfl
theorem dX2_isMark_5 : decode cX2_isMark 5 = .ok (.ifCond .ne 7, 3) := dc_at dkX2_isMark_b0 3 rfl
theorem dX2_isMark_8 : decode cX2_isMark 8 = .ok (.iconst 1, 1) := dc_at dkX2_isMark_b0 4 rfl
theorem dX2_isMark_9 : decode cX2_isMark 9 = .ok (.goto 4, 3) := dc_at dkX2_isMark_b0 5 rfl
theorem dX2_isMark_12 : decode cX2_isMark 12 = .ok (.iconst 0, 1) := dc_at dkX2_isMark_b0 6 rfl
theorem dX2_isMark_13 : decode cX2_isMark 13 = .ok (.ireturn, 1) := dc_at dkX2_isMark_b0 7 rfl
def drX2_longWith_b0 : List (Nat × (Instr × Nat)) := [(0, (.iload_n 1, 1)), (1, (.ifCond .ne 7, 3)), (4, (.iconst 1, 1)), (5, (.goto 15, 3)), (8, (.iload_n 1, 1)), (9, (.iconst 1, 1)), (10, (.iadd, 1)), (11, (.aload_n 0, 1)), (12, (.bipush 7, 2)), (14, (.invokevirtual 65, 3))]
theorem dkX2_longWith_b0 : ((drX2_longWith_b0).all fun r => decide (decode cX2_longWith r.1 = .ok r.2)) = true := by decide +kernel
theorem dX2_longWith_0 : decode cX2_longWith 0 = .ok (.iload_n 1, 1) := dc_at dkX2_longWith_b0 0 rfl
theorem dX2_longWith_1 : decode cX2_longWith 1 = .ok (.ifCond .ne 7, 3) := dc_at dkX2_longWith_b0 1 rfl
theorem dX2_longWith_4 : decode cX2_longWith 4 = .ok (.iconst 1, 1) := dc_at dkX2_longWith_b0 2 rfl
theorem dX2_longWith_5 : decode cX2_longWith 5 = .ok (.goto 15, 3) := dc_at dkX2_longWith_b0 3 rfl
theorem dX2_longWith_8 : decode cX2_longWith 8 = .ok (.iload_n 1, 1) := dc_at dkX2_longWith_b0 4 rfl
theorem dX2_longWith_9 : decode cX2_longWith 9 = .ok (.iconst 1, 1) := dc_at dkX2_longWith_b0 5 rfl
theorem dX2_longWith_10 : decode cX2_longWith 10 = .ok (.iadd, 1) := dc_at dkX2_longWith_b0 6 rfl
theorem dX2_longWith_11 : decode cX2_longWith 11 = .ok (.aload_n 0, 1) := dc_at dkX2_longWith_b0 7 rfl
theorem dX2_longWith_12 : decode cX2_longWith 12 = .ok (.bipush 7, 2) := dc_at dkX2_longWith_b0 8 rfl
theorem dX2_longWith_14 : decode cX2_longWith 14 = .ok (.invokevirtual 65, 3) := dc_at dkX2_longWith_b0 9 rfl
def drX2_longWith_b1 : List (Nat × (Instr × Nat)) := [(17, (.invokestatic 121, 3)), (20, (.ireturn, 1))]
theorem dkX2_longWith_b1 : ((drX2_longWith_b1).all fun r => decide (decode cX2_longWith r.1 = .ok r.2)) = true := by decide +kernel
theorem dX2_longWith_17 : decode cX2_longWith 17 = .ok (.invokestatic 121, 3) := dc_at dkX2_longWith_b1 0 rfl
theorem dX2_longWith_20 : decode cX2_longWith 20 = .ok (.ireturn, 1) := dc_at dkX2_longWith_b1 1 rfl
def drX2_longOf_b0 : List (Nat × (Instr × Nat)) := [(0, (.aload_n 0, 1)), (1, (.aload_n 0, 1)), (2, (.iload_n 1, 1)), (3, (.invokevirtual 118, 3)), (6, (.invokevirtual 124, 3)), (9, (.ireturn, 1))]
theorem dkX2_longOf_b0 : ((drX2_longOf_b0).all fun r => decide (decode cX2_longOf r.1 = .ok r.2)) = true := by decide +kernel
theorem dX2_longOf_0 : decode cX2_longOf 0 = .ok (.aload_n 0, 1) := dc_at dkX2_longOf_b0 0 rfl
theorem dX2_longOf_1 : decode cX2_longOf 1 = .ok (.aload_n 0, 1) := dc_at dkX2_longOf_b0 1 rfl
theorem dX2_longOf_2 : decode cX2_longOf 2 = .ok (.iload_n 1, 1) := dc_at dkX2_longOf_b0 2 rfl
theorem dX2_longOf_3 : decode cX2_longOf 3 = .ok (.invokevirtual 118, 3) := dc_at dkX2_longOf_b0 3 rfl
theorem dX2_longOf_6 : decode cX2_longOf 6 = .ok (.invokevirtual 124, 3) := dc_at dkX2_longOf_b0 4 rfl
theorem dX2_longOf_9 : decode cX2_longOf 9 = .ok (.ireturn, 1) := dc_at dkX2_longOf_b0 5 rfl
def drX2_endOf_b0 : List (Nat × (Instr × Nat)) := [(0, (.aload_n 0, 1)), (1, (.iload_n 1, 1)), (2, (.invokevirtual 127, 3)), (5, (.ifCond .eq 21, 3)), (8, (.aload_n 0, 1)), (9, (.iload_n 1, 1)), (10, (.invokevirtual 130, 3)), (13, (.aload_n 0, 1)), (14, (.aload_n 0, 1)), (15, (.iload_n 1, 1))]
theorem dkX2_endOf_b0 : ((drX2_endOf_b0).all fun r => decide (decode cX2_endOf r.1 = .ok r.2)) = true := by decide +kernel
theorem dX2_endOf_0 : decode cX2_endOf 0 = .ok (.aload_n 0, 1) := dc_at dkX2_endOf_b0 0 rfl
theorem dX2_endOf_1 : decode cX2_endOf 1 = .ok (.iload_n 1, 1) := dc_at dkX2_endOf_b0 1 rfl
theorem dX2_endOf_2 : decode cX2_endOf 2 = .ok (.invokevirtual 127, 3) := dc_at dkX2_endOf_b0 2 rfl
theorem dX2_endOf_5 : decode cX2_endOf 5 = .ok (.ifCond .eq 21, 3) := dc_at dkX2_endOf_b0 3 rfl
theorem dX2_endOf_8 : decode cX2_endOf 8 = .ok (.aload_n 0, 1) := dc_at dkX2_endOf_b0 4 rfl
theorem dX2_endOf_9 : decode cX2_endOf 9 = .ok (.iload_n 1, 1) := dc_at dkX2_endOf_b0 5 rfl
theorem dX2_endOf_10 : decode cX2_endOf 10 = .ok (.invokevirtual 130, 3) := dc_at dkX2_endOf_b0 6 rfl
theorem dX2_endOf_13 : decode cX2_endOf 13 = .ok (.aload_n 0, 1) := dc_at dkX2_endOf_b0 7 rfl
theorem dX2_endOf_14 : decode cX2_endOf 14 = .ok (.aload_n 0, 1) := dc_at dkX2_endOf_b0 8 rfl
theorem dX2_endOf_15 : decode cX2_endOf 15 = .ok (.iload_n 1, 1) := dc_at dkX2_endOf_b0 9 rfl
def drX2_endOf_b1 : List (Nat × (Instr × Nat)) := [(16, (.invokevirtual 118, 3)), (19, (.invokevirtual 124, 3)), (22, (.iadd, 1)), (23, (.goto 4, 3)), (26, (.iconst 0, 1)), (27, (.ireturn, 1))]
theorem dkX2_endOf_b1 : ((drX2_endOf_b1).all fun r => decide (decode cX2_endOf r.1 = .ok r.2)) = true := by decide +kernel
theorem dX2_endOf_16 : decode cX2_endOf 16 = .ok (.invokevirtual 118, 3) := dc_at dkX2_endOf_b1 0 rfl
theorem dX2_endOf_19 : decode cX2_endOf 19 = .ok (.invokevirtual 124, 3) := dc_at dkX2_endOf_b1 1 rfl
theorem dX2_endOf_22 : decode cX2_endOf 22 = .ok (.iadd, 1) := dc_at dkX2_endOf_b1 2 rfl
theorem dX2_endOf_23 : decode cX2_endOf 23 = .ok (.goto 4, 3) := dc_at dkX2_endOf_b1 3 rfl
theorem dX2_endOf_26 : decode cX2_endOf 26 = .ok (.iconst 0, 1) := dc_at dkX2_endOf_b1 4 rfl
theorem dX2_endOf_27 : decode cX2_endOf 27 = .ok (.ireturn, 1) := dc_at dkX2_endOf_b1 5 rfl
def drX2_blockWith_b0 : List (Nat × (Instr × Nat)) := [(0, (.iconst 0, 1)), (1, (.istore_n 2, 1)), (2, (.iload_n 2, 1)), (3, (.aload_n 0, 1)), (4, (.getfield 46, 3)), (7, (.if_icmp .ge 30, 3)), (10, (.iload_n 1, 1)), (11, (.aload_n 0, 1)), (12, (.iload_n 2, 1)), (13, (.invokevirtual 130, 3))]
theorem dkX2_blockWith_b0 : ((drX2_blockWith_b0).all fun r => decide (decode cX2_blockWith r.1 = .ok r.2)) = true := by decide +kernel
theorem dX2_blockWith_0 : decode cX2_blockWith 0 = .ok (.iconst 0, 1) := dc_at dkX2_blockWith_b0 0 rfl
theorem dX2_blockWith_1 : decode cX2_blockWith 1 = .ok (.istore_n 2, 1) := dc_at dkX2_blockWith_b0 1 rfl
theorem dX2_blockWith_2 : decode cX2_blockWith 2 = .ok (.iload_n 2, 1) := dc_at dkX2_blockWith_b0 2 rfl
theorem dX2_blockWith_3 : decode cX2_blockWith 3 = .ok (.aload_n 0, 1) := dc_at dkX2_blockWith_b0 3 rfl
theorem dX2_blockWith_4 : decode cX2_blockWith 4 = .ok (.getfield 46, 3) := dc_at dkX2_blockWith_b0 4 rfl
theorem dX2_blockWith_7 : decode cX2_blockWith 7 = .ok (.if_icmp .ge 30, 3) := dc_at dkX2_blockWith_b0 5 rfl
theorem dX2_blockWith_10 : decode cX2_blockWith 10 = .ok (.iload_n 1, 1) := dc_at dkX2_blockWith_b0 6 rfl
theorem dX2_blockWith_11 : decode cX2_blockWith 11 = .ok (.aload_n 0, 1) := dc_at dkX2_blockWith_b0 7 rfl
theorem dX2_blockWith_12 : decode cX2_blockWith 12 = .ok (.iload_n 2, 1) := dc_at dkX2_blockWith_b0 8 rfl
theorem dX2_blockWith_13 : decode cX2_blockWith 13 = .ok (.invokevirtual 130, 3) := dc_at dkX2_blockWith_b0 9 rfl
def drX2_blockWith_b1 : List (Nat × (Instr × Nat)) := [(16, (.aload_n 0, 1)), (17, (.iload_n 2, 1)), (18, (.invokevirtual 133, 3)), (21, (.iconst 1, 1)), (22, (.isub, 1)), (23, (.invokestatic 69, 3)), (26, (.ifCond .eq 5, 3)), (29, (.iload_n 2, 1)), (30, (.ireturn, 1)), (31, (.iinc 2 1, 3))]
theorem dkX2_blockWith_b1 : ((drX2_blockWith_b1).all fun r => decide (decode cX2_blockWith r.1 = .ok r.2)) = true := by decide +kernel
theorem dX2_blockWith_16 : decode cX2_blockWith 16 = .ok (.aload_n 0, 1) := dc_at dkX2_blockWith_b1 0 rfl
theorem dX2_blockWith_17 : decode cX2_blockWith 17 = .ok (.iload_n 2, 1) := dc_at dkX2_blockWith_b1 1 rfl
theorem dX2_blockWith_18 : decode cX2_blockWith 18 = .ok (.invokevirtual 133, 3) := dc_at dkX2_blockWith_b1 2 rfl
theorem dX2_blockWith_21 : decode cX2_blockWith 21 = .ok (.iconst 1, 1) := dc_at dkX2_blockWith_b1 3 rfl
theorem dX2_blockWith_22 : decode cX2_blockWith 22 = .ok (.isub, 1) := dc_at dkX2_blockWith_b1 4 rfl
theorem dX2_blockWith_23 : decode cX2_blockWith 23 = .ok (.invokestatic 69, 3) := dc_at dkX2_blockWith_b1 5 rfl
theorem dX2_blockWith_26 : decode cX2_blockWith 26 = .ok (.ifCond .eq 5, 3) := dc_at dkX2_blockWith_b1 6 rfl
theorem dX2_blockWith_29 : decode cX2_blockWith 29 = .ok (.iload_n 2, 1) := dc_at dkX2_blockWith_b1 7 rfl
theorem dX2_blockWith_30 : decode cX2_blockWith 30 = .ok (.ireturn, 1) := dc_at dkX2_blockWith_b1 8 rfl
theorem dX2_blockWith_31 : decode cX2_blockWith 31 = .ok (.iinc 2 1, 3) := dc_at dkX2_blockWith_b1 9 rfl
def drX2_blockWith_b2 : List (Nat × (Instr × Nat)) := [(34, (.goto (-32), 3)), (37, (.bipush (-4), 2)), (39, (.ireturn, 1))]
theorem dkX2_blockWith_b2 : ((drX2_blockWith_b2).all fun r => decide (decode cX2_blockWith r.1 = .ok r.2)) = true := by decide +kernel
theorem dX2_blockWith_34 : decode cX2_blockWith 34 = .ok (.goto (-32), 3) := dc_at dkX2_blockWith_b2 0 rfl
theorem dX2_blockWith_37 : decode cX2_blockWith 37 = .ok (.bipush (-4), 2) := dc_at dkX2_blockWith_b2 1 rfl
theorem dX2_blockWith_39 : decode cX2_blockWith 39 = .ok (.ireturn, 1) := dc_at dkX2_blockWith_b2 2 rfl
def drX2_markCount_b0 : List (Nat × (Instr × Nat)) := [(0, (.iconst 0, 1)), (1, (.istore_n 1, 1)), (2, (.iconst 0, 1)), (3, (.istore_n 2, 1)), (4, (.iload_n 2, 1)), (5, (.aload_n 0, 1)), (6, (.getfield 46, 3)), (9, (.if_icmp .ge 20, 3)), (12, (.aload_n 0, 1)), (13, (.iload_n 2, 1))]
theorem dkX2_markCount_b0 : ((drX2_markCount_b0).all fun r => decide (decode cX2_markCount r.1 = .ok r.2)) = true := by decide +kernel
theorem dX2_markCount_0 : decode cX2_markCount 0 = .ok (.iconst 0, 1) := dc_at dkX2_markCount_b0 0 rfl
theorem dX2_markCount_1 : decode cX2_markCount 1 = .ok (.istore_n 1, 1) := dc_at dkX2_markCount_b0 1 rfl
theorem dX2_markCount_2 : decode cX2_markCount 2 = .ok (.iconst 0, 1) := dc_at dkX2_markCount_b0 2 rfl
theorem dX2_markCount_3 : decode cX2_markCount 3 = .ok (.istore_n 2, 1) := dc_at dkX2_markCount_b0 3 rfl
theorem dX2_markCount_4 : decode cX2_markCount 4 = .ok (.iload_n 2, 1) := dc_at dkX2_markCount_b0 4 rfl
theorem dX2_markCount_5 : decode cX2_markCount 5 = .ok (.aload_n 0, 1) := dc_at dkX2_markCount_b0 5 rfl
theorem dX2_markCount_6 : decode cX2_markCount 6 = .ok (.getfield 46, 3) := dc_at dkX2_markCount_b0 6 rfl
theorem dX2_markCount_9 : decode cX2_markCount 9 = .ok (.if_icmp .ge 20, 3) := dc_at dkX2_markCount_b0 7 rfl
theorem dX2_markCount_12 : decode cX2_markCount 12 = .ok (.aload_n 0, 1) := dc_at dkX2_markCount_b0 8 rfl
theorem dX2_markCount_13 : decode cX2_markCount 13 = .ok (.iload_n 2, 1) := dc_at dkX2_markCount_b0 9 rfl
def drX2_markCount_b1 : List (Nat × (Instr × Nat)) := [(14, (.invokevirtual 136, 3)), (17, (.ifCond .eq 6, 3)), (20, (.iinc 1 1, 3)), (23, (.iinc 2 1, 3)), (26, (.goto (-22), 3)), (29, (.iload_n 1, 1)), (30, (.ireturn, 1))]
theorem dkX2_markCount_b1 : ((drX2_markCount_b1).all fun r => decide (decode cX2_markCount r.1 = .ok r.2)) = true := by decide +kernel
theorem dX2_markCount_14 : decode cX2_markCount 14 = .ok (.invokevirtual 136, 3) := dc_at dkX2_markCount_b1 0 rfl
theorem dX2_markCount_17 : decode cX2_markCount 17 = .ok (.ifCond .eq 6, 3) := dc_at dkX2_markCount_b1 1 rfl
theorem dX2_markCount_20 : decode cX2_markCount 20 = .ok (.iinc 1 1, 3) := dc_at dkX2_markCount_b1 2 rfl
theorem dX2_markCount_23 : decode cX2_markCount 23 = .ok (.iinc 2 1, 3) := dc_at dkX2_markCount_b1 3 rfl
theorem dX2_markCount_26 : decode cX2_markCount 26 = .ok (.goto (-22), 3) := dc_at dkX2_markCount_b1 4 rfl
theorem dX2_markCount_29 : decode cX2_markCount 29 = .ok (.iload_n 1, 1) := dc_at dkX2_markCount_b1 5 rfl
theorem dX2_markCount_30 : decode cX2_markCount 30 = .ok (.ireturn, 1) := dc_at dkX2_markCount_b1 6 rfl
def drX2_byteCount_b0 : List (Nat × (Instr × Nat)) := [(0, (.iconst 0, 1)), (1, (.istore_n 1, 1)), (2, (.iconst 0, 1)), (3, (.istore_n 2, 1)), (4, (.iload_n 2, 1)), (5, (.aload_n 0, 1)), (6, (.getfield 46, 3)), (9, (.if_icmp .ge 17, 3)), (12, (.iload_n 1, 1)), (13, (.aload_n 0, 1))]
theorem dkX2_byteCount_b0 : ((drX2_byteCount_b0).all fun r => decide (decode cX2_byteCount r.1 = .ok r.2)) = true := by decide +kernel
theorem dX2_byteCount_0 : decode cX2_byteCount 0 = .ok (.iconst 0, 1) := dc_at dkX2_byteCount_b0 0 rfl
theorem dX2_byteCount_1 : decode cX2_byteCount 1 = .ok (.istore_n 1, 1) := dc_at dkX2_byteCount_b0 1 rfl
theorem dX2_byteCount_2 : decode cX2_byteCount 2 = .ok (.iconst 0, 1) := dc_at dkX2_byteCount_b0 2 rfl
theorem dX2_byteCount_3 : decode cX2_byteCount 3 = .ok (.istore_n 2, 1) := dc_at dkX2_byteCount_b0 3 rfl
theorem dX2_byteCount_4 : decode cX2_byteCount 4 = .ok (.iload_n 2, 1) := dc_at dkX2_byteCount_b0 4 rfl
theorem dX2_byteCount_5 : decode cX2_byteCount 5 = .ok (.aload_n 0, 1) := dc_at dkX2_byteCount_b0 5 rfl
theorem dX2_byteCount_6 : decode cX2_byteCount 6 = .ok (.getfield 46, 3) := dc_at dkX2_byteCount_b0 6 rfl
theorem dX2_byteCount_9 : decode cX2_byteCount 9 = .ok (.if_icmp .ge 17, 3) := dc_at dkX2_byteCount_b0 7 rfl
theorem dX2_byteCount_12 : decode cX2_byteCount 12 = .ok (.iload_n 1, 1) := dc_at dkX2_byteCount_b0 8 rfl
theorem dX2_byteCount_13 : decode cX2_byteCount 13 = .ok (.aload_n 0, 1) := dc_at dkX2_byteCount_b0 9 rfl
def drX2_byteCount_b1 : List (Nat × (Instr × Nat)) := [(14, (.iload_n 2, 1)), (15, (.invokevirtual 118, 3)), (18, (.iadd, 1)), (19, (.istore_n 1, 1)), (20, (.iinc 2 1, 3)), (23, (.goto (-19), 3)), (26, (.iload_n 1, 1)), (27, (.ireturn, 1))]
theorem dkX2_byteCount_b1 : ((drX2_byteCount_b1).all fun r => decide (decode cX2_byteCount r.1 = .ok r.2)) = true := by decide +kernel
theorem dX2_byteCount_14 : decode cX2_byteCount 14 = .ok (.iload_n 2, 1) := dc_at dkX2_byteCount_b1 0 rfl
theorem dX2_byteCount_15 : decode cX2_byteCount 15 = .ok (.invokevirtual 118, 3) := dc_at dkX2_byteCount_b1 1 rfl
theorem dX2_byteCount_18 : decode cX2_byteCount 18 = .ok (.iadd, 1) := dc_at dkX2_byteCount_b1 2 rfl
theorem dX2_byteCount_19 : decode cX2_byteCount 19 = .ok (.istore_n 1, 1) := dc_at dkX2_byteCount_b1 3 rfl
theorem dX2_byteCount_20 : decode cX2_byteCount 20 = .ok (.iinc 2 1, 3) := dc_at dkX2_byteCount_b1 4 rfl
theorem dX2_byteCount_23 : decode cX2_byteCount 23 = .ok (.goto (-19), 3) := dc_at dkX2_byteCount_b1 5 rfl
theorem dX2_byteCount_26 : decode cX2_byteCount 26 = .ok (.iload_n 1, 1) := dc_at dkX2_byteCount_b1 6 rfl
theorem dX2_byteCount_27 : decode cX2_byteCount 27 = .ok (.ireturn, 1) := dc_at dkX2_byteCount_b1 7 rfl
def drX2_typeOne_b0 : List (Nat × (Instr × Nat)) := [(0, (.aload_n 0, 1)), (1, (.getfield 27, 3)), (4, (.aload_n 0, 1)), (5, (.getfield 56, 3)), (8, (.iload_n 1, 1)), (9, (.invokestatic 139, 3)), (12, (.aload_n 0, 1)), (13, (.dup, 1)), (14, (.getfield 56, 3)), (17, (.iconst 1, 1))]
theorem dkX2_typeOne_b0 : ((drX2_typeOne_b0).all fun r => decide (decode cX2_typeOne r.1 = .ok r.2)) = true := by decide +kernel
theorem dX2_typeOne_0 : decode cX2_typeOne 0 = .ok (.aload_n 0, 1) := dc_at dkX2_typeOne_b0 0 rfl
theorem dX2_typeOne_1 : decode cX2_typeOne 1 = .ok (.getfield 27, 3) := dc_at dkX2_typeOne_b0 1 rfl
theorem dX2_typeOne_4 : decode cX2_typeOne 4 = .ok (.aload_n 0, 1) := dc_at dkX2_typeOne_b0 2 rfl
theorem dX2_typeOne_5 : decode cX2_typeOne 5 = .ok (.getfield 56, 3) := dc_at dkX2_typeOne_b0 3 rfl
theorem dX2_typeOne_8 : decode cX2_typeOne 8 = .ok (.iload_n 1, 1) := dc_at dkX2_typeOne_b0 4 rfl
theorem dX2_typeOne_9 : decode cX2_typeOne 9 = .ok (.invokestatic 139, 3) := dc_at dkX2_typeOne_b0 5 rfl
theorem dX2_typeOne_12 : decode cX2_typeOne 12 = .ok (.aload_n 0, 1) := dc_at dkX2_typeOne_b0 6 rfl
theorem dX2_typeOne_13 : decode cX2_typeOne 13 = .ok (.dup, 1) := dc_at dkX2_typeOne_b0 7 rfl
theorem dX2_typeOne_14 : decode cX2_typeOne 14 = .ok (.getfield 56, 3) := dc_at dkX2_typeOne_b0 8 rfl
theorem dX2_typeOne_17 : decode cX2_typeOne 17 = .ok (.iconst 1, 1) := dc_at dkX2_typeOne_b0 9 rfl
def drX2_typeOne_b1 : List (Nat × (Instr × Nat)) := [(18, (.iadd, 1)), (19, (.putfield 56, 3)), (22, (.aload_n 0, 1)), (23, (.getfield 56, 3)), (26, (.ireturn, 1))]
theorem dkX2_typeOne_b1 : ((drX2_typeOne_b1).all fun r => decide (decode cX2_typeOne r.1 = .ok r.2)) = true := by decide +kernel
theorem dX2_typeOne_18 : decode cX2_typeOne 18 = .ok (.iadd, 1) := dc_at dkX2_typeOne_b1 0 rfl
theorem dX2_typeOne_19 : decode cX2_typeOne 19 = .ok (.putfield 56, 3) := dc_at dkX2_typeOne_b1 1 rfl
theorem dX2_typeOne_22 : decode cX2_typeOne 22 = .ok (.aload_n 0, 1) := dc_at dkX2_typeOne_b1 2 rfl
theorem dX2_typeOne_23 : decode cX2_typeOne 23 = .ok (.getfield 56, 3) := dc_at dkX2_typeOne_b1 3 rfl
theorem dX2_typeOne_26 : decode cX2_typeOne 26 = .ok (.ireturn, 1) := dc_at dkX2_typeOne_b1 4 rfl
def drX2_beginningAt_b0 : List (Nat × (Instr × Nat)) := [(0, (.aload_n 0, 1)), (1, (.iload_n 1, 1)), (2, (.iconst 1, 1)), (3, (.isub, 1)), (4, (.invokevirtual 133, 3)), (7, (.aload_n 0, 1)), (8, (.bipush 6, 2)), (10, (.invokevirtual 65, 3)), (13, (.iadd, 1)), (14, (.ireturn, 1))]
theorem dkX2_beginningAt_b0 : ((drX2_beginningAt_b0).all fun r => decide (decode cX2_beginningAt r.1 = .ok r.2)) = true := by decide +kernel
theorem dX2_beginningAt_0 : decode cX2_beginningAt 0 = .ok (.aload_n 0, 1) := dc_at dkX2_beginningAt_b0 0 rfl
theorem dX2_beginningAt_1 : decode cX2_beginningAt 1 = .ok (.iload_n 1, 1) := dc_at dkX2_beginningAt_b0 1 rfl
theorem dX2_beginningAt_2 : decode cX2_beginningAt 2 = .ok (.iconst 1, 1) := dc_at dkX2_beginningAt_b0 2 rfl
theorem dX2_beginningAt_3 : decode cX2_beginningAt 3 = .ok (.isub, 1) := dc_at dkX2_beginningAt_b0 3 rfl
theorem dX2_beginningAt_4 : decode cX2_beginningAt 4 = .ok (.invokevirtual 133, 3) := dc_at dkX2_beginningAt_b0 4 rfl
theorem dX2_beginningAt_7 : decode cX2_beginningAt 7 = .ok (.aload_n 0, 1) := dc_at dkX2_beginningAt_b0 5 rfl
theorem dX2_beginningAt_8 : decode cX2_beginningAt 8 = .ok (.bipush 6, 2) := dc_at dkX2_beginningAt_b0 6 rfl
theorem dX2_beginningAt_10 : decode cX2_beginningAt 10 = .ok (.invokevirtual 65, 3) := dc_at dkX2_beginningAt_b0 7 rfl
theorem dX2_beginningAt_13 : decode cX2_beginningAt 13 = .ok (.iadd, 1) := dc_at dkX2_beginningAt_b0 8 rfl
theorem dX2_beginningAt_14 : decode cX2_beginningAt 14 = .ok (.ireturn, 1) := dc_at dkX2_beginningAt_b0 9 rfl
def drX2_hasRoomAt_b0 : List (Nat × (Instr × Nat)) := [(0, (.iload_n 1, 1)), (1, (.bipush 12, 2)), (3, (.if_icmp .ge 26, 3)), (6, (.aload_n 0, 1)), (7, (.iload_n 1, 1)), (8, (.invokevirtual 143, 3)), (11, (.aload_n 0, 1)), (12, (.iload_n 2, 1)), (13, (.invokevirtual 124, 3)), (16, (.iadd, 1))]
theorem dkX2_hasRoomAt_b0 : ((drX2_hasRoomAt_b0).all fun r => decide (decode cX2_hasRoomAt r.1 = .ok r.2)) = true := by decide +kernel
theorem dX2_hasRoomAt_0 : decode cX2_hasRoomAt 0 = .ok (.iload_n 1, 1) := dc_at dkX2_hasRoomAt_b0 0 rfl
theorem dX2_hasRoomAt_1 : decode cX2_hasRoomAt 1 = .ok (.bipush 12, 2) := dc_at dkX2_hasRoomAt_b0 1 rfl
theorem dX2_hasRoomAt_3 : decode cX2_hasRoomAt 3 = .ok (.if_icmp .ge 26, 3) := dc_at dkX2_hasRoomAt_b0 2 rfl
theorem dX2_hasRoomAt_6 : decode cX2_hasRoomAt 6 = .ok (.aload_n 0, 1) := dc_at dkX2_hasRoomAt_b0 3 rfl
theorem dX2_hasRoomAt_7 : decode cX2_hasRoomAt 7 = .ok (.iload_n 1, 1) := dc_at dkX2_hasRoomAt_b0 4 rfl
theorem dX2_hasRoomAt_8 : decode cX2_hasRoomAt 8 = .ok (.invokevirtual 143, 3) := dc_at dkX2_hasRoomAt_b0 5 rfl
theorem dX2_hasRoomAt_11 : decode cX2_hasRoomAt 11 = .ok (.aload_n 0, 1) := dc_at dkX2_hasRoomAt_b0 6 rfl
theorem dX2_hasRoomAt_12 : decode cX2_hasRoomAt 12 = .ok (.iload_n 2, 1) := dc_at dkX2_hasRoomAt_b0 7 rfl
theorem dX2_hasRoomAt_13 : decode cX2_hasRoomAt 13 = .ok (.invokevirtual 124, 3) := dc_at dkX2_hasRoomAt_b0 8 rfl
theorem dX2_hasRoomAt_16 : decode cX2_hasRoomAt 16 = .ok (.iadd, 1) := dc_at dkX2_hasRoomAt_b0 9 rfl
def drX2_hasRoomAt_b1 : List (Nat × (Instr × Nat)) := [(17, (.aload_n 0, 1)), (18, (.iconst 0, 1)), (19, (.invokevirtual 65, 3)), (22, (.if_icmp .gt 7, 3)), (25, (.iconst 1, 1)), (26, (.goto 4, 3)), (29, (.iconst 0, 1)), (30, (.ireturn, 1))]
theorem dkX2_hasRoomAt_b1 : ((drX2_hasRoomAt_b1).all fun r => decide (decode cX2_hasRoomAt r.1 = .ok r.2)) = true := by decide +kernel
theorem dX2_hasRoomAt_17 : decode cX2_hasRoomAt 17 = .ok (.aload_n 0, 1) := dc_at dkX2_hasRoomAt_b1 0 rfl
theorem dX2_hasRoomAt_18 : decode cX2_hasRoomAt 18 = .ok (.iconst 0, 1) := dc_at dkX2_hasRoomAt_b1 1 rfl
theorem dX2_hasRoomAt_19 : decode cX2_hasRoomAt 19 = .ok (.invokevirtual 65, 3) := dc_at dkX2_hasRoomAt_b1 2 rfl
theorem dX2_hasRoomAt_22 : decode cX2_hasRoomAt 22 = .ok (.if_icmp .gt 7, 3) := dc_at dkX2_hasRoomAt_b1 3 rfl
theorem dX2_hasRoomAt_25 : decode cX2_hasRoomAt 25 = .ok (.iconst 1, 1) := dc_at dkX2_hasRoomAt_b1 4 rfl
theorem dX2_hasRoomAt_26 : decode cX2_hasRoomAt 26 = .ok (.goto 4, 3) := dc_at dkX2_hasRoomAt_b1 5 rfl
theorem dX2_hasRoomAt_29 : decode cX2_hasRoomAt 29 = .ok (.iconst 0, 1) := dc_at dkX2_hasRoomAt_b1 6 rfl
theorem dX2_hasRoomAt_30 : decode cX2_hasRoomAt 30 = .ok (.ireturn, 1) := dc_at dkX2_hasRoomAt_b1 7 rfl
def drX2_writeAt_b0 : List (Nat × (Instr × Nat)) := [(0, (.aload_n 0, 1)), (1, (.iload_n 1, 1)), (2, (.invokevirtual 143, 3)), (5, (.istore_n 3, 1)), (6, (.aload_n 0, 1)), (7, (.aload_n 0, 1)), (8, (.getfield 50, 3)), (11, (.iload_n 3, 1)), (12, (.invokevirtual 111, 3)), (15, (.aload_n 0, 1))]
theorem dkX2_writeAt_b0 : ((drX2_writeAt_b0).all fun r => decide (decode cX2_writeAt r.1 = .ok r.2)) = true := by decide +kernel
theorem dX2_writeAt_0 : decode cX2_writeAt 0 = .ok (.aload_n 0, 1) := dc_at dkX2_writeAt_b0 0 rfl
theorem dX2_writeAt_1 : decode cX2_writeAt 1 = .ok (.iload_n 1, 1) := dc_at dkX2_writeAt_b0 1 rfl
theorem dX2_writeAt_2 : decode cX2_writeAt 2 = .ok (.invokevirtual 143, 3) := dc_at dkX2_writeAt_b0 2 rfl
theorem dX2_writeAt_5 : decode cX2_writeAt 5 = .ok (.istore_n 3, 1) := dc_at dkX2_writeAt_b0 3 rfl
theorem dX2_writeAt_6 : decode cX2_writeAt 6 = .ok (.aload_n 0, 1) := dc_at dkX2_writeAt_b0 4 rfl
theorem dX2_writeAt_7 : decode cX2_writeAt 7 = .ok (.aload_n 0, 1) := dc_at dkX2_writeAt_b0 5 rfl
theorem dX2_writeAt_8 : decode cX2_writeAt 8 = .ok (.getfield 50, 3) := dc_at dkX2_writeAt_b0 6 rfl
theorem dX2_writeAt_11 : decode cX2_writeAt 11 = .ok (.iload_n 3, 1) := dc_at dkX2_writeAt_b0 7 rfl
theorem dX2_writeAt_12 : decode cX2_writeAt 12 = .ok (.invokevirtual 111, 3) := dc_at dkX2_writeAt_b0 8 rfl
theorem dX2_writeAt_15 : decode cX2_writeAt 15 = .ok (.aload_n 0, 1) := dc_at dkX2_writeAt_b0 9 rfl
def drX2_writeAt_b1 : List (Nat × (Instr × Nat)) := [(16, (.aload_n 0, 1)), (17, (.iload_n 2, 1)), (18, (.invokevirtual 124, 3)), (21, (.invokevirtual 102, 3)), (24, (.iadd, 1)), (25, (.istore 4, 2)), (27, (.aload_n 0, 1)), (28, (.iload_n 1, 1)), (29, (.iload_n 3, 1)), (30, (.iload_n 2, 1))]
theorem dkX2_writeAt_b1 : ((drX2_writeAt_b1).all fun r => decide (decode cX2_writeAt r.1 = .ok r.2)) = true := by decide +kernel
theorem dX2_writeAt_16 : decode cX2_writeAt 16 = .ok (.aload_n 0, 1) := dc_at dkX2_writeAt_b1 0 rfl
theorem dX2_writeAt_17 : decode cX2_writeAt 17 = .ok (.iload_n 2, 1) := dc_at dkX2_writeAt_b1 1 rfl
theorem dX2_writeAt_18 : decode cX2_writeAt 18 = .ok (.invokevirtual 124, 3) := dc_at dkX2_writeAt_b1 2 rfl
theorem dX2_writeAt_21 : decode cX2_writeAt 21 = .ok (.invokevirtual 102, 3) := dc_at dkX2_writeAt_b1 3 rfl
theorem dX2_writeAt_24 : decode cX2_writeAt 24 = .ok (.iadd, 1) := dc_at dkX2_writeAt_b1 4 rfl
theorem dX2_writeAt_25 : decode cX2_writeAt 25 = .ok (.istore 4, 2) := dc_at dkX2_writeAt_b1 5 rfl
theorem dX2_writeAt_27 : decode cX2_writeAt 27 = .ok (.aload_n 0, 1) := dc_at dkX2_writeAt_b1 6 rfl
theorem dX2_writeAt_28 : decode cX2_writeAt 28 = .ok (.iload_n 1, 1) := dc_at dkX2_writeAt_b1 7 rfl
theorem dX2_writeAt_29 : decode cX2_writeAt 29 = .ok (.iload_n 3, 1) := dc_at dkX2_writeAt_b1 8 rfl
theorem dX2_writeAt_30 : decode cX2_writeAt 30 = .ok (.iload_n 2, 1) := dc_at dkX2_writeAt_b1 9 rfl
def drX2_writeAt_b2 : List (Nat × (Instr × Nat)) := [(31, (.invokevirtual 146, 3)), (34, (.aload_n 0, 1)), (35, (.aload_n 0, 1)), (36, (.iload_n 1, 1)), (37, (.invokevirtual 133, 3)), (40, (.putfield 50, 3)), (43, (.aload_n 0, 1)), (44, (.dup, 1)), (45, (.getfield 53, 3)), (48, (.iload 4, 2))]
theorem dkX2_writeAt_b2 : ((drX2_writeAt_b2).all fun r => decide (decode cX2_writeAt r.1 = .ok r.2)) = true := by decide +kernel
theorem dX2_writeAt_31 : decode cX2_writeAt 31 = .ok (.invokevirtual 146, 3) := dc_at dkX2_writeAt_b2 0 rfl
theorem dX2_writeAt_34 : decode cX2_writeAt 34 = .ok (.aload_n 0, 1) := dc_at dkX2_writeAt_b2 1 rfl
theorem dX2_writeAt_35 : decode cX2_writeAt 35 = .ok (.aload_n 0, 1) := dc_at dkX2_writeAt_b2 2 rfl
theorem dX2_writeAt_36 : decode cX2_writeAt 36 = .ok (.iload_n 1, 1) := dc_at dkX2_writeAt_b2 3 rfl
theorem dX2_writeAt_37 : decode cX2_writeAt 37 = .ok (.invokevirtual 133, 3) := dc_at dkX2_writeAt_b2 4 rfl
theorem dX2_writeAt_40 : decode cX2_writeAt 40 = .ok (.putfield 50, 3) := dc_at dkX2_writeAt_b2 5 rfl
theorem dX2_writeAt_43 : decode cX2_writeAt 43 = .ok (.aload_n 0, 1) := dc_at dkX2_writeAt_b2 6 rfl
theorem dX2_writeAt_44 : decode cX2_writeAt 44 = .ok (.dup, 1) := dc_at dkX2_writeAt_b2 7 rfl
theorem dX2_writeAt_45 : decode cX2_writeAt 45 = .ok (.getfield 53, 3) := dc_at dkX2_writeAt_b2 8 rfl
theorem dX2_writeAt_48 : decode cX2_writeAt 48 = .ok (.iload 4, 2) := dc_at dkX2_writeAt_b2 9 rfl
def drX2_writeAt_b3 : List (Nat × (Instr × Nat)) := [(50, (.iadd, 1)), (51, (.putfield 53, 3)), (54, (.iload 4, 2)), (56, (.ireturn, 1))]
theorem dkX2_writeAt_b3 : ((drX2_writeAt_b3).all fun r => decide (decode cX2_writeAt r.1 = .ok r.2)) = true := by decide +kernel
theorem dX2_writeAt_50 : decode cX2_writeAt 50 = .ok (.iadd, 1) := dc_at dkX2_writeAt_b3 0 rfl
theorem dX2_writeAt_51 : decode cX2_writeAt 51 = .ok (.putfield 53, 3) := dc_at dkX2_writeAt_b3 1 rfl
theorem dX2_writeAt_54 : decode cX2_writeAt 54 = .ok (.iload 4, 2) := dc_at dkX2_writeAt_b3 2 rfl
theorem dX2_writeAt_56 : decode cX2_writeAt 56 = .ok (.ireturn, 1) := dc_at dkX2_writeAt_b3 3 rfl
def drX2_putBlock_b0 : List (Nat × (Instr × Nat)) := [(0, (.aload_n 0, 1)), (1, (.iload_n 1, 1)), (2, (.iconst 1, 1)), (3, (.iadd, 1)), (4, (.putfield 46, 3)), (7, (.aload_n 0, 1)), (8, (.getfield 15, 3)), (11, (.iload_n 1, 1)), (12, (.iload_n 2, 1)), (13, (.invokestatic 139, 3))]
theorem dkX2_putBlock_b0 : ((drX2_putBlock_b0).all fun r => decide (decode cX2_putBlock r.1 = .ok r.2)) = true := by decide +kernel
theorem dX2_putBlock_0 : decode cX2_putBlock 0 = .ok (.aload_n 0, 1) := dc_at dkX2_putBlock_b0 0 rfl
theorem dX2_putBlock_1 : decode cX2_putBlock 1 = .ok (.iload_n 1, 1) := dc_at dkX2_putBlock_b0 1 rfl
theorem dX2_putBlock_2 : decode cX2_putBlock 2 = .ok (.iconst 1, 1) := dc_at dkX2_putBlock_b0 2 rfl
theorem dX2_putBlock_3 : decode cX2_putBlock 3 = .ok (.iadd, 1) := dc_at dkX2_putBlock_b0 3 rfl
theorem dX2_putBlock_4 : decode cX2_putBlock 4 = .ok (.putfield 46, 3) := dc_at dkX2_putBlock_b0 4 rfl
theorem dX2_putBlock_7 : decode cX2_putBlock 7 = .ok (.aload_n 0, 1) := dc_at dkX2_putBlock_b0 5 rfl
theorem dX2_putBlock_8 : decode cX2_putBlock 8 = .ok (.getfield 15, 3) := dc_at dkX2_putBlock_b0 6 rfl
theorem dX2_putBlock_11 : decode cX2_putBlock 11 = .ok (.iload_n 1, 1) := dc_at dkX2_putBlock_b0 7 rfl
theorem dX2_putBlock_12 : decode cX2_putBlock 12 = .ok (.iload_n 2, 1) := dc_at dkX2_putBlock_b0 8 rfl
theorem dX2_putBlock_13 : decode cX2_putBlock 13 = .ok (.invokestatic 139, 3) := dc_at dkX2_putBlock_b0 9 rfl
def drX2_putBlock_b1 : List (Nat × (Instr × Nat)) := [(16, (.aload_n 0, 1)), (17, (.getfield 18, 3)), (20, (.iload_n 1, 1)), (21, (.iload_n 3, 1)), (22, (.invokestatic 139, 3)), (25, (.iconst 0, 1)), (26, (.istore 4, 2)), (28, (.iconst 0, 1)), (29, (.istore 5, 2)), (31, (.iload 5, 2))]
theorem dkX2_putBlock_b1 : ((drX2_putBlock_b1).all fun r => decide (decode cX2_putBlock r.1 = .ok r.2)) = true := by decide +kernel
theorem dX2_putBlock_16 : decode cX2_putBlock 16 = .ok (.aload_n 0, 1) := dc_at dkX2_putBlock_b1 0 rfl
theorem dX2_putBlock_17 : decode cX2_putBlock 17 = .ok (.getfield 18, 3) := dc_at dkX2_putBlock_b1 1 rfl
theorem dX2_putBlock_20 : decode cX2_putBlock 20 = .ok (.iload_n 1, 1) := dc_at dkX2_putBlock_b1 2 rfl
theorem dX2_putBlock_21 : decode cX2_putBlock 21 = .ok (.iload_n 3, 1) := dc_at dkX2_putBlock_b1 3 rfl
theorem dX2_putBlock_22 : decode cX2_putBlock 22 = .ok (.invokestatic 139, 3) := dc_at dkX2_putBlock_b1 4 rfl
theorem dX2_putBlock_25 : decode cX2_putBlock 25 = .ok (.iconst 0, 1) := dc_at dkX2_putBlock_b1 5 rfl
theorem dX2_putBlock_26 : decode cX2_putBlock 26 = .ok (.istore 4, 2) := dc_at dkX2_putBlock_b1 6 rfl
theorem dX2_putBlock_28 : decode cX2_putBlock 28 = .ok (.iconst 0, 1) := dc_at dkX2_putBlock_b1 7 rfl
theorem dX2_putBlock_29 : decode cX2_putBlock 29 = .ok (.istore 5, 2) := dc_at dkX2_putBlock_b1 8 rfl
theorem dX2_putBlock_31 : decode cX2_putBlock 31 = .ok (.iload 5, 2) := dc_at dkX2_putBlock_b1 9 rfl
def drX2_putBlock_b2 : List (Nat × (Instr × Nat)) := [(33, (.iload_n 3, 1)), (34, (.if_icmp .ge 74, 3)), (37, (.aload_n 0, 1)), (38, (.getfield 27, 3)), (41, (.iload 5, 2)), (43, (.invokestatic 114, 3)), (46, (.istore 6, 2)), (48, (.iload 6, 2)), (50, (.iload 6, 2)), (52, (.invokestatic 150, 3))]
theorem dkX2_putBlock_b2 : ((drX2_putBlock_b2).all fun r => decide (decode cX2_putBlock r.1 = .ok r.2)) = true := by decide +kernel
theorem dX2_putBlock_33 : decode cX2_putBlock 33 = .ok (.iload_n 3, 1) := dc_at dkX2_putBlock_b2 0 rfl
theorem dX2_putBlock_34 : decode cX2_putBlock 34 = .ok (.if_icmp .ge 74, 3) := dc_at dkX2_putBlock_b2 1 rfl
theorem dX2_putBlock_37 : decode cX2_putBlock 37 = .ok (.aload_n 0, 1) := dc_at dkX2_putBlock_b2 2 rfl
theorem dX2_putBlock_38 : decode cX2_putBlock 38 = .ok (.getfield 27, 3) := dc_at dkX2_putBlock_b2 3 rfl
theorem dX2_putBlock_41 : decode cX2_putBlock 41 = .ok (.iload 5, 2) := dc_at dkX2_putBlock_b2 4 rfl
theorem dX2_putBlock_43 : decode cX2_putBlock 43 = .ok (.invokestatic 114, 3) := dc_at dkX2_putBlock_b2 5 rfl
theorem dX2_putBlock_46 : decode cX2_putBlock 46 = .ok (.istore 6, 2) := dc_at dkX2_putBlock_b2 6 rfl
theorem dX2_putBlock_48 : decode cX2_putBlock 48 = .ok (.iload 6, 2) := dc_at dkX2_putBlock_b2 7 rfl
theorem dX2_putBlock_50 : decode cX2_putBlock 50 = .ok (.iload 6, 2) := dc_at dkX2_putBlock_b2 8 rfl
theorem dX2_putBlock_52 : decode cX2_putBlock 52 = .ok (.invokestatic 150, 3) := dc_at dkX2_putBlock_b2 9 rfl
def drX2_putBlock_b3 : List (Nat × (Instr × Nat)) := [(55, (.iconst 2, 1)), (56, (.irem, 1)), (57, (.ifCond .ne 9, 3)), (60, (.sipush 256, 3)), (63, (.goto 4, 3)), (66, (.iconst 0, 1)), (67, (.ior, 1)), (68, (.istore 7, 2)), (70, (.aload_n 0, 1)), (71, (.getfield 24, 3))]
theorem dkX2_putBlock_b3 : ((drX2_putBlock_b3).all fun r => decide (decode cX2_putBlock r.1 = .ok r.2)) = true := by decide +kernel
theorem dX2_putBlock_55 : decode cX2_putBlock 55 = .ok (.iconst 2, 1) := dc_at dkX2_putBlock_b3 0 rfl
theorem dX2_putBlock_56 : decode cX2_putBlock 56 = .ok (.irem, 1) := dc_at dkX2_putBlock_b3 1 rfl
theorem dX2_putBlock_57 : decode cX2_putBlock 57 = .ok (.ifCond .ne 9, 3) := dc_at dkX2_putBlock_b3 2 rfl
theorem dX2_putBlock_60 : decode cX2_putBlock 60 = .ok (.sipush 256, 3) := dc_at dkX2_putBlock_b3 3 rfl
theorem dX2_putBlock_63 : decode cX2_putBlock 63 = .ok (.goto 4, 3) := dc_at dkX2_putBlock_b3 4 rfl
theorem dX2_putBlock_66 : decode cX2_putBlock 66 = .ok (.iconst 0, 1) := dc_at dkX2_putBlock_b3 5 rfl
theorem dX2_putBlock_67 : decode cX2_putBlock 67 = .ok (.ior, 1) := dc_at dkX2_putBlock_b3 6 rfl
theorem dX2_putBlock_68 : decode cX2_putBlock 68 = .ok (.istore 7, 2) := dc_at dkX2_putBlock_b3 7 rfl
theorem dX2_putBlock_70 : decode cX2_putBlock 70 = .ok (.aload_n 0, 1) := dc_at dkX2_putBlock_b3 8 rfl
theorem dX2_putBlock_71 : decode cX2_putBlock 71 = .ok (.getfield 24, 3) := dc_at dkX2_putBlock_b3 9 rfl
def drX2_putBlock_b4 : List (Nat × (Instr × Nat)) := [(74, (.iload_n 1, 1)), (75, (.bipush 12, 2)), (77, (.imul, 1)), (78, (.iload 5, 2)), (80, (.iadd, 1)), (81, (.iload 6, 2)), (83, (.invokestatic 139, 3)), (86, (.aload_n 0, 1)), (87, (.iload_n 1, 1)), (88, (.iload 5, 2))]
theorem dkX2_putBlock_b4 : ((drX2_putBlock_b4).all fun r => decide (decode cX2_putBlock r.1 = .ok r.2)) = true := by decide +kernel
theorem dX2_putBlock_74 : decode cX2_putBlock 74 = .ok (.iload_n 1, 1) := dc_at dkX2_putBlock_b4 0 rfl
theorem dX2_putBlock_75 : decode cX2_putBlock 75 = .ok (.bipush 12, 2) := dc_at dkX2_putBlock_b4 1 rfl
theorem dX2_putBlock_77 : decode cX2_putBlock 77 = .ok (.imul, 1) := dc_at dkX2_putBlock_b4 2 rfl
theorem dX2_putBlock_78 : decode cX2_putBlock 78 = .ok (.iload 5, 2) := dc_at dkX2_putBlock_b4 3 rfl
theorem dX2_putBlock_80 : decode cX2_putBlock 80 = .ok (.iadd, 1) := dc_at dkX2_putBlock_b4 4 rfl
theorem dX2_putBlock_81 : decode cX2_putBlock 81 = .ok (.iload 6, 2) := dc_at dkX2_putBlock_b4 5 rfl
theorem dX2_putBlock_83 : decode cX2_putBlock 83 = .ok (.invokestatic 139, 3) := dc_at dkX2_putBlock_b4 6 rfl
theorem dX2_putBlock_86 : decode cX2_putBlock 86 = .ok (.aload_n 0, 1) := dc_at dkX2_putBlock_b4 7 rfl
theorem dX2_putBlock_87 : decode cX2_putBlock 87 = .ok (.iload_n 1, 1) := dc_at dkX2_putBlock_b4 8 rfl
theorem dX2_putBlock_88 : decode cX2_putBlock 88 = .ok (.iload 5, 2) := dc_at dkX2_putBlock_b4 9 rfl
def drX2_putBlock_b5 : List (Nat × (Instr × Nat)) := [(90, (.iload 7, 2)), (92, (.invokevirtual 155, 3)), (95, (.iload 4, 2)), (97, (.iload 7, 2)), (99, (.ixor, 1)), (100, (.istore 4, 2)), (102, (.iinc 5 1, 3)), (105, (.goto (-74), 3)), (108, (.aload_n 0, 1)), (109, (.iload_n 1, 1))]
theorem dkX2_putBlock_b5 : ((drX2_putBlock_b5).all fun r => decide (decode cX2_putBlock r.1 = .ok r.2)) = true := by decide +kernel
theorem dX2_putBlock_90 : decode cX2_putBlock 90 = .ok (.iload 7, 2) := dc_at dkX2_putBlock_b5 0 rfl
theorem dX2_putBlock_92 : decode cX2_putBlock 92 = .ok (.invokevirtual 155, 3) := dc_at dkX2_putBlock_b5 1 rfl
theorem dX2_putBlock_95 : decode cX2_putBlock 95 = .ok (.iload 4, 2) := dc_at dkX2_putBlock_b5 2 rfl
theorem dX2_putBlock_97 : decode cX2_putBlock 97 = .ok (.iload 7, 2) := dc_at dkX2_putBlock_b5 3 rfl
theorem dX2_putBlock_99 : decode cX2_putBlock 99 = .ok (.ixor, 1) := dc_at dkX2_putBlock_b5 4 rfl
theorem dX2_putBlock_100 : decode cX2_putBlock 100 = .ok (.istore 4, 2) := dc_at dkX2_putBlock_b5 5 rfl
theorem dX2_putBlock_102 : decode cX2_putBlock 102 = .ok (.iinc 5 1, 3) := dc_at dkX2_putBlock_b5 6 rfl
theorem dX2_putBlock_105 : decode cX2_putBlock 105 = .ok (.goto (-74), 3) := dc_at dkX2_putBlock_b5 7 rfl
theorem dX2_putBlock_108 : decode cX2_putBlock 108 = .ok (.aload_n 0, 1) := dc_at dkX2_putBlock_b5 8 rfl
theorem dX2_putBlock_109 : decode cX2_putBlock 109 = .ok (.iload_n 1, 1) := dc_at dkX2_putBlock_b5 9 rfl
def drX2_putBlock_b6 : List (Nat × (Instr × Nat)) := [(110, (.iload_n 3, 1)), (111, (.iload 4, 2)), (113, (.invokevirtual 155, 3)), (116, (.return_, 1))]
theorem dkX2_putBlock_b6 : ((drX2_putBlock_b6).all fun r => decide (decode cX2_putBlock r.1 = .ok r.2)) = true := by decide +kernel
theorem dX2_putBlock_110 : decode cX2_putBlock 110 = .ok (.iload_n 3, 1) := dc_at dkX2_putBlock_b6 0 rfl
theorem dX2_putBlock_111 : decode cX2_putBlock 111 = .ok (.iload 4, 2) := dc_at dkX2_putBlock_b6 1 rfl
theorem dX2_putBlock_113 : decode cX2_putBlock 113 = .ok (.invokevirtual 155, 3) := dc_at dkX2_putBlock_b6 2 rfl
theorem dX2_putBlock_116 : decode cX2_putBlock 116 = .ok (.return_, 1) := dc_at dkX2_putBlock_b6 3 rfl
def drX2_layOutBlocks_b0 : List (Nat × (Instr × Nat)) := [(0, (.iconst 0, 1)), (1, (.istore_n 1, 1)), (2, (.iload_n 1, 1)), (3, (.aload_n 0, 1)), (4, (.getfield 46, 3)), (7, (.if_icmp .ge 22, 3)), (10, (.aload_n 0, 1)), (11, (.getfield 15, 3)), (14, (.iload_n 1, 1)), (15, (.aload_n 0, 1))]
theorem dkX2_layOutBlocks_b0 : ((drX2_layOutBlocks_b0).all fun r => decide (decode cX2_layOutBlocks r.1 = .ok r.2)) = true := by decide +kernel
theorem dX2_layOutBlocks_0 : decode cX2_layOutBlocks 0 = .ok (.iconst 0, 1) := dc_at dkX2_layOutBlocks_b0 0 rfl
theorem dX2_layOutBlocks_1 : decode cX2_layOutBlocks 1 = .ok (.istore_n 1, 1) := dc_at dkX2_layOutBlocks_b0 1 rfl
theorem dX2_layOutBlocks_2 : decode cX2_layOutBlocks 2 = .ok (.iload_n 1, 1) := dc_at dkX2_layOutBlocks_b0 2 rfl
theorem dX2_layOutBlocks_3 : decode cX2_layOutBlocks 3 = .ok (.aload_n 0, 1) := dc_at dkX2_layOutBlocks_b0 3 rfl
theorem dX2_layOutBlocks_4 : decode cX2_layOutBlocks 4 = .ok (.getfield 46, 3) := dc_at dkX2_layOutBlocks_b0 4 rfl
theorem dX2_layOutBlocks_7 : decode cX2_layOutBlocks 7 = .ok (.if_icmp .ge 22, 3) := dc_at dkX2_layOutBlocks_b0 5 rfl
theorem dX2_layOutBlocks_10 : decode cX2_layOutBlocks 10 = .ok (.aload_n 0, 1) := dc_at dkX2_layOutBlocks_b0 6 rfl
theorem dX2_layOutBlocks_11 : decode cX2_layOutBlocks 11 = .ok (.getfield 15, 3) := dc_at dkX2_layOutBlocks_b0 7 rfl
theorem dX2_layOutBlocks_14 : decode cX2_layOutBlocks 14 = .ok (.iload_n 1, 1) := dc_at dkX2_layOutBlocks_b0 8 rfl
theorem dX2_layOutBlocks_15 : decode cX2_layOutBlocks 15 = .ok (.aload_n 0, 1) := dc_at dkX2_layOutBlocks_b0 9 rfl
def drX2_layOutBlocks_b1 : List (Nat × (Instr × Nat)) := [(16, (.iload_n 1, 1)), (17, (.invokevirtual 143, 3)), (20, (.invokestatic 139, 3)), (23, (.iinc 1 1, 3)), (26, (.goto (-24), 3)), (29, (.return_, 1))]
theorem dkX2_layOutBlocks_b1 : ((drX2_layOutBlocks_b1).all fun r => decide (decode cX2_layOutBlocks r.1 = .ok r.2)) = true := by decide +kernel
theorem dX2_layOutBlocks_16 : decode cX2_layOutBlocks 16 = .ok (.iload_n 1, 1) := dc_at dkX2_layOutBlocks_b1 0 rfl
theorem dX2_layOutBlocks_17 : decode cX2_layOutBlocks 17 = .ok (.invokevirtual 143, 3) := dc_at dkX2_layOutBlocks_b1 1 rfl
theorem dX2_layOutBlocks_20 : decode cX2_layOutBlocks 20 = .ok (.invokestatic 139, 3) := dc_at dkX2_layOutBlocks_b1 2 rfl
theorem dX2_layOutBlocks_23 : decode cX2_layOutBlocks 23 = .ok (.iinc 1 1, 3) := dc_at dkX2_layOutBlocks_b1 3 rfl
theorem dX2_layOutBlocks_26 : decode cX2_layOutBlocks 26 = .ok (.goto (-24), 3) := dc_at dkX2_layOutBlocks_b1 4 rfl
theorem dX2_layOutBlocks_29 : decode cX2_layOutBlocks 29 = .ok (.return_, 1) := dc_at dkX2_layOutBlocks_b1 5 rfl
def drX2_cutOut_b0 : List (Nat × (Instr × Nat)) := [(0, (.iconst 0, 1)), (1, (.istore_n 3, 1)), (2, (.aload_n 0, 1)), (3, (.getfield 46, 3)), (6, (.istore 4, 2)), (8, (.iconst 0, 1)), (9, (.istore 5, 2)), (11, (.iload 5, 2)), (13, (.iload 4, 2)), (15, (.if_icmp .ge 66, 3))]
theorem dkX2_cutOut_b0 : ((drX2_cutOut_b0).all fun r => decide (decode cX2_cutOut r.1 = .ok r.2)) = true := by decide +kernel
theorem dX2_cutOut_0 : decode cX2_cutOut 0 = .ok (.iconst 0, 1) := dc_at dkX2_cutOut_b0 0 rfl
theorem dX2_cutOut_1 : decode cX2_cutOut 1 = .ok (.istore_n 3, 1) := dc_at dkX2_cutOut_b0 1 rfl
theorem dX2_cutOut_2 : decode cX2_cutOut 2 = .ok (.aload_n 0, 1) := dc_at dkX2_cutOut_b0 2 rfl
theorem dX2_cutOut_3 : decode cX2_cutOut 3 = .ok (.getfield 46, 3) := dc_at dkX2_cutOut_b0 3 rfl
theorem dX2_cutOut_6 : decode cX2_cutOut 6 = .ok (.istore 4, 2) := dc_at dkX2_cutOut_b0 4 rfl
theorem dX2_cutOut_8 : decode cX2_cutOut 8 = .ok (.iconst 0, 1) := dc_at dkX2_cutOut_b0 5 rfl
theorem dX2_cutOut_9 : decode cX2_cutOut 9 = .ok (.istore 5, 2) := dc_at dkX2_cutOut_b0 6 rfl
theorem dX2_cutOut_11 : decode cX2_cutOut 11 = .ok (.iload 5, 2) := dc_at dkX2_cutOut_b0 7 rfl
theorem dX2_cutOut_13 : decode cX2_cutOut 13 = .ok (.iload 4, 2) := dc_at dkX2_cutOut_b0 8 rfl
theorem dX2_cutOut_15 : decode cX2_cutOut 15 = .ok (.if_icmp .ge 66, 3) := dc_at dkX2_cutOut_b0 9 rfl
def drX2_cutOut_b1 : List (Nat × (Instr × Nat)) := [(18, (.aload_n 0, 1)), (19, (.iload 5, 2)), (21, (.invokevirtual 130, 3)), (24, (.iload_n 2, 1)), (25, (.if_icmp .lt 7, 3)), (28, (.iconst 1, 1)), (29, (.goto 4, 3)), (32, (.iconst 0, 1)), (33, (.istore 6, 2)), (35, (.iload 6, 2))]
theorem dkX2_cutOut_b1 : ((drX2_cutOut_b1).all fun r => decide (decode cX2_cutOut r.1 = .ok r.2)) = true := by decide +kernel
theorem dX2_cutOut_18 : decode cX2_cutOut 18 = .ok (.aload_n 0, 1) := dc_at dkX2_cutOut_b1 0 rfl
theorem dX2_cutOut_19 : decode cX2_cutOut 19 = .ok (.iload 5, 2) := dc_at dkX2_cutOut_b1 1 rfl
theorem dX2_cutOut_21 : decode cX2_cutOut 21 = .ok (.invokevirtual 130, 3) := dc_at dkX2_cutOut_b1 2 rfl
theorem dX2_cutOut_24 : decode cX2_cutOut 24 = .ok (.iload_n 2, 1) := dc_at dkX2_cutOut_b1 3 rfl
theorem dX2_cutOut_25 : decode cX2_cutOut 25 = .ok (.if_icmp .lt 7, 3) := dc_at dkX2_cutOut_b1 4 rfl
theorem dX2_cutOut_28 : decode cX2_cutOut 28 = .ok (.iconst 1, 1) := dc_at dkX2_cutOut_b1 5 rfl
theorem dX2_cutOut_29 : decode cX2_cutOut 29 = .ok (.goto 4, 3) := dc_at dkX2_cutOut_b1 6 rfl
theorem dX2_cutOut_32 : decode cX2_cutOut 32 = .ok (.iconst 0, 1) := dc_at dkX2_cutOut_b1 7 rfl
theorem dX2_cutOut_33 : decode cX2_cutOut 33 = .ok (.istore 6, 2) := dc_at dkX2_cutOut_b1 8 rfl
theorem dX2_cutOut_35 : decode cX2_cutOut 35 = .ok (.iload 6, 2) := dc_at dkX2_cutOut_b1 9 rfl
def drX2_cutOut_b2 : List (Nat × (Instr × Nat)) := [(37, (.ifCond .ne 16, 3)), (40, (.aload_n 0, 1)), (41, (.iload 5, 2)), (43, (.invokevirtual 133, 3)), (46, (.iload_n 1, 1)), (47, (.if_icmp .le 6, 3)), (50, (.goto 25, 3)), (53, (.aload_n 0, 1)), (54, (.iload 5, 2)), (56, (.iload_n 3, 1))]
theorem dkX2_cutOut_b2 : ((drX2_cutOut_b2).all fun r => decide (decode cX2_cutOut r.1 = .ok r.2)) = true := by decide +kernel
theorem dX2_cutOut_37 : decode cX2_cutOut 37 = .ok (.ifCond .ne 16, 3) := dc_at dkX2_cutOut_b2 0 rfl
theorem dX2_cutOut_40 : decode cX2_cutOut 40 = .ok (.aload_n 0, 1) := dc_at dkX2_cutOut_b2 1 rfl
theorem dX2_cutOut_41 : decode cX2_cutOut 41 = .ok (.iload 5, 2) := dc_at dkX2_cutOut_b2 2 rfl
theorem dX2_cutOut_43 : decode cX2_cutOut 43 = .ok (.invokevirtual 133, 3) := dc_at dkX2_cutOut_b2 3 rfl
theorem dX2_cutOut_46 : decode cX2_cutOut 46 = .ok (.iload_n 1, 1) := dc_at dkX2_cutOut_b2 4 rfl
theorem dX2_cutOut_47 : decode cX2_cutOut 47 = .ok (.if_icmp .le 6, 3) := dc_at dkX2_cutOut_b2 5 rfl
theorem dX2_cutOut_50 : decode cX2_cutOut 50 = .ok (.goto 25, 3) := dc_at dkX2_cutOut_b2 6 rfl
theorem dX2_cutOut_53 : decode cX2_cutOut 53 = .ok (.aload_n 0, 1) := dc_at dkX2_cutOut_b2 7 rfl
theorem dX2_cutOut_54 : decode cX2_cutOut 54 = .ok (.iload 5, 2) := dc_at dkX2_cutOut_b2 8 rfl
theorem dX2_cutOut_56 : decode cX2_cutOut 56 = .ok (.iload_n 3, 1) := dc_at dkX2_cutOut_b2 9 rfl
def drX2_cutOut_b3 : List (Nat × (Instr × Nat)) := [(57, (.iload 6, 2)), (59, (.ifCond .eq 9, 3)), (62, (.iload_n 2, 1)), (63, (.iload_n 1, 1)), (64, (.isub, 1)), (65, (.goto 4, 3)), (68, (.iconst 0, 1)), (69, (.invokevirtual 158, 3)), (72, (.iinc 3 1, 3)), (75, (.iinc 5 1, 3))]
theorem dkX2_cutOut_b3 : ((drX2_cutOut_b3).all fun r => decide (decode cX2_cutOut r.1 = .ok r.2)) = true := by decide +kernel
theorem dX2_cutOut_57 : decode cX2_cutOut 57 = .ok (.iload 6, 2) := dc_at dkX2_cutOut_b3 0 rfl
theorem dX2_cutOut_59 : decode cX2_cutOut 59 = .ok (.ifCond .eq 9, 3) := dc_at dkX2_cutOut_b3 1 rfl
theorem dX2_cutOut_62 : decode cX2_cutOut 62 = .ok (.iload_n 2, 1) := dc_at dkX2_cutOut_b3 2 rfl
theorem dX2_cutOut_63 : decode cX2_cutOut 63 = .ok (.iload_n 1, 1) := dc_at dkX2_cutOut_b3 3 rfl
theorem dX2_cutOut_64 : decode cX2_cutOut 64 = .ok (.isub, 1) := dc_at dkX2_cutOut_b3 4 rfl
theorem dX2_cutOut_65 : decode cX2_cutOut 65 = .ok (.goto 4, 3) := dc_at dkX2_cutOut_b3 5 rfl
theorem dX2_cutOut_68 : decode cX2_cutOut 68 = .ok (.iconst 0, 1) := dc_at dkX2_cutOut_b3 6 rfl
theorem dX2_cutOut_69 : decode cX2_cutOut 69 = .ok (.invokevirtual 158, 3) := dc_at dkX2_cutOut_b3 7 rfl
theorem dX2_cutOut_72 : decode cX2_cutOut 72 = .ok (.iinc 3 1, 3) := dc_at dkX2_cutOut_b3 8 rfl
theorem dX2_cutOut_75 : decode cX2_cutOut 75 = .ok (.iinc 5 1, 3) := dc_at dkX2_cutOut_b3 9 rfl
def drX2_cutOut_b4 : List (Nat × (Instr × Nat)) := [(78, (.goto (-67), 3)), (81, (.aload_n 0, 1)), (82, (.iload_n 3, 1)), (83, (.putfield 46, 3)), (86, (.aload_n 0, 1)), (87, (.getfield 9, 3)), (90, (.iconst 0, 1)), (91, (.aload_n 0, 1)), (92, (.iconst 0, 1)), (93, (.invokevirtual 65, 3))]
theorem dkX2_cutOut_b4 : ((drX2_cutOut_b4).all fun r => decide (decode cX2_cutOut r.1 = .ok r.2)) = true := by decide +kernel
theorem dX2_cutOut_78 : decode cX2_cutOut 78 = .ok (.goto (-67), 3) := dc_at dkX2_cutOut_b4 0 rfl
theorem dX2_cutOut_81 : decode cX2_cutOut 81 = .ok (.aload_n 0, 1) := dc_at dkX2_cutOut_b4 1 rfl
theorem dX2_cutOut_82 : decode cX2_cutOut 82 = .ok (.iload_n 3, 1) := dc_at dkX2_cutOut_b4 2 rfl
theorem dX2_cutOut_83 : decode cX2_cutOut 83 = .ok (.putfield 46, 3) := dc_at dkX2_cutOut_b4 3 rfl
theorem dX2_cutOut_86 : decode cX2_cutOut 86 = .ok (.aload_n 0, 1) := dc_at dkX2_cutOut_b4 4 rfl
theorem dX2_cutOut_87 : decode cX2_cutOut 87 = .ok (.getfield 9, 3) := dc_at dkX2_cutOut_b4 5 rfl
theorem dX2_cutOut_90 : decode cX2_cutOut 90 = .ok (.iconst 0, 1) := dc_at dkX2_cutOut_b4 6 rfl
theorem dX2_cutOut_91 : decode cX2_cutOut 91 = .ok (.aload_n 0, 1) := dc_at dkX2_cutOut_b4 7 rfl
theorem dX2_cutOut_92 : decode cX2_cutOut 92 = .ok (.iconst 0, 1) := dc_at dkX2_cutOut_b4 8 rfl
theorem dX2_cutOut_93 : decode cX2_cutOut 93 = .ok (.invokevirtual 65, 3) := dc_at dkX2_cutOut_b4 9 rfl
def drX2_cutOut_b5 : List (Nat × (Instr × Nat)) := [(96, (.iload_n 2, 1)), (97, (.iload_n 1, 1)), (98, (.isub, 1)), (99, (.isub, 1)), (100, (.invokestatic 139, 3)), (103, (.aload_n 0, 1)), (104, (.getfield 50, 3)), (107, (.iload_n 2, 1)), (108, (.if_icmp .lt 18, 3)), (111, (.aload_n 0, 1))]
theorem dkX2_cutOut_b5 : ((drX2_cutOut_b5).all fun r => decide (decode cX2_cutOut r.1 = .ok r.2)) = true := by decide +kernel
theorem dX2_cutOut_96 : decode cX2_cutOut 96 = .ok (.iload_n 2, 1) := dc_at dkX2_cutOut_b5 0 rfl
theorem dX2_cutOut_97 : decode cX2_cutOut 97 = .ok (.iload_n 1, 1) := dc_at dkX2_cutOut_b5 1 rfl
theorem dX2_cutOut_98 : decode cX2_cutOut 98 = .ok (.isub, 1) := dc_at dkX2_cutOut_b5 2 rfl
theorem dX2_cutOut_99 : decode cX2_cutOut 99 = .ok (.isub, 1) := dc_at dkX2_cutOut_b5 3 rfl
theorem dX2_cutOut_100 : decode cX2_cutOut 100 = .ok (.invokestatic 139, 3) := dc_at dkX2_cutOut_b5 4 rfl
theorem dX2_cutOut_103 : decode cX2_cutOut 103 = .ok (.aload_n 0, 1) := dc_at dkX2_cutOut_b5 5 rfl
theorem dX2_cutOut_104 : decode cX2_cutOut 104 = .ok (.getfield 50, 3) := dc_at dkX2_cutOut_b5 6 rfl
theorem dX2_cutOut_107 : decode cX2_cutOut 107 = .ok (.iload_n 2, 1) := dc_at dkX2_cutOut_b5 7 rfl
theorem dX2_cutOut_108 : decode cX2_cutOut 108 = .ok (.if_icmp .lt 18, 3) := dc_at dkX2_cutOut_b5 8 rfl
theorem dX2_cutOut_111 : decode cX2_cutOut 111 = .ok (.aload_n 0, 1) := dc_at dkX2_cutOut_b5 9 rfl
def drX2_cutOut_b6 : List (Nat × (Instr × Nat)) := [(112, (.dup, 1)), (113, (.getfield 50, 3)), (116, (.iload_n 2, 1)), (117, (.iload_n 1, 1)), (118, (.isub, 1)), (119, (.isub, 1)), (120, (.putfield 50, 3)), (123, (.goto 16, 3)), (126, (.aload_n 0, 1)), (127, (.getfield 50, 3))]
theorem dkX2_cutOut_b6 : ((drX2_cutOut_b6).all fun r => decide (decode cX2_cutOut r.1 = .ok r.2)) = true := by decide +kernel
theorem dX2_cutOut_112 : decode cX2_cutOut 112 = .ok (.dup, 1) := dc_at dkX2_cutOut_b6 0 rfl
theorem dX2_cutOut_113 : decode cX2_cutOut 113 = .ok (.getfield 50, 3) := dc_at dkX2_cutOut_b6 1 rfl
theorem dX2_cutOut_116 : decode cX2_cutOut 116 = .ok (.iload_n 2, 1) := dc_at dkX2_cutOut_b6 2 rfl
theorem dX2_cutOut_117 : decode cX2_cutOut 117 = .ok (.iload_n 1, 1) := dc_at dkX2_cutOut_b6 3 rfl
theorem dX2_cutOut_118 : decode cX2_cutOut 118 = .ok (.isub, 1) := dc_at dkX2_cutOut_b6 4 rfl
theorem dX2_cutOut_119 : decode cX2_cutOut 119 = .ok (.isub, 1) := dc_at dkX2_cutOut_b6 5 rfl
theorem dX2_cutOut_120 : decode cX2_cutOut 120 = .ok (.putfield 50, 3) := dc_at dkX2_cutOut_b6 6 rfl
theorem dX2_cutOut_123 : decode cX2_cutOut 123 = .ok (.goto 16, 3) := dc_at dkX2_cutOut_b6 7 rfl
theorem dX2_cutOut_126 : decode cX2_cutOut 126 = .ok (.aload_n 0, 1) := dc_at dkX2_cutOut_b6 8 rfl
theorem dX2_cutOut_127 : decode cX2_cutOut 127 = .ok (.getfield 50, 3) := dc_at dkX2_cutOut_b6 9 rfl
def drX2_cutOut_b7 : List (Nat × (Instr × Nat)) := [(130, (.iload_n 1, 1)), (131, (.if_icmp .le 8, 3)), (134, (.aload_n 0, 1)), (135, (.iload_n 1, 1)), (136, (.putfield 50, 3)), (139, (.iload 4, 2)), (141, (.iload_n 3, 1)), (142, (.isub, 1)), (143, (.ireturn, 1))]
theorem dkX2_cutOut_b7 : ((drX2_cutOut_b7).all fun r => decide (decode cX2_cutOut r.1 = .ok r.2)) = true := by decide +kernel
theorem dX2_cutOut_130 : decode cX2_cutOut 130 = .ok (.iload_n 1, 1) := dc_at dkX2_cutOut_b7 0 rfl
theorem dX2_cutOut_131 : decode cX2_cutOut 131 = .ok (.if_icmp .le 8, 3) := dc_at dkX2_cutOut_b7 1 rfl
theorem dX2_cutOut_134 : decode cX2_cutOut 134 = .ok (.aload_n 0, 1) := dc_at dkX2_cutOut_b7 2 rfl
theorem dX2_cutOut_135 : decode cX2_cutOut 135 = .ok (.iload_n 1, 1) := dc_at dkX2_cutOut_b7 3 rfl
theorem dX2_cutOut_136 : decode cX2_cutOut 136 = .ok (.putfield 50, 3) := dc_at dkX2_cutOut_b7 4 rfl
theorem dX2_cutOut_139 : decode cX2_cutOut 139 = .ok (.iload 4, 2) := dc_at dkX2_cutOut_b7 5 rfl
theorem dX2_cutOut_141 : decode cX2_cutOut 141 = .ok (.iload_n 3, 1) := dc_at dkX2_cutOut_b7 6 rfl
theorem dX2_cutOut_142 : decode cX2_cutOut 142 = .ok (.isub, 1) := dc_at dkX2_cutOut_b7 7 rfl
theorem dX2_cutOut_143 : decode cX2_cutOut 143 = .ok (.ireturn, 1) := dc_at dkX2_cutOut_b7 8 rfl
def drX2_moveBlock_b0 : List (Nat × (Instr × Nat)) := [(0, (.aload_n 0, 1)), (1, (.getfield 15, 3)), (4, (.iload_n 2, 1)), (5, (.aload_n 0, 1)), (6, (.iload_n 1, 1)), (7, (.invokevirtual 130, 3)), (10, (.iload_n 3, 1)), (11, (.isub, 1)), (12, (.invokestatic 139, 3)), (15, (.aload_n 0, 1))]
theorem dkX2_moveBlock_b0 : ((drX2_moveBlock_b0).all fun r => decide (decode cX2_moveBlock r.1 = .ok r.2)) = true := by decide +kernel
theorem dX2_moveBlock_0 : decode cX2_moveBlock 0 = .ok (.aload_n 0, 1) := dc_at dkX2_moveBlock_b0 0 rfl
theorem dX2_moveBlock_1 : decode cX2_moveBlock 1 = .ok (.getfield 15, 3) := dc_at dkX2_moveBlock_b0 1 rfl
theorem dX2_moveBlock_4 : decode cX2_moveBlock 4 = .ok (.iload_n 2, 1) := dc_at dkX2_moveBlock_b0 2 rfl
theorem dX2_moveBlock_5 : decode cX2_moveBlock 5 = .ok (.aload_n 0, 1) := dc_at dkX2_moveBlock_b0 3 rfl
theorem dX2_moveBlock_6 : decode cX2_moveBlock 6 = .ok (.iload_n 1, 1) := dc_at dkX2_moveBlock_b0 4 rfl
theorem dX2_moveBlock_7 : decode cX2_moveBlock 7 = .ok (.invokevirtual 130, 3) := dc_at dkX2_moveBlock_b0 5 rfl
theorem dX2_moveBlock_10 : decode cX2_moveBlock 10 = .ok (.iload_n 3, 1) := dc_at dkX2_moveBlock_b0 6 rfl
theorem dX2_moveBlock_11 : decode cX2_moveBlock 11 = .ok (.isub, 1) := dc_at dkX2_moveBlock_b0 7 rfl
theorem dX2_moveBlock_12 : decode cX2_moveBlock 12 = .ok (.invokestatic 139, 3) := dc_at dkX2_moveBlock_b0 8 rfl
theorem dX2_moveBlock_15 : decode cX2_moveBlock 15 = .ok (.aload_n 0, 1) := dc_at dkX2_moveBlock_b0 9 rfl
def drX2_moveBlock_b1 : List (Nat × (Instr × Nat)) := [(16, (.getfield 18, 3)), (19, (.iload_n 2, 1)), (20, (.aload_n 0, 1)), (21, (.iload_n 1, 1)), (22, (.invokevirtual 118, 3)), (25, (.invokestatic 139, 3)), (28, (.iconst 0, 1)), (29, (.istore 4, 2)), (31, (.iload 4, 2)), (33, (.bipush 13, 2))]
theorem dkX2_moveBlock_b1 : ((drX2_moveBlock_b1).all fun r => decide (decode cX2_moveBlock r.1 = .ok r.2)) = true := by decide +kernel
theorem dX2_moveBlock_16 : decode cX2_moveBlock 16 = .ok (.getfield 18, 3) := dc_at dkX2_moveBlock_b1 0 rfl
theorem dX2_moveBlock_19 : decode cX2_moveBlock 19 = .ok (.iload_n 2, 1) := dc_at dkX2_moveBlock_b1 1 rfl
theorem dX2_moveBlock_20 : decode cX2_moveBlock 20 = .ok (.aload_n 0, 1) := dc_at dkX2_moveBlock_b1 2 rfl
theorem dX2_moveBlock_21 : decode cX2_moveBlock 21 = .ok (.iload_n 1, 1) := dc_at dkX2_moveBlock_b1 3 rfl
theorem dX2_moveBlock_22 : decode cX2_moveBlock 22 = .ok (.invokevirtual 118, 3) := dc_at dkX2_moveBlock_b1 4 rfl
theorem dX2_moveBlock_25 : decode cX2_moveBlock 25 = .ok (.invokestatic 139, 3) := dc_at dkX2_moveBlock_b1 5 rfl
theorem dX2_moveBlock_28 : decode cX2_moveBlock 28 = .ok (.iconst 0, 1) := dc_at dkX2_moveBlock_b1 6 rfl
theorem dX2_moveBlock_29 : decode cX2_moveBlock 29 = .ok (.istore 4, 2) := dc_at dkX2_moveBlock_b1 7 rfl
theorem dX2_moveBlock_31 : decode cX2_moveBlock 31 = .ok (.iload 4, 2) := dc_at dkX2_moveBlock_b1 8 rfl
theorem dX2_moveBlock_33 : decode cX2_moveBlock 33 = .ok (.bipush 13, 2) := dc_at dkX2_moveBlock_b1 9 rfl
def drX2_moveBlock_b2 : List (Nat × (Instr × Nat)) := [(35, (.if_icmp .ge 23, 3)), (38, (.aload_n 0, 1)), (39, (.iload_n 2, 1)), (40, (.iload 4, 2)), (42, (.aload_n 0, 1)), (43, (.iload_n 1, 1)), (44, (.iload 4, 2)), (46, (.invokevirtual 161, 3)), (49, (.invokevirtual 155, 3)), (52, (.iinc 4 1, 3))]
theorem dkX2_moveBlock_b2 : ((drX2_moveBlock_b2).all fun r => decide (decode cX2_moveBlock r.1 = .ok r.2)) = true := by decide +kernel
theorem dX2_moveBlock_35 : decode cX2_moveBlock 35 = .ok (.if_icmp .ge 23, 3) := dc_at dkX2_moveBlock_b2 0 rfl
theorem dX2_moveBlock_38 : decode cX2_moveBlock 38 = .ok (.aload_n 0, 1) := dc_at dkX2_moveBlock_b2 1 rfl
theorem dX2_moveBlock_39 : decode cX2_moveBlock 39 = .ok (.iload_n 2, 1) := dc_at dkX2_moveBlock_b2 2 rfl
theorem dX2_moveBlock_40 : decode cX2_moveBlock 40 = .ok (.iload 4, 2) := dc_at dkX2_moveBlock_b2 3 rfl
theorem dX2_moveBlock_42 : decode cX2_moveBlock 42 = .ok (.aload_n 0, 1) := dc_at dkX2_moveBlock_b2 4 rfl
theorem dX2_moveBlock_43 : decode cX2_moveBlock 43 = .ok (.iload_n 1, 1) := dc_at dkX2_moveBlock_b2 5 rfl
theorem dX2_moveBlock_44 : decode cX2_moveBlock 44 = .ok (.iload 4, 2) := dc_at dkX2_moveBlock_b2 6 rfl
theorem dX2_moveBlock_46 : decode cX2_moveBlock 46 = .ok (.invokevirtual 161, 3) := dc_at dkX2_moveBlock_b2 7 rfl
theorem dX2_moveBlock_49 : decode cX2_moveBlock 49 = .ok (.invokevirtual 155, 3) := dc_at dkX2_moveBlock_b2 8 rfl
theorem dX2_moveBlock_52 : decode cX2_moveBlock 52 = .ok (.iinc 4 1, 3) := dc_at dkX2_moveBlock_b2 9 rfl
def drX2_moveBlock_b3 : List (Nat × (Instr × Nat)) := [(55, (.goto (-24), 3)), (58, (.iconst 0, 1)), (59, (.istore 4, 2)), (61, (.iload 4, 2)), (63, (.bipush 12, 2)), (65, (.if_icmp .ge 30, 3)), (68, (.aload_n 0, 1)), (69, (.getfield 24, 3)), (72, (.iload_n 2, 1)), (73, (.bipush 12, 2))]
theorem dkX2_moveBlock_b3 : ((drX2_moveBlock_b3).all fun r => decide (decode cX2_moveBlock r.1 = .ok r.2)) = true := by decide +kernel
theorem dX2_moveBlock_55 : decode cX2_moveBlock 55 = .ok (.goto (-24), 3) := dc_at dkX2_moveBlock_b3 0 rfl
theorem dX2_moveBlock_58 : decode cX2_moveBlock 58 = .ok (.iconst 0, 1) := dc_at dkX2_moveBlock_b3 1 rfl
theorem dX2_moveBlock_59 : decode cX2_moveBlock 59 = .ok (.istore 4, 2) := dc_at dkX2_moveBlock_b3 2 rfl
theorem dX2_moveBlock_61 : decode cX2_moveBlock 61 = .ok (.iload 4, 2) := dc_at dkX2_moveBlock_b3 3 rfl
theorem dX2_moveBlock_63 : decode cX2_moveBlock 63 = .ok (.bipush 12, 2) := dc_at dkX2_moveBlock_b3 4 rfl
theorem dX2_moveBlock_65 : decode cX2_moveBlock 65 = .ok (.if_icmp .ge 30, 3) := dc_at dkX2_moveBlock_b3 5 rfl
theorem dX2_moveBlock_68 : decode cX2_moveBlock 68 = .ok (.aload_n 0, 1) := dc_at dkX2_moveBlock_b3 6 rfl
theorem dX2_moveBlock_69 : decode cX2_moveBlock 69 = .ok (.getfield 24, 3) := dc_at dkX2_moveBlock_b3 7 rfl
theorem dX2_moveBlock_72 : decode cX2_moveBlock 72 = .ok (.iload_n 2, 1) := dc_at dkX2_moveBlock_b3 8 rfl
theorem dX2_moveBlock_73 : decode cX2_moveBlock 73 = .ok (.bipush 12, 2) := dc_at dkX2_moveBlock_b3 9 rfl
def drX2_moveBlock_b4 : List (Nat × (Instr × Nat)) := [(75, (.imul, 1)), (76, (.iload 4, 2)), (78, (.iadd, 1)), (79, (.aload_n 0, 1)), (80, (.iload_n 1, 1)), (81, (.iload 4, 2)), (83, (.invokevirtual 164, 3)), (86, (.invokestatic 139, 3)), (89, (.iinc 4 1, 3)), (92, (.goto (-31), 3))]
theorem dkX2_moveBlock_b4 : ((drX2_moveBlock_b4).all fun r => decide (decode cX2_moveBlock r.1 = .ok r.2)) = true := by decide +kernel
theorem dX2_moveBlock_75 : decode cX2_moveBlock 75 = .ok (.imul, 1) := dc_at dkX2_moveBlock_b4 0 rfl
theorem dX2_moveBlock_76 : decode cX2_moveBlock 76 = .ok (.iload 4, 2) := dc_at dkX2_moveBlock_b4 1 rfl
theorem dX2_moveBlock_78 : decode cX2_moveBlock 78 = .ok (.iadd, 1) := dc_at dkX2_moveBlock_b4 2 rfl
theorem dX2_moveBlock_79 : decode cX2_moveBlock 79 = .ok (.aload_n 0, 1) := dc_at dkX2_moveBlock_b4 3 rfl
theorem dX2_moveBlock_80 : decode cX2_moveBlock 80 = .ok (.iload_n 1, 1) := dc_at dkX2_moveBlock_b4 4 rfl
theorem dX2_moveBlock_81 : decode cX2_moveBlock 81 = .ok (.iload 4, 2) := dc_at dkX2_moveBlock_b4 5 rfl
theorem dX2_moveBlock_83 : decode cX2_moveBlock 83 = .ok (.invokevirtual 164, 3) := dc_at dkX2_moveBlock_b4 6 rfl
theorem dX2_moveBlock_86 : decode cX2_moveBlock 86 = .ok (.invokestatic 139, 3) := dc_at dkX2_moveBlock_b4 7 rfl
theorem dX2_moveBlock_89 : decode cX2_moveBlock 89 = .ok (.iinc 4 1, 3) := dc_at dkX2_moveBlock_b4 8 rfl
theorem dX2_moveBlock_92 : decode cX2_moveBlock 92 = .ok (.goto (-31), 3) := dc_at dkX2_moveBlock_b4 9 rfl
def drX2_moveBlock_b5 : List (Nat × (Instr × Nat)) := [(95, (.return_, 1))]
theorem dkX2_moveBlock_b5 : ((drX2_moveBlock_b5).all fun r => decide (decode cX2_moveBlock r.1 = .ok r.2)) = true := by decide +kernel
theorem dX2_moveBlock_95 : decode cX2_moveBlock 95 = .ok (.return_, 1) := dc_at dkX2_moveBlock_b5 0 rfl
def drX2_hasColumn_b0 : List (Nat × (Instr × Nat)) := [(0, (.aload_n 0, 1)), (1, (.iload_n 1, 1)), (2, (.invokevirtual 127, 3)), (5, (.ifCond .eq 28, 3)), (8, (.aload_n 0, 1)), (9, (.iload_n 1, 1)), (10, (.invokevirtual 136, 3)), (13, (.ifCond .ne 20, 3)), (16, (.iload_n 2, 1)), (17, (.iconst 0, 1))]
theorem dkX2_hasColumn_b0 : ((drX2_hasColumn_b0).all fun r => decide (decode cX2_hasColumn r.1 = .ok r.2)) = true := by decide +kernel
theorem dX2_hasColumn_0 : decode cX2_hasColumn 0 = .ok (.aload_n 0, 1) := dc_at dkX2_hasColumn_b0 0 rfl
theorem dX2_hasColumn_1 : decode cX2_hasColumn 1 = .ok (.iload_n 1, 1) := dc_at dkX2_hasColumn_b0 1 rfl
theorem dX2_hasColumn_2 : decode cX2_hasColumn 2 = .ok (.invokevirtual 127, 3) := dc_at dkX2_hasColumn_b0 2 rfl
theorem dX2_hasColumn_5 : decode cX2_hasColumn 5 = .ok (.ifCond .eq 28, 3) := dc_at dkX2_hasColumn_b0 3 rfl
theorem dX2_hasColumn_8 : decode cX2_hasColumn 8 = .ok (.aload_n 0, 1) := dc_at dkX2_hasColumn_b0 4 rfl
theorem dX2_hasColumn_9 : decode cX2_hasColumn 9 = .ok (.iload_n 1, 1) := dc_at dkX2_hasColumn_b0 5 rfl
theorem dX2_hasColumn_10 : decode cX2_hasColumn 10 = .ok (.invokevirtual 136, 3) := dc_at dkX2_hasColumn_b0 6 rfl
theorem dX2_hasColumn_13 : decode cX2_hasColumn 13 = .ok (.ifCond .ne 20, 3) := dc_at dkX2_hasColumn_b0 7 rfl
theorem dX2_hasColumn_16 : decode cX2_hasColumn 16 = .ok (.iload_n 2, 1) := dc_at dkX2_hasColumn_b0 8 rfl
theorem dX2_hasColumn_17 : decode cX2_hasColumn 17 = .ok (.iconst 0, 1) := dc_at dkX2_hasColumn_b0 9 rfl
def drX2_hasColumn_b1 : List (Nat × (Instr × Nat)) := [(18, (.aload_n 0, 1)), (19, (.iload_n 1, 1)), (20, (.invokevirtual 118, 3)), (23, (.invokestatic 69, 3)), (26, (.ifCond .eq 7, 3)), (29, (.iconst 1, 1)), (30, (.goto 4, 3)), (33, (.iconst 0, 1)), (34, (.ireturn, 1))]
theorem dkX2_hasColumn_b1 : ((drX2_hasColumn_b1).all fun r => decide (decode cX2_hasColumn r.1 = .ok r.2)) = true := by decide +kernel
theorem dX2_hasColumn_18 : decode cX2_hasColumn 18 = .ok (.aload_n 0, 1) := dc_at dkX2_hasColumn_b1 0 rfl
theorem dX2_hasColumn_19 : decode cX2_hasColumn 19 = .ok (.iload_n 1, 1) := dc_at dkX2_hasColumn_b1 1 rfl
theorem dX2_hasColumn_20 : decode cX2_hasColumn 20 = .ok (.invokevirtual 118, 3) := dc_at dkX2_hasColumn_b1 2 rfl
theorem dX2_hasColumn_23 : decode cX2_hasColumn 23 = .ok (.invokestatic 69, 3) := dc_at dkX2_hasColumn_b1 3 rfl
theorem dX2_hasColumn_26 : decode cX2_hasColumn 26 = .ok (.ifCond .eq 7, 3) := dc_at dkX2_hasColumn_b1 4 rfl
theorem dX2_hasColumn_29 : decode cX2_hasColumn 29 = .ok (.iconst 1, 1) := dc_at dkX2_hasColumn_b1 5 rfl
theorem dX2_hasColumn_30 : decode cX2_hasColumn 30 = .ok (.goto 4, 3) := dc_at dkX2_hasColumn_b1 6 rfl
theorem dX2_hasColumn_33 : decode cX2_hasColumn 33 = .ok (.iconst 0, 1) := dc_at dkX2_hasColumn_b1 7 rfl
theorem dX2_hasColumn_34 : decode cX2_hasColumn 34 = .ok (.ireturn, 1) := dc_at dkX2_hasColumn_b1 8 rfl
def drX2_columnOf_b0 : List (Nat × (Instr × Nat)) := [(0, (.aload_n 0, 1)), (1, (.getfield 21, 3)), (4, (.iload_n 1, 1)), (5, (.bipush 13, 2)), (7, (.imul, 1)), (8, (.iload_n 2, 1)), (9, (.iadd, 1)), (10, (.invokestatic 114, 3)), (13, (.ireturn, 1))]
theorem dkX2_columnOf_b0 : ((drX2_columnOf_b0).all fun r => decide (decode cX2_columnOf r.1 = .ok r.2)) = true := by decide +kernel
theorem dX2_columnOf_0 : decode cX2_columnOf 0 = .ok (.aload_n 0, 1) := dc_at dkX2_columnOf_b0 0 rfl
theorem dX2_columnOf_1 : decode cX2_columnOf 1 = .ok (.getfield 21, 3) := dc_at dkX2_columnOf_b0 1 rfl
theorem dX2_columnOf_4 : decode cX2_columnOf 4 = .ok (.iload_n 1, 1) := dc_at dkX2_columnOf_b0 2 rfl
theorem dX2_columnOf_5 : decode cX2_columnOf 5 = .ok (.bipush 13, 2) := dc_at dkX2_columnOf_b0 3 rfl
theorem dX2_columnOf_7 : decode cX2_columnOf 7 = .ok (.imul, 1) := dc_at dkX2_columnOf_b0 4 rfl
theorem dX2_columnOf_8 : decode cX2_columnOf 8 = .ok (.iload_n 2, 1) := dc_at dkX2_columnOf_b0 5 rfl
theorem dX2_columnOf_9 : decode cX2_columnOf 9 = .ok (.iadd, 1) := dc_at dkX2_columnOf_b0 6 rfl
theorem dX2_columnOf_10 : decode cX2_columnOf 10 = .ok (.invokestatic 114, 3) := dc_at dkX2_columnOf_b0 7 rfl
theorem dX2_columnOf_13 : decode cX2_columnOf 13 = .ok (.ireturn, 1) := dc_at dkX2_columnOf_b0 8 rfl
def drX2_setColumn_b0 : List (Nat × (Instr × Nat)) := [(0, (.aload_n 0, 1)), (1, (.getfield 21, 3)), (4, (.iload_n 1, 1)), (5, (.bipush 13, 2)), (7, (.imul, 1)), (8, (.iload_n 2, 1)), (9, (.iadd, 1)), (10, (.iload_n 3, 1)), (11, (.invokestatic 139, 3)), (14, (.return_, 1))]
theorem dkX2_setColumn_b0 : ((drX2_setColumn_b0).all fun r => decide (decode cX2_setColumn r.1 = .ok r.2)) = true := by decide +kernel
theorem dX2_setColumn_0 : decode cX2_setColumn 0 = .ok (.aload_n 0, 1) := dc_at dkX2_setColumn_b0 0 rfl
theorem dX2_setColumn_1 : decode cX2_setColumn 1 = .ok (.getfield 21, 3) := dc_at dkX2_setColumn_b0 1 rfl
theorem dX2_setColumn_4 : decode cX2_setColumn 4 = .ok (.iload_n 1, 1) := dc_at dkX2_setColumn_b0 2 rfl
theorem dX2_setColumn_5 : decode cX2_setColumn 5 = .ok (.bipush 13, 2) := dc_at dkX2_setColumn_b0 3 rfl
theorem dX2_setColumn_7 : decode cX2_setColumn 7 = .ok (.imul, 1) := dc_at dkX2_setColumn_b0 4 rfl
theorem dX2_setColumn_8 : decode cX2_setColumn 8 = .ok (.iload_n 2, 1) := dc_at dkX2_setColumn_b0 5 rfl
theorem dX2_setColumn_9 : decode cX2_setColumn 9 = .ok (.iadd, 1) := dc_at dkX2_setColumn_b0 6 rfl
theorem dX2_setColumn_10 : decode cX2_setColumn 10 = .ok (.iload_n 3, 1) := dc_at dkX2_setColumn_b0 7 rfl
theorem dX2_setColumn_11 : decode cX2_setColumn 11 = .ok (.invokestatic 139, 3) := dc_at dkX2_setColumn_b0 8 rfl
theorem dX2_setColumn_14 : decode cX2_setColumn 14 = .ok (.return_, 1) := dc_at dkX2_setColumn_b0 9 rfl
def drX2_turnBit_b0 : List (Nat × (Instr × Nat)) := [(0, (.aload_n 0, 1)), (1, (.iload_n 1, 1)), (2, (.iload_n 2, 1)), (3, (.aload_n 0, 1)), (4, (.iload_n 1, 1)), (5, (.iload_n 2, 1)), (6, (.invokevirtual 161, 3)), (9, (.iconst 1, 1)), (10, (.iload_n 3, 1)), (11, (.ishl, 1))]
theorem dkX2_turnBit_b0 : ((drX2_turnBit_b0).all fun r => decide (decode cX2_turnBit r.1 = .ok r.2)) = true := by decide +kernel
theorem dX2_turnBit_0 : decode cX2_turnBit 0 = .ok (.aload_n 0, 1) := dc_at dkX2_turnBit_b0 0 rfl
theorem dX2_turnBit_1 : decode cX2_turnBit 1 = .ok (.iload_n 1, 1) := dc_at dkX2_turnBit_b0 1 rfl
theorem dX2_turnBit_2 : decode cX2_turnBit 2 = .ok (.iload_n 2, 1) := dc_at dkX2_turnBit_b0 2 rfl
theorem dX2_turnBit_3 : decode cX2_turnBit 3 = .ok (.aload_n 0, 1) := dc_at dkX2_turnBit_b0 3 rfl
theorem dX2_turnBit_4 : decode cX2_turnBit 4 = .ok (.iload_n 1, 1) := dc_at dkX2_turnBit_b0 4 rfl
theorem dX2_turnBit_5 : decode cX2_turnBit 5 = .ok (.iload_n 2, 1) := dc_at dkX2_turnBit_b0 5 rfl
theorem dX2_turnBit_6 : decode cX2_turnBit 6 = .ok (.invokevirtual 161, 3) := dc_at dkX2_turnBit_b0 6 rfl
theorem dX2_turnBit_9 : decode cX2_turnBit 9 = .ok (.iconst 1, 1) := dc_at dkX2_turnBit_b0 7 rfl
theorem dX2_turnBit_10 : decode cX2_turnBit 10 = .ok (.iload_n 3, 1) := dc_at dkX2_turnBit_b0 8 rfl
theorem dX2_turnBit_11 : decode cX2_turnBit 11 = .ok (.ishl, 1) := dc_at dkX2_turnBit_b0 9 rfl
def drX2_turnBit_b1 : List (Nat × (Instr × Nat)) := [(12, (.ixor, 1)), (13, (.invokevirtual 155, 3)), (16, (.aload_n 0, 1)), (17, (.iload_n 1, 1)), (18, (.iload_n 2, 1)), (19, (.invokevirtual 161, 3)), (22, (.ireturn, 1))]
theorem dkX2_turnBit_b1 : ((drX2_turnBit_b1).all fun r => decide (decode cX2_turnBit r.1 = .ok r.2)) = true := by decide +kernel
theorem dX2_turnBit_12 : decode cX2_turnBit 12 = .ok (.ixor, 1) := dc_at dkX2_turnBit_b1 0 rfl
theorem dX2_turnBit_13 : decode cX2_turnBit 13 = .ok (.invokevirtual 155, 3) := dc_at dkX2_turnBit_b1 1 rfl
theorem dX2_turnBit_16 : decode cX2_turnBit 16 = .ok (.aload_n 0, 1) := dc_at dkX2_turnBit_b1 2 rfl
theorem dX2_turnBit_17 : decode cX2_turnBit 17 = .ok (.iload_n 1, 1) := dc_at dkX2_turnBit_b1 3 rfl
theorem dX2_turnBit_18 : decode cX2_turnBit 18 = .ok (.iload_n 2, 1) := dc_at dkX2_turnBit_b1 4 rfl
theorem dX2_turnBit_19 : decode cX2_turnBit 19 = .ok (.invokevirtual 161, 3) := dc_at dkX2_turnBit_b1 5 rfl
theorem dX2_turnBit_22 : decode cX2_turnBit 22 = .ok (.ireturn, 1) := dc_at dkX2_turnBit_b1 6 rfl
def drX2_originalOf_b0 : List (Nat × (Instr × Nat)) := [(0, (.aload_n 0, 1)), (1, (.getfield 24, 3)), (4, (.iload_n 1, 1)), (5, (.bipush 12, 2)), (7, (.imul, 1)), (8, (.iload_n 2, 1)), (9, (.iadd, 1)), (10, (.invokestatic 114, 3)), (13, (.ireturn, 1))]
theorem dkX2_originalOf_b0 : ((drX2_originalOf_b0).all fun r => decide (decode cX2_originalOf r.1 = .ok r.2)) = true := by decide +kernel
theorem dX2_originalOf_0 : decode cX2_originalOf 0 = .ok (.aload_n 0, 1) := dc_at dkX2_originalOf_b0 0 rfl
theorem dX2_originalOf_1 : decode cX2_originalOf 1 = .ok (.getfield 24, 3) := dc_at dkX2_originalOf_b0 1 rfl
theorem dX2_originalOf_4 : decode cX2_originalOf 4 = .ok (.iload_n 1, 1) := dc_at dkX2_originalOf_b0 2 rfl
theorem dX2_originalOf_5 : decode cX2_originalOf 5 = .ok (.bipush 12, 2) := dc_at dkX2_originalOf_b0 3 rfl
theorem dX2_originalOf_7 : decode cX2_originalOf 7 = .ok (.imul, 1) := dc_at dkX2_originalOf_b0 4 rfl
theorem dX2_originalOf_8 : decode cX2_originalOf 8 = .ok (.iload_n 2, 1) := dc_at dkX2_originalOf_b0 5 rfl
theorem dX2_originalOf_9 : decode cX2_originalOf 9 = .ok (.iadd, 1) := dc_at dkX2_originalOf_b0 6 rfl
theorem dX2_originalOf_10 : decode cX2_originalOf 10 = .ok (.invokestatic 114, 3) := dc_at dkX2_originalOf_b0 7 rfl
theorem dX2_originalOf_13 : decode cX2_originalOf 13 = .ok (.ireturn, 1) := dc_at dkX2_originalOf_b0 8 rfl
def drX2_isWrongAlong_b0 : List (Nat × (Instr × Nat)) := [(0, (.aload_n 0, 1)), (1, (.iload_n 1, 1)), (2, (.iload_n 2, 1)), (3, (.invokevirtual 161, 3)), (6, (.invokestatic 150, 3)), (9, (.iconst 2, 1)), (10, (.irem, 1)), (11, (.ifCond .ne 7, 3)), (14, (.iconst 1, 1)), (15, (.goto 4, 3))]
theorem dkX2_isWrongAlong_b0 : ((drX2_isWrongAlong_b0).all fun r => decide (decode cX2_isWrongAlong r.1 = .ok r.2)) = true := by decide +kernel
theorem dX2_isWrongAlong_0 : decode cX2_isWrongAlong 0 = .ok (.aload_n 0, 1) := dc_at dkX2_isWrongAlong_b0 0 rfl
theorem dX2_isWrongAlong_1 : decode cX2_isWrongAlong 1 = .ok (.iload_n 1, 1) := dc_at dkX2_isWrongAlong_b0 1 rfl
theorem dX2_isWrongAlong_2 : decode cX2_isWrongAlong 2 = .ok (.iload_n 2, 1) := dc_at dkX2_isWrongAlong_b0 2 rfl
theorem dX2_isWrongAlong_3 : decode cX2_isWrongAlong 3 = .ok (.invokevirtual 161, 3) := dc_at dkX2_isWrongAlong_b0 3 rfl
theorem dX2_isWrongAlong_6 : decode cX2_isWrongAlong 6 = .ok (.invokestatic 150, 3) := dc_at dkX2_isWrongAlong_b0 4 rfl
theorem dX2_isWrongAlong_9 : decode cX2_isWrongAlong 9 = .ok (.iconst 2, 1) := dc_at dkX2_isWrongAlong_b0 5 rfl
theorem dX2_isWrongAlong_10 : decode cX2_isWrongAlong 10 = .ok (.irem, 1) := dc_at dkX2_isWrongAlong_b0 6 rfl
theorem dX2_isWrongAlong_11 : decode cX2_isWrongAlong 11 = .ok (.ifCond .ne 7, 3) := dc_at dkX2_isWrongAlong_b0 7 rfl
theorem dX2_isWrongAlong_14 : decode cX2_isWrongAlong 14 = .ok (.iconst 1, 1) := dc_at dkX2_isWrongAlong_b0 8 rfl
theorem dX2_isWrongAlong_15 : decode cX2_isWrongAlong 15 = .ok (.goto 4, 3) := dc_at dkX2_isWrongAlong_b0 9 rfl
def drX2_isWrongAlong_b1 : List (Nat × (Instr × Nat)) := [(18, (.iconst 0, 1)), (19, (.ireturn, 1))]
theorem dkX2_isWrongAlong_b1 : ((drX2_isWrongAlong_b1).all fun r => decide (decode cX2_isWrongAlong r.1 = .ok r.2)) = true := by decide +kernel
theorem dX2_isWrongAlong_18 : decode cX2_isWrongAlong 18 = .ok (.iconst 0, 1) := dc_at dkX2_isWrongAlong_b1 0 rfl
theorem dX2_isWrongAlong_19 : decode cX2_isWrongAlong 19 = .ok (.ireturn, 1) := dc_at dkX2_isWrongAlong_b1 1 rfl
def drX2_wrongAlongCount_b0 : List (Nat × (Instr × Nat)) := [(0, (.iconst 0, 1)), (1, (.istore_n 2, 1)), (2, (.iconst 0, 1)), (3, (.istore_n 3, 1)), (4, (.iload_n 3, 1)), (5, (.aload_n 0, 1)), (6, (.iload_n 1, 1)), (7, (.invokevirtual 118, 3)), (10, (.if_icmp .ge 21, 3)), (13, (.aload_n 0, 1))]
theorem dkX2_wrongAlongCount_b0 : ((drX2_wrongAlongCount_b0).all fun r => decide (decode cX2_wrongAlongCount r.1 = .ok r.2)) = true := by decide +kernel
theorem dX2_wrongAlongCount_0 : decode cX2_wrongAlongCount 0 = .ok (.iconst 0, 1) := dc_at dkX2_wrongAlongCount_b0 0 rfl
theorem dX2_wrongAlongCount_1 : decode cX2_wrongAlongCount 1 = .ok (.istore_n 2, 1) := dc_at dkX2_wrongAlongCount_b0 1 rfl
theorem dX2_wrongAlongCount_2 : decode cX2_wrongAlongCount 2 = .ok (.iconst 0, 1) := dc_at dkX2_wrongAlongCount_b0 2 rfl
theorem dX2_wrongAlongCount_3 : decode cX2_wrongAlongCount 3 = .ok (.istore_n 3, 1) := dc_at dkX2_wrongAlongCount_b0 3 rfl
theorem dX2_wrongAlongCount_4 : decode cX2_wrongAlongCount 4 = .ok (.iload_n 3, 1) := dc_at dkX2_wrongAlongCount_b0 4 rfl
theorem dX2_wrongAlongCount_5 : decode cX2_wrongAlongCount 5 = .ok (.aload_n 0, 1) := dc_at dkX2_wrongAlongCount_b0 5 rfl
theorem dX2_wrongAlongCount_6 : decode cX2_wrongAlongCount 6 = .ok (.iload_n 1, 1) := dc_at dkX2_wrongAlongCount_b0 6 rfl
theorem dX2_wrongAlongCount_7 : decode cX2_wrongAlongCount 7 = .ok (.invokevirtual 118, 3) := dc_at dkX2_wrongAlongCount_b0 7 rfl
theorem dX2_wrongAlongCount_10 : decode cX2_wrongAlongCount 10 = .ok (.if_icmp .ge 21, 3) := dc_at dkX2_wrongAlongCount_b0 8 rfl
theorem dX2_wrongAlongCount_13 : decode cX2_wrongAlongCount 13 = .ok (.aload_n 0, 1) := dc_at dkX2_wrongAlongCount_b0 9 rfl
def drX2_wrongAlongCount_b1 : List (Nat × (Instr × Nat)) := [(14, (.iload_n 1, 1)), (15, (.iload_n 3, 1)), (16, (.invokevirtual 167, 3)), (19, (.ifCond .eq 6, 3)), (22, (.iinc 2 1, 3)), (25, (.iinc 3 1, 3)), (28, (.goto (-24), 3)), (31, (.iload_n 2, 1)), (32, (.ireturn, 1))]
theorem dkX2_wrongAlongCount_b1 : ((drX2_wrongAlongCount_b1).all fun r => decide (decode cX2_wrongAlongCount r.1 = .ok r.2)) = true := by decide +kernel
theorem dX2_wrongAlongCount_14 : decode cX2_wrongAlongCount 14 = .ok (.iload_n 1, 1) := dc_at dkX2_wrongAlongCount_b1 0 rfl
theorem dX2_wrongAlongCount_15 : decode cX2_wrongAlongCount 15 = .ok (.iload_n 3, 1) := dc_at dkX2_wrongAlongCount_b1 1 rfl
theorem dX2_wrongAlongCount_16 : decode cX2_wrongAlongCount 16 = .ok (.invokevirtual 167, 3) := dc_at dkX2_wrongAlongCount_b1 2 rfl
theorem dX2_wrongAlongCount_19 : decode cX2_wrongAlongCount 19 = .ok (.ifCond .eq 6, 3) := dc_at dkX2_wrongAlongCount_b1 3 rfl
theorem dX2_wrongAlongCount_22 : decode cX2_wrongAlongCount 22 = .ok (.iinc 2 1, 3) := dc_at dkX2_wrongAlongCount_b1 4 rfl
theorem dX2_wrongAlongCount_25 : decode cX2_wrongAlongCount 25 = .ok (.iinc 3 1, 3) := dc_at dkX2_wrongAlongCount_b1 5 rfl
theorem dX2_wrongAlongCount_28 : decode cX2_wrongAlongCount 28 = .ok (.goto (-24), 3) := dc_at dkX2_wrongAlongCount_b1 6 rfl
theorem dX2_wrongAlongCount_31 : decode cX2_wrongAlongCount 31 = .ok (.iload_n 2, 1) := dc_at dkX2_wrongAlongCount_b1 7 rfl
theorem dX2_wrongAlongCount_32 : decode cX2_wrongAlongCount 32 = .ok (.ireturn, 1) := dc_at dkX2_wrongAlongCount_b1 8 rfl
def drX2_wrongAcross_b0 : List (Nat × (Instr × Nat)) := [(0, (.aload_n 0, 1)), (1, (.iload_n 1, 1)), (2, (.invokevirtual 118, 3)), (5, (.istore_n 2, 1)), (6, (.iconst 0, 1)), (7, (.istore_n 3, 1)), (8, (.iconst 0, 1)), (9, (.istore 4, 2)), (11, (.iload_n 2, 1)), (12, (.ifCond .le 25, 3))]
theorem dkX2_wrongAcross_b0 : ((drX2_wrongAcross_b0).all fun r => decide (decode cX2_wrongAcross r.1 = .ok r.2)) = true := by decide +kernel
theorem dX2_wrongAcross_0 : decode cX2_wrongAcross 0 = .ok (.aload_n 0, 1) := dc_at dkX2_wrongAcross_b0 0 rfl
theorem dX2_wrongAcross_1 : decode cX2_wrongAcross 1 = .ok (.iload_n 1, 1) := dc_at dkX2_wrongAcross_b0 1 rfl
theorem dX2_wrongAcross_2 : decode cX2_wrongAcross 2 = .ok (.invokevirtual 118, 3) := dc_at dkX2_wrongAcross_b0 2 rfl
theorem dX2_wrongAcross_5 : decode cX2_wrongAcross 5 = .ok (.istore_n 2, 1) := dc_at dkX2_wrongAcross_b0 3 rfl
theorem dX2_wrongAcross_6 : decode cX2_wrongAcross 6 = .ok (.iconst 0, 1) := dc_at dkX2_wrongAcross_b0 4 rfl
theorem dX2_wrongAcross_7 : decode cX2_wrongAcross 7 = .ok (.istore_n 3, 1) := dc_at dkX2_wrongAcross_b0 5 rfl
theorem dX2_wrongAcross_8 : decode cX2_wrongAcross 8 = .ok (.iconst 0, 1) := dc_at dkX2_wrongAcross_b0 6 rfl
theorem dX2_wrongAcross_9 : decode cX2_wrongAcross 9 = .ok (.istore 4, 2) := dc_at dkX2_wrongAcross_b0 7 rfl
theorem dX2_wrongAcross_11 : decode cX2_wrongAcross 11 = .ok (.iload_n 2, 1) := dc_at dkX2_wrongAcross_b0 8 rfl
theorem dX2_wrongAcross_12 : decode cX2_wrongAcross 12 = .ok (.ifCond .le 25, 3) := dc_at dkX2_wrongAcross_b0 9 rfl
def drX2_wrongAcross_b1 : List (Nat × (Instr × Nat)) := [(15, (.iload 4, 2)), (17, (.iload_n 2, 1)), (18, (.if_icmp .gt 19, 3)), (21, (.iload_n 3, 1)), (22, (.aload_n 0, 1)), (23, (.iload_n 1, 1)), (24, (.iload 4, 2)), (26, (.invokevirtual 161, 3)), (29, (.ixor, 1)), (30, (.istore_n 3, 1))]
theorem dkX2_wrongAcross_b1 : ((drX2_wrongAcross_b1).all fun r => decide (decode cX2_wrongAcross r.1 = .ok r.2)) = true := by decide +kernel
theorem dX2_wrongAcross_15 : decode cX2_wrongAcross 15 = .ok (.iload 4, 2) := dc_at dkX2_wrongAcross_b1 0 rfl
theorem dX2_wrongAcross_17 : decode cX2_wrongAcross 17 = .ok (.iload_n 2, 1) := dc_at dkX2_wrongAcross_b1 1 rfl
theorem dX2_wrongAcross_18 : decode cX2_wrongAcross 18 = .ok (.if_icmp .gt 19, 3) := dc_at dkX2_wrongAcross_b1 2 rfl
theorem dX2_wrongAcross_21 : decode cX2_wrongAcross 21 = .ok (.iload_n 3, 1) := dc_at dkX2_wrongAcross_b1 3 rfl
theorem dX2_wrongAcross_22 : decode cX2_wrongAcross 22 = .ok (.aload_n 0, 1) := dc_at dkX2_wrongAcross_b1 4 rfl
theorem dX2_wrongAcross_23 : decode cX2_wrongAcross 23 = .ok (.iload_n 1, 1) := dc_at dkX2_wrongAcross_b1 5 rfl
theorem dX2_wrongAcross_24 : decode cX2_wrongAcross 24 = .ok (.iload 4, 2) := dc_at dkX2_wrongAcross_b1 6 rfl
theorem dX2_wrongAcross_26 : decode cX2_wrongAcross 26 = .ok (.invokevirtual 161, 3) := dc_at dkX2_wrongAcross_b1 7 rfl
theorem dX2_wrongAcross_29 : decode cX2_wrongAcross 29 = .ok (.ixor, 1) := dc_at dkX2_wrongAcross_b1 8 rfl
theorem dX2_wrongAcross_30 : decode cX2_wrongAcross 30 = .ok (.istore_n 3, 1) := dc_at dkX2_wrongAcross_b1 9 rfl
def drX2_wrongAcross_b2 : List (Nat × (Instr × Nat)) := [(31, (.iinc 4 1, 3)), (34, (.goto (-23), 3)), (37, (.iload_n 3, 1)), (38, (.ireturn, 1))]
theorem dkX2_wrongAcross_b2 : ((drX2_wrongAcross_b2).all fun r => decide (decode cX2_wrongAcross r.1 = .ok r.2)) = true := by decide +kernel
theorem dX2_wrongAcross_31 : decode cX2_wrongAcross 31 = .ok (.iinc 4 1, 3) := dc_at dkX2_wrongAcross_b2 0 rfl
theorem dX2_wrongAcross_34 : decode cX2_wrongAcross 34 = .ok (.goto (-23), 3) := dc_at dkX2_wrongAcross_b2 1 rfl
theorem dX2_wrongAcross_37 : decode cX2_wrongAcross 37 = .ok (.iload_n 3, 1) := dc_at dkX2_wrongAcross_b2 2 rfl
theorem dX2_wrongAcross_38 : decode cX2_wrongAcross 38 = .ok (.ireturn, 1) := dc_at dkX2_wrongAcross_b2 3 rfl
def drX2_readingOf_b0 : List (Nat × (Instr × Nat)) := [(0, (.aload_n 0, 1)), (1, (.iload_n 1, 1)), (2, (.invokevirtual 171, 3)), (5, (.istore_n 3, 1)), (6, (.aload_n 0, 1)), (7, (.iload_n 1, 1)), (8, (.invokevirtual 174, 3)), (11, (.istore 4, 2)), (13, (.iload_n 3, 1)), (14, (.ifCond .ne 10, 3))]
theorem dkX2_readingOf_b0 : ((drX2_readingOf_b0).all fun r => decide (decode cX2_readingOf r.1 = .ok r.2)) = true := by decide +kernel
theorem dX2_readingOf_0 : decode cX2_readingOf 0 = .ok (.aload_n 0, 1) := dc_at dkX2_readingOf_b0 0 rfl
theorem dX2_readingOf_1 : decode cX2_readingOf 1 = .ok (.iload_n 1, 1) := dc_at dkX2_readingOf_b0 1 rfl
theorem dX2_readingOf_2 : decode cX2_readingOf 2 = .ok (.invokevirtual 171, 3) := dc_at dkX2_readingOf_b0 2 rfl
theorem dX2_readingOf_5 : decode cX2_readingOf 5 = .ok (.istore_n 3, 1) := dc_at dkX2_readingOf_b0 3 rfl
theorem dX2_readingOf_6 : decode cX2_readingOf 6 = .ok (.aload_n 0, 1) := dc_at dkX2_readingOf_b0 4 rfl
theorem dX2_readingOf_7 : decode cX2_readingOf 7 = .ok (.iload_n 1, 1) := dc_at dkX2_readingOf_b0 5 rfl
theorem dX2_readingOf_8 : decode cX2_readingOf 8 = .ok (.invokevirtual 174, 3) := dc_at dkX2_readingOf_b0 6 rfl
theorem dX2_readingOf_11 : decode cX2_readingOf 11 = .ok (.istore 4, 2) := dc_at dkX2_readingOf_b0 7 rfl
theorem dX2_readingOf_13 : decode cX2_readingOf 13 = .ok (.iload_n 3, 1) := dc_at dkX2_readingOf_b0 8 rfl
theorem dX2_readingOf_14 : decode cX2_readingOf 14 = .ok (.ifCond .ne 10, 3) := dc_at dkX2_readingOf_b0 9 rfl
def drX2_readingOf_b1 : List (Nat × (Instr × Nat)) := [(17, (.iload 4, 2)), (19, (.ifCond .ne 5, 3)), (22, (.iconst 0, 1)), (23, (.ireturn, 1)), (24, (.iload_n 2, 1)), (25, (.bipush (-4), 2)), (27, (.if_icmp .eq 33, 3)), (30, (.iload_n 3, 1)), (31, (.iconst 2, 1)), (32, (.irem, 1))]
theorem dkX2_readingOf_b1 : ((drX2_readingOf_b1).all fun r => decide (decode cX2_readingOf r.1 = .ok r.2)) = true := by decide +kernel
theorem dX2_readingOf_17 : decode cX2_readingOf 17 = .ok (.iload 4, 2) := dc_at dkX2_readingOf_b1 0 rfl
theorem dX2_readingOf_19 : decode cX2_readingOf 19 = .ok (.ifCond .ne 5, 3) := dc_at dkX2_readingOf_b1 1 rfl
theorem dX2_readingOf_22 : decode cX2_readingOf 22 = .ok (.iconst 0, 1) := dc_at dkX2_readingOf_b1 2 rfl
theorem dX2_readingOf_23 : decode cX2_readingOf 23 = .ok (.ireturn, 1) := dc_at dkX2_readingOf_b1 3 rfl
theorem dX2_readingOf_24 : decode cX2_readingOf 24 = .ok (.iload_n 2, 1) := dc_at dkX2_readingOf_b1 4 rfl
theorem dX2_readingOf_25 : decode cX2_readingOf 25 = .ok (.bipush (-4), 2) := dc_at dkX2_readingOf_b1 5 rfl
theorem dX2_readingOf_27 : decode cX2_readingOf 27 = .ok (.if_icmp .eq 33, 3) := dc_at dkX2_readingOf_b1 6 rfl
theorem dX2_readingOf_30 : decode cX2_readingOf 30 = .ok (.iload_n 3, 1) := dc_at dkX2_readingOf_b1 7 rfl
theorem dX2_readingOf_31 : decode cX2_readingOf 31 = .ok (.iconst 2, 1) := dc_at dkX2_readingOf_b1 8 rfl
theorem dX2_readingOf_32 : decode cX2_readingOf 32 = .ok (.irem, 1) := dc_at dkX2_readingOf_b1 9 rfl
def drX2_readingOf_b2 : List (Nat × (Instr × Nat)) := [(33, (.ifCond .ne 8, 3)), (36, (.iload 4, 2)), (38, (.goto 9, 3)), (41, (.iload 4, 2)), (43, (.iconst 1, 1)), (44, (.iload_n 2, 1)), (45, (.ishl, 1)), (46, (.ixor, 1)), (47, (.istore 5, 2)), (49, (.iload 5, 2))]
theorem dkX2_readingOf_b2 : ((drX2_readingOf_b2).all fun r => decide (decode cX2_readingOf r.1 = .ok r.2)) = true := by decide +kernel
theorem dX2_readingOf_33 : decode cX2_readingOf 33 = .ok (.ifCond .ne 8, 3) := dc_at dkX2_readingOf_b2 0 rfl
theorem dX2_readingOf_36 : decode cX2_readingOf 36 = .ok (.iload 4, 2) := dc_at dkX2_readingOf_b2 1 rfl
theorem dX2_readingOf_38 : decode cX2_readingOf 38 = .ok (.goto 9, 3) := dc_at dkX2_readingOf_b2 2 rfl
theorem dX2_readingOf_41 : decode cX2_readingOf 41 = .ok (.iload 4, 2) := dc_at dkX2_readingOf_b2 3 rfl
theorem dX2_readingOf_43 : decode cX2_readingOf 43 = .ok (.iconst 1, 1) := dc_at dkX2_readingOf_b2 4 rfl
theorem dX2_readingOf_44 : decode cX2_readingOf 44 = .ok (.iload_n 2, 1) := dc_at dkX2_readingOf_b2 5 rfl
theorem dX2_readingOf_45 : decode cX2_readingOf 45 = .ok (.ishl, 1) := dc_at dkX2_readingOf_b2 6 rfl
theorem dX2_readingOf_46 : decode cX2_readingOf 46 = .ok (.ixor, 1) := dc_at dkX2_readingOf_b2 7 rfl
theorem dX2_readingOf_47 : decode cX2_readingOf 47 = .ok (.istore 5, 2) := dc_at dkX2_readingOf_b2 8 rfl
theorem dX2_readingOf_49 : decode cX2_readingOf 49 = .ok (.iload 5, 2) := dc_at dkX2_readingOf_b2 9 rfl
def drX2_readingOf_b3 : List (Nat × (Instr × Nat)) := [(51, (.ifCond .ne 7, 3)), (54, (.iconst 2, 1)), (55, (.goto 4, 3)), (58, (.iconst 3, 1)), (59, (.ireturn, 1)), (60, (.iload_n 3, 1)), (61, (.iconst 1, 1)), (62, (.if_icmp .gt 16, 3)), (65, (.iload 4, 2)), (67, (.invokestatic 150, 3))]
theorem dkX2_readingOf_b3 : ((drX2_readingOf_b3).all fun r => decide (decode cX2_readingOf r.1 = .ok r.2)) = true := by decide +kernel
theorem dX2_readingOf_51 : decode cX2_readingOf 51 = .ok (.ifCond .ne 7, 3) := dc_at dkX2_readingOf_b3 0 rfl
theorem dX2_readingOf_54 : decode cX2_readingOf 54 = .ok (.iconst 2, 1) := dc_at dkX2_readingOf_b3 1 rfl
theorem dX2_readingOf_55 : decode cX2_readingOf 55 = .ok (.goto 4, 3) := dc_at dkX2_readingOf_b3 2 rfl
theorem dX2_readingOf_58 : decode cX2_readingOf 58 = .ok (.iconst 3, 1) := dc_at dkX2_readingOf_b3 3 rfl
theorem dX2_readingOf_59 : decode cX2_readingOf 59 = .ok (.ireturn, 1) := dc_at dkX2_readingOf_b3 4 rfl
theorem dX2_readingOf_60 : decode cX2_readingOf 60 = .ok (.iload_n 3, 1) := dc_at dkX2_readingOf_b3 5 rfl
theorem dX2_readingOf_61 : decode cX2_readingOf 61 = .ok (.iconst 1, 1) := dc_at dkX2_readingOf_b3 6 rfl
theorem dX2_readingOf_62 : decode cX2_readingOf 62 = .ok (.if_icmp .gt 16, 3) := dc_at dkX2_readingOf_b3 7 rfl
theorem dX2_readingOf_65 : decode cX2_readingOf 65 = .ok (.iload 4, 2) := dc_at dkX2_readingOf_b3 8 rfl
theorem dX2_readingOf_67 : decode cX2_readingOf 67 = .ok (.invokestatic 150, 3) := dc_at dkX2_readingOf_b3 9 rfl
def drX2_readingOf_b4 : List (Nat × (Instr × Nat)) := [(70, (.iconst 1, 1)), (71, (.if_icmp .ne 7, 3)), (74, (.iconst 1, 1)), (75, (.goto 4, 3)), (78, (.iconst 3, 1)), (79, (.ireturn, 1))]
theorem dkX2_readingOf_b4 : ((drX2_readingOf_b4).all fun r => decide (decode cX2_readingOf r.1 = .ok r.2)) = true := by decide +kernel
theorem dX2_readingOf_70 : decode cX2_readingOf 70 = .ok (.iconst 1, 1) := dc_at dkX2_readingOf_b4 0 rfl
theorem dX2_readingOf_71 : decode cX2_readingOf 71 = .ok (.if_icmp .ne 7, 3) := dc_at dkX2_readingOf_b4 1 rfl
theorem dX2_readingOf_74 : decode cX2_readingOf 74 = .ok (.iconst 1, 1) := dc_at dkX2_readingOf_b4 2 rfl
theorem dX2_readingOf_75 : decode cX2_readingOf 75 = .ok (.goto 4, 3) := dc_at dkX2_readingOf_b4 3 rfl
theorem dX2_readingOf_78 : decode cX2_readingOf 78 = .ok (.iconst 3, 1) := dc_at dkX2_readingOf_b4 4 rfl
theorem dX2_readingOf_79 : decode cX2_readingOf 79 = .ok (.ireturn, 1) := dc_at dkX2_readingOf_b4 5 rfl
def drX2_byteAsRead_b0 : List (Nat × (Instr × Nat)) := [(0, (.aload_n 0, 1)), (1, (.iload_n 1, 1)), (2, (.iload_n 2, 1)), (3, (.invokevirtual 161, 3)), (6, (.istore_n 3, 1)), (7, (.aload_n 0, 1)), (8, (.iload_n 1, 1)), (9, (.iload_n 2, 1)), (10, (.invokevirtual 167, 3)), (13, (.ifCond .eq 29, 3))]
theorem dkX2_byteAsRead_b0 : ((drX2_byteAsRead_b0).all fun r => decide (decode cX2_byteAsRead r.1 = .ok r.2)) = true := by decide +kernel
theorem dX2_byteAsRead_0 : decode cX2_byteAsRead 0 = .ok (.aload_n 0, 1) := dc_at dkX2_byteAsRead_b0 0 rfl
theorem dX2_byteAsRead_1 : decode cX2_byteAsRead 1 = .ok (.iload_n 1, 1) := dc_at dkX2_byteAsRead_b0 1 rfl
theorem dX2_byteAsRead_2 : decode cX2_byteAsRead 2 = .ok (.iload_n 2, 1) := dc_at dkX2_byteAsRead_b0 2 rfl
theorem dX2_byteAsRead_3 : decode cX2_byteAsRead 3 = .ok (.invokevirtual 161, 3) := dc_at dkX2_byteAsRead_b0 3 rfl
theorem dX2_byteAsRead_6 : decode cX2_byteAsRead 6 = .ok (.istore_n 3, 1) := dc_at dkX2_byteAsRead_b0 4 rfl
theorem dX2_byteAsRead_7 : decode cX2_byteAsRead 7 = .ok (.aload_n 0, 1) := dc_at dkX2_byteAsRead_b0 5 rfl
theorem dX2_byteAsRead_8 : decode cX2_byteAsRead 8 = .ok (.iload_n 1, 1) := dc_at dkX2_byteAsRead_b0 6 rfl
theorem dX2_byteAsRead_9 : decode cX2_byteAsRead 9 = .ok (.iload_n 2, 1) := dc_at dkX2_byteAsRead_b0 7 rfl
theorem dX2_byteAsRead_10 : decode cX2_byteAsRead 10 = .ok (.invokevirtual 167, 3) := dc_at dkX2_byteAsRead_b0 8 rfl
theorem dX2_byteAsRead_13 : decode cX2_byteAsRead 13 = .ok (.ifCond .eq 29, 3) := dc_at dkX2_byteAsRead_b0 9 rfl
def drX2_byteAsRead_b1 : List (Nat × (Instr × Nat)) := [(16, (.iload_n 3, 1)), (17, (.aload_n 0, 1)), (18, (.getfield 59, 3)), (21, (.bipush (-4), 2)), (23, (.if_icmp .ne 11, 3)), (26, (.aload_n 0, 1)), (27, (.iload_n 1, 1)), (28, (.invokevirtual 174, 3)), (31, (.goto 9, 3)), (34, (.iconst 1, 1))]
theorem dkX2_byteAsRead_b1 : ((drX2_byteAsRead_b1).all fun r => decide (decode cX2_byteAsRead r.1 = .ok r.2)) = true := by decide +kernel
theorem dX2_byteAsRead_16 : decode cX2_byteAsRead 16 = .ok (.iload_n 3, 1) := dc_at dkX2_byteAsRead_b1 0 rfl
theorem dX2_byteAsRead_17 : decode cX2_byteAsRead 17 = .ok (.aload_n 0, 1) := dc_at dkX2_byteAsRead_b1 1 rfl
theorem dX2_byteAsRead_18 : decode cX2_byteAsRead 18 = .ok (.getfield 59, 3) := dc_at dkX2_byteAsRead_b1 2 rfl
theorem dX2_byteAsRead_21 : decode cX2_byteAsRead 21 = .ok (.bipush (-4), 2) := dc_at dkX2_byteAsRead_b1 3 rfl
theorem dX2_byteAsRead_23 : decode cX2_byteAsRead 23 = .ok (.if_icmp .ne 11, 3) := dc_at dkX2_byteAsRead_b1 4 rfl
theorem dX2_byteAsRead_26 : decode cX2_byteAsRead 26 = .ok (.aload_n 0, 1) := dc_at dkX2_byteAsRead_b1 5 rfl
theorem dX2_byteAsRead_27 : decode cX2_byteAsRead 27 = .ok (.iload_n 1, 1) := dc_at dkX2_byteAsRead_b1 6 rfl
theorem dX2_byteAsRead_28 : decode cX2_byteAsRead 28 = .ok (.invokevirtual 174, 3) := dc_at dkX2_byteAsRead_b1 7 rfl
theorem dX2_byteAsRead_31 : decode cX2_byteAsRead 31 = .ok (.goto 9, 3) := dc_at dkX2_byteAsRead_b1 8 rfl
theorem dX2_byteAsRead_34 : decode cX2_byteAsRead 34 = .ok (.iconst 1, 1) := dc_at dkX2_byteAsRead_b1 9 rfl
def drX2_byteAsRead_b2 : List (Nat × (Instr × Nat)) := [(35, (.aload_n 0, 1)), (36, (.getfield 59, 3)), (39, (.ishl, 1)), (40, (.ixor, 1)), (41, (.istore_n 3, 1)), (42, (.iload_n 3, 1)), (43, (.sipush 255, 3)), (46, (.iand, 1)), (47, (.ireturn, 1))]
theorem dkX2_byteAsRead_b2 : ((drX2_byteAsRead_b2).all fun r => decide (decode cX2_byteAsRead r.1 = .ok r.2)) = true := by decide +kernel
theorem dX2_byteAsRead_35 : decode cX2_byteAsRead 35 = .ok (.aload_n 0, 1) := dc_at dkX2_byteAsRead_b2 0 rfl
theorem dX2_byteAsRead_36 : decode cX2_byteAsRead 36 = .ok (.getfield 59, 3) := dc_at dkX2_byteAsRead_b2 1 rfl
theorem dX2_byteAsRead_39 : decode cX2_byteAsRead 39 = .ok (.ishl, 1) := dc_at dkX2_byteAsRead_b2 2 rfl
theorem dX2_byteAsRead_40 : decode cX2_byteAsRead 40 = .ok (.ixor, 1) := dc_at dkX2_byteAsRead_b2 3 rfl
theorem dX2_byteAsRead_41 : decode cX2_byteAsRead 41 = .ok (.istore_n 3, 1) := dc_at dkX2_byteAsRead_b2 4 rfl
theorem dX2_byteAsRead_42 : decode cX2_byteAsRead 42 = .ok (.iload_n 3, 1) := dc_at dkX2_byteAsRead_b2 5 rfl
theorem dX2_byteAsRead_43 : decode cX2_byteAsRead 43 = .ok (.sipush 255, 3) := dc_at dkX2_byteAsRead_b2 6 rfl
theorem dX2_byteAsRead_46 : decode cX2_byteAsRead 46 = .ok (.iand, 1) := dc_at dkX2_byteAsRead_b2 7 rfl
theorem dX2_byteAsRead_47 : decode cX2_byteAsRead 47 = .ok (.ireturn, 1) := dc_at dkX2_byteAsRead_b2 8 rfl
def drX2_isReadAsWritten_b0 : List (Nat × (Instr × Nat)) := [(0, (.iconst 0, 1)), (1, (.istore_n 2, 1)), (2, (.iload_n 2, 1)), (3, (.aload_n 0, 1)), (4, (.iload_n 1, 1)), (5, (.invokevirtual 118, 3)), (8, (.if_icmp .ge 26, 3)), (11, (.aload_n 0, 1)), (12, (.iload_n 1, 1)), (13, (.iload_n 2, 1))]
theorem dkX2_isReadAsWritten_b0 : ((drX2_isReadAsWritten_b0).all fun r => decide (decode cX2_isReadAsWritten r.1 = .ok r.2)) = true := by decide +kernel
theorem dX2_isReadAsWritten_0 : decode cX2_isReadAsWritten 0 = .ok (.iconst 0, 1) := dc_at dkX2_isReadAsWritten_b0 0 rfl
theorem dX2_isReadAsWritten_1 : decode cX2_isReadAsWritten 1 = .ok (.istore_n 2, 1) := dc_at dkX2_isReadAsWritten_b0 1 rfl
theorem dX2_isReadAsWritten_2 : decode cX2_isReadAsWritten 2 = .ok (.iload_n 2, 1) := dc_at dkX2_isReadAsWritten_b0 2 rfl
theorem dX2_isReadAsWritten_3 : decode cX2_isReadAsWritten 3 = .ok (.aload_n 0, 1) := dc_at dkX2_isReadAsWritten_b0 3 rfl
theorem dX2_isReadAsWritten_4 : decode cX2_isReadAsWritten 4 = .ok (.iload_n 1, 1) := dc_at dkX2_isReadAsWritten_b0 4 rfl
theorem dX2_isReadAsWritten_5 : decode cX2_isReadAsWritten 5 = .ok (.invokevirtual 118, 3) := dc_at dkX2_isReadAsWritten_b0 5 rfl
theorem dX2_isReadAsWritten_8 : decode cX2_isReadAsWritten 8 = .ok (.if_icmp .ge 26, 3) := dc_at dkX2_isReadAsWritten_b0 6 rfl
theorem dX2_isReadAsWritten_11 : decode cX2_isReadAsWritten 11 = .ok (.aload_n 0, 1) := dc_at dkX2_isReadAsWritten_b0 7 rfl
theorem dX2_isReadAsWritten_12 : decode cX2_isReadAsWritten 12 = .ok (.iload_n 1, 1) := dc_at dkX2_isReadAsWritten_b0 8 rfl
theorem dX2_isReadAsWritten_13 : decode cX2_isReadAsWritten 13 = .ok (.iload_n 2, 1) := dc_at dkX2_isReadAsWritten_b0 9 rfl
def drX2_isReadAsWritten_b1 : List (Nat × (Instr × Nat)) := [(14, (.invokevirtual 177, 3)), (17, (.aload_n 0, 1)), (18, (.iload_n 1, 1)), (19, (.iload_n 2, 1)), (20, (.invokevirtual 164, 3)), (23, (.if_icmp .eq 5, 3)), (26, (.iconst 0, 1)), (27, (.ireturn, 1)), (28, (.iinc 2 1, 3)), (31, (.goto (-29), 3))]
theorem dkX2_isReadAsWritten_b1 : ((drX2_isReadAsWritten_b1).all fun r => decide (decode cX2_isReadAsWritten r.1 = .ok r.2)) = true := by decide +kernel
theorem dX2_isReadAsWritten_14 : decode cX2_isReadAsWritten 14 = .ok (.invokevirtual 177, 3) := dc_at dkX2_isReadAsWritten_b1 0 rfl
theorem dX2_isReadAsWritten_17 : decode cX2_isReadAsWritten 17 = .ok (.aload_n 0, 1) := dc_at dkX2_isReadAsWritten_b1 1 rfl
theorem dX2_isReadAsWritten_18 : decode cX2_isReadAsWritten 18 = .ok (.iload_n 1, 1) := dc_at dkX2_isReadAsWritten_b1 2 rfl
theorem dX2_isReadAsWritten_19 : decode cX2_isReadAsWritten 19 = .ok (.iload_n 2, 1) := dc_at dkX2_isReadAsWritten_b1 3 rfl
theorem dX2_isReadAsWritten_20 : decode cX2_isReadAsWritten 20 = .ok (.invokevirtual 164, 3) := dc_at dkX2_isReadAsWritten_b1 4 rfl
theorem dX2_isReadAsWritten_23 : decode cX2_isReadAsWritten 23 = .ok (.if_icmp .eq 5, 3) := dc_at dkX2_isReadAsWritten_b1 5 rfl
theorem dX2_isReadAsWritten_26 : decode cX2_isReadAsWritten 26 = .ok (.iconst 0, 1) := dc_at dkX2_isReadAsWritten_b1 6 rfl
theorem dX2_isReadAsWritten_27 : decode cX2_isReadAsWritten 27 = .ok (.ireturn, 1) := dc_at dkX2_isReadAsWritten_b1 7 rfl
theorem dX2_isReadAsWritten_28 : decode cX2_isReadAsWritten 28 = .ok (.iinc 2 1, 3) := dc_at dkX2_isReadAsWritten_b1 8 rfl
theorem dX2_isReadAsWritten_31 : decode cX2_isReadAsWritten 31 = .ok (.goto (-29), 3) := dc_at dkX2_isReadAsWritten_b1 9 rfl
def drX2_isReadAsWritten_b2 : List (Nat × (Instr × Nat)) := [(34, (.iconst 1, 1)), (35, (.ireturn, 1))]
theorem dkX2_isReadAsWritten_b2 : ((drX2_isReadAsWritten_b2).all fun r => decide (decode cX2_isReadAsWritten r.1 = .ok r.2)) = true := by decide +kernel
theorem dX2_isReadAsWritten_34 : decode cX2_isReadAsWritten 34 = .ok (.iconst 1, 1) := dc_at dkX2_isReadAsWritten_b2 0 rfl
theorem dX2_isReadAsWritten_35 : decode cX2_isReadAsWritten 35 = .ok (.ireturn, 1) := dc_at dkX2_isReadAsWritten_b2 1 rfl
def drX2_lostBlocksBy_b0 : List (Nat × (Instr × Nat)) := [(0, (.iconst 0, 1)), (1, (.istore_n 2, 1)), (2, (.iconst 0, 1)), (3, (.istore_n 3, 1)), (4, (.iload_n 3, 1)), (5, (.aload_n 0, 1)), (6, (.getfield 46, 3)), (9, (.if_icmp .ge 25, 3)), (12, (.aload_n 0, 1)), (13, (.iload_n 3, 1))]
theorem dkX2_lostBlocksBy_b0 : ((drX2_lostBlocksBy_b0).all fun r => decide (decode cX2_lostBlocksBy r.1 = .ok r.2)) = true := by decide +kernel
theorem dX2_lostBlocksBy_0 : decode cX2_lostBlocksBy 0 = .ok (.iconst 0, 1) := dc_at dkX2_lostBlocksBy_b0 0 rfl
theorem dX2_lostBlocksBy_1 : decode cX2_lostBlocksBy 1 = .ok (.istore_n 2, 1) := dc_at dkX2_lostBlocksBy_b0 1 rfl
theorem dX2_lostBlocksBy_2 : decode cX2_lostBlocksBy 2 = .ok (.iconst 0, 1) := dc_at dkX2_lostBlocksBy_b0 2 rfl
theorem dX2_lostBlocksBy_3 : decode cX2_lostBlocksBy 3 = .ok (.istore_n 3, 1) := dc_at dkX2_lostBlocksBy_b0 3 rfl
theorem dX2_lostBlocksBy_4 : decode cX2_lostBlocksBy 4 = .ok (.iload_n 3, 1) := dc_at dkX2_lostBlocksBy_b0 4 rfl
theorem dX2_lostBlocksBy_5 : decode cX2_lostBlocksBy 5 = .ok (.aload_n 0, 1) := dc_at dkX2_lostBlocksBy_b0 5 rfl
theorem dX2_lostBlocksBy_6 : decode cX2_lostBlocksBy 6 = .ok (.getfield 46, 3) := dc_at dkX2_lostBlocksBy_b0 6 rfl
theorem dX2_lostBlocksBy_9 : decode cX2_lostBlocksBy 9 = .ok (.if_icmp .ge 25, 3) := dc_at dkX2_lostBlocksBy_b0 7 rfl
theorem dX2_lostBlocksBy_12 : decode cX2_lostBlocksBy 12 = .ok (.aload_n 0, 1) := dc_at dkX2_lostBlocksBy_b0 8 rfl
theorem dX2_lostBlocksBy_13 : decode cX2_lostBlocksBy 13 = .ok (.iload_n 3, 1) := dc_at dkX2_lostBlocksBy_b0 9 rfl
def drX2_lostBlocksBy_b1 : List (Nat × (Instr × Nat)) := [(14, (.iload_n 1, 1)), (15, (.invokevirtual 180, 3)), (18, (.iconst 3, 1)), (19, (.if_icmp .ne 9, 3)), (22, (.iload_n 2, 1)), (23, (.iconst 1, 1)), (24, (.iload_n 3, 1)), (25, (.ishl, 1)), (26, (.ior, 1)), (27, (.istore_n 2, 1))]
theorem dkX2_lostBlocksBy_b1 : ((drX2_lostBlocksBy_b1).all fun r => decide (decode cX2_lostBlocksBy r.1 = .ok r.2)) = true := by decide +kernel
theorem dX2_lostBlocksBy_14 : decode cX2_lostBlocksBy 14 = .ok (.iload_n 1, 1) := dc_at dkX2_lostBlocksBy_b1 0 rfl
theorem dX2_lostBlocksBy_15 : decode cX2_lostBlocksBy 15 = .ok (.invokevirtual 180, 3) := dc_at dkX2_lostBlocksBy_b1 1 rfl
theorem dX2_lostBlocksBy_18 : decode cX2_lostBlocksBy 18 = .ok (.iconst 3, 1) := dc_at dkX2_lostBlocksBy_b1 2 rfl
theorem dX2_lostBlocksBy_19 : decode cX2_lostBlocksBy 19 = .ok (.if_icmp .ne 9, 3) := dc_at dkX2_lostBlocksBy_b1 3 rfl
theorem dX2_lostBlocksBy_22 : decode cX2_lostBlocksBy 22 = .ok (.iload_n 2, 1) := dc_at dkX2_lostBlocksBy_b1 4 rfl
theorem dX2_lostBlocksBy_23 : decode cX2_lostBlocksBy 23 = .ok (.iconst 1, 1) := dc_at dkX2_lostBlocksBy_b1 5 rfl
theorem dX2_lostBlocksBy_24 : decode cX2_lostBlocksBy 24 = .ok (.iload_n 3, 1) := dc_at dkX2_lostBlocksBy_b1 6 rfl
theorem dX2_lostBlocksBy_25 : decode cX2_lostBlocksBy 25 = .ok (.ishl, 1) := dc_at dkX2_lostBlocksBy_b1 7 rfl
theorem dX2_lostBlocksBy_26 : decode cX2_lostBlocksBy 26 = .ok (.ior, 1) := dc_at dkX2_lostBlocksBy_b1 8 rfl
theorem dX2_lostBlocksBy_27 : decode cX2_lostBlocksBy 27 = .ok (.istore_n 2, 1) := dc_at dkX2_lostBlocksBy_b1 9 rfl
def drX2_lostBlocksBy_b2 : List (Nat × (Instr × Nat)) := [(28, (.iinc 3 1, 3)), (31, (.goto (-27), 3)), (34, (.iload_n 2, 1)), (35, (.ireturn, 1))]
theorem dkX2_lostBlocksBy_b2 : ((drX2_lostBlocksBy_b2).all fun r => decide (decode cX2_lostBlocksBy r.1 = .ok r.2)) = true := by decide +kernel
theorem dX2_lostBlocksBy_28 : decode cX2_lostBlocksBy 28 = .ok (.iinc 3 1, 3) := dc_at dkX2_lostBlocksBy_b2 0 rfl
theorem dX2_lostBlocksBy_31 : decode cX2_lostBlocksBy 31 = .ok (.goto (-27), 3) := dc_at dkX2_lostBlocksBy_b2 1 rfl
theorem dX2_lostBlocksBy_34 : decode cX2_lostBlocksBy 34 = .ok (.iload_n 2, 1) := dc_at dkX2_lostBlocksBy_b2 2 rfl
theorem dX2_lostBlocksBy_35 : decode cX2_lostBlocksBy 35 = .ok (.ireturn, 1) := dc_at dkX2_lostBlocksBy_b2 3 rfl
def drX2_fooledBlocks_b0 : List (Nat × (Instr × Nat)) := [(0, (.iconst 0, 1)), (1, (.istore_n 1, 1)), (2, (.iconst 0, 1)), (3, (.istore_n 2, 1)), (4, (.iload_n 2, 1)), (5, (.aload_n 0, 1)), (6, (.getfield 46, 3)), (9, (.if_icmp .ge 36, 3)), (12, (.aload_n 0, 1)), (13, (.iload_n 2, 1))]
theorem dkX2_fooledBlocks_b0 : ((drX2_fooledBlocks_b0).all fun r => decide (decode cX2_fooledBlocks r.1 = .ok r.2)) = true := by decide +kernel
theorem dX2_fooledBlocks_0 : decode cX2_fooledBlocks 0 = .ok (.iconst 0, 1) := dc_at dkX2_fooledBlocks_b0 0 rfl
theorem dX2_fooledBlocks_1 : decode cX2_fooledBlocks 1 = .ok (.istore_n 1, 1) := dc_at dkX2_fooledBlocks_b0 1 rfl
theorem dX2_fooledBlocks_2 : decode cX2_fooledBlocks 2 = .ok (.iconst 0, 1) := dc_at dkX2_fooledBlocks_b0 2 rfl
theorem dX2_fooledBlocks_3 : decode cX2_fooledBlocks 3 = .ok (.istore_n 2, 1) := dc_at dkX2_fooledBlocks_b0 3 rfl
theorem dX2_fooledBlocks_4 : decode cX2_fooledBlocks 4 = .ok (.iload_n 2, 1) := dc_at dkX2_fooledBlocks_b0 4 rfl
theorem dX2_fooledBlocks_5 : decode cX2_fooledBlocks 5 = .ok (.aload_n 0, 1) := dc_at dkX2_fooledBlocks_b0 5 rfl
theorem dX2_fooledBlocks_6 : decode cX2_fooledBlocks 6 = .ok (.getfield 46, 3) := dc_at dkX2_fooledBlocks_b0 6 rfl
theorem dX2_fooledBlocks_9 : decode cX2_fooledBlocks 9 = .ok (.if_icmp .ge 36, 3) := dc_at dkX2_fooledBlocks_b0 7 rfl
theorem dX2_fooledBlocks_12 : decode cX2_fooledBlocks 12 = .ok (.aload_n 0, 1) := dc_at dkX2_fooledBlocks_b0 8 rfl
theorem dX2_fooledBlocks_13 : decode cX2_fooledBlocks 13 = .ok (.iload_n 2, 1) := dc_at dkX2_fooledBlocks_b0 9 rfl
def drX2_fooledBlocks_b1 : List (Nat × (Instr × Nat)) := [(14, (.aload_n 0, 1)), (15, (.getfield 59, 3)), (18, (.invokevirtual 180, 3)), (21, (.iconst 3, 1)), (22, (.if_icmp .eq 17, 3)), (25, (.aload_n 0, 1)), (26, (.iload_n 2, 1)), (27, (.invokevirtual 183, 3)), (30, (.ifCond .ne 9, 3)), (33, (.iload_n 1, 1))]
theorem dkX2_fooledBlocks_b1 : ((drX2_fooledBlocks_b1).all fun r => decide (decode cX2_fooledBlocks r.1 = .ok r.2)) = true := by decide +kernel
theorem dX2_fooledBlocks_14 : decode cX2_fooledBlocks 14 = .ok (.aload_n 0, 1) := dc_at dkX2_fooledBlocks_b1 0 rfl
theorem dX2_fooledBlocks_15 : decode cX2_fooledBlocks 15 = .ok (.getfield 59, 3) := dc_at dkX2_fooledBlocks_b1 1 rfl
theorem dX2_fooledBlocks_18 : decode cX2_fooledBlocks 18 = .ok (.invokevirtual 180, 3) := dc_at dkX2_fooledBlocks_b1 2 rfl
theorem dX2_fooledBlocks_21 : decode cX2_fooledBlocks 21 = .ok (.iconst 3, 1) := dc_at dkX2_fooledBlocks_b1 3 rfl
theorem dX2_fooledBlocks_22 : decode cX2_fooledBlocks 22 = .ok (.if_icmp .eq 17, 3) := dc_at dkX2_fooledBlocks_b1 4 rfl
theorem dX2_fooledBlocks_25 : decode cX2_fooledBlocks 25 = .ok (.aload_n 0, 1) := dc_at dkX2_fooledBlocks_b1 5 rfl
theorem dX2_fooledBlocks_26 : decode cX2_fooledBlocks 26 = .ok (.iload_n 2, 1) := dc_at dkX2_fooledBlocks_b1 6 rfl
theorem dX2_fooledBlocks_27 : decode cX2_fooledBlocks 27 = .ok (.invokevirtual 183, 3) := dc_at dkX2_fooledBlocks_b1 7 rfl
theorem dX2_fooledBlocks_30 : decode cX2_fooledBlocks 30 = .ok (.ifCond .ne 9, 3) := dc_at dkX2_fooledBlocks_b1 8 rfl
theorem dX2_fooledBlocks_33 : decode cX2_fooledBlocks 33 = .ok (.iload_n 1, 1) := dc_at dkX2_fooledBlocks_b1 9 rfl
def drX2_fooledBlocks_b2 : List (Nat × (Instr × Nat)) := [(34, (.iconst 1, 1)), (35, (.iload_n 2, 1)), (36, (.ishl, 1)), (37, (.ior, 1)), (38, (.istore_n 1, 1)), (39, (.iinc 2 1, 3)), (42, (.goto (-38), 3)), (45, (.iload_n 1, 1)), (46, (.ireturn, 1))]
theorem dkX2_fooledBlocks_b2 : ((drX2_fooledBlocks_b2).all fun r => decide (decode cX2_fooledBlocks r.1 = .ok r.2)) = true := by decide +kernel
theorem dX2_fooledBlocks_34 : decode cX2_fooledBlocks 34 = .ok (.iconst 1, 1) := dc_at dkX2_fooledBlocks_b2 0 rfl
theorem dX2_fooledBlocks_35 : decode cX2_fooledBlocks 35 = .ok (.iload_n 2, 1) := dc_at dkX2_fooledBlocks_b2 1 rfl
theorem dX2_fooledBlocks_36 : decode cX2_fooledBlocks 36 = .ok (.ishl, 1) := dc_at dkX2_fooledBlocks_b2 2 rfl
theorem dX2_fooledBlocks_37 : decode cX2_fooledBlocks 37 = .ok (.ior, 1) := dc_at dkX2_fooledBlocks_b2 3 rfl
theorem dX2_fooledBlocks_38 : decode cX2_fooledBlocks 38 = .ok (.istore_n 1, 1) := dc_at dkX2_fooledBlocks_b2 4 rfl
theorem dX2_fooledBlocks_39 : decode cX2_fooledBlocks 39 = .ok (.iinc 2 1, 3) := dc_at dkX2_fooledBlocks_b2 5 rfl
theorem dX2_fooledBlocks_42 : decode cX2_fooledBlocks 42 = .ok (.goto (-38), 3) := dc_at dkX2_fooledBlocks_b2 6 rfl
theorem dX2_fooledBlocks_45 : decode cX2_fooledBlocks 45 = .ok (.iload_n 1, 1) := dc_at dkX2_fooledBlocks_b2 7 rfl
theorem dX2_fooledBlocks_46 : decode cX2_fooledBlocks 46 = .ok (.ireturn, 1) := dc_at dkX2_fooledBlocks_b2 8 rfl
def drX2_mendedBlocks_b0 : List (Nat × (Instr × Nat)) := [(0, (.iconst 0, 1)), (1, (.istore_n 1, 1)), (2, (.iconst 0, 1)), (3, (.istore_n 2, 1)), (4, (.iload_n 2, 1)), (5, (.aload_n 0, 1)), (6, (.getfield 46, 3)), (9, (.if_icmp .ge 35, 3)), (12, (.aload_n 0, 1)), (13, (.iload_n 2, 1))]
theorem dkX2_mendedBlocks_b0 : ((drX2_mendedBlocks_b0).all fun r => decide (decode cX2_mendedBlocks r.1 = .ok r.2)) = true := by decide +kernel
theorem dX2_mendedBlocks_0 : decode cX2_mendedBlocks 0 = .ok (.iconst 0, 1) := dc_at dkX2_mendedBlocks_b0 0 rfl
theorem dX2_mendedBlocks_1 : decode cX2_mendedBlocks 1 = .ok (.istore_n 1, 1) := dc_at dkX2_mendedBlocks_b0 1 rfl
theorem dX2_mendedBlocks_2 : decode cX2_mendedBlocks 2 = .ok (.iconst 0, 1) := dc_at dkX2_mendedBlocks_b0 2 rfl
theorem dX2_mendedBlocks_3 : decode cX2_mendedBlocks 3 = .ok (.istore_n 2, 1) := dc_at dkX2_mendedBlocks_b0 3 rfl
theorem dX2_mendedBlocks_4 : decode cX2_mendedBlocks 4 = .ok (.iload_n 2, 1) := dc_at dkX2_mendedBlocks_b0 4 rfl
theorem dX2_mendedBlocks_5 : decode cX2_mendedBlocks 5 = .ok (.aload_n 0, 1) := dc_at dkX2_mendedBlocks_b0 5 rfl
theorem dX2_mendedBlocks_6 : decode cX2_mendedBlocks 6 = .ok (.getfield 46, 3) := dc_at dkX2_mendedBlocks_b0 6 rfl
theorem dX2_mendedBlocks_9 : decode cX2_mendedBlocks 9 = .ok (.if_icmp .ge 35, 3) := dc_at dkX2_mendedBlocks_b0 7 rfl
theorem dX2_mendedBlocks_12 : decode cX2_mendedBlocks 12 = .ok (.aload_n 0, 1) := dc_at dkX2_mendedBlocks_b0 8 rfl
theorem dX2_mendedBlocks_13 : decode cX2_mendedBlocks 13 = .ok (.iload_n 2, 1) := dc_at dkX2_mendedBlocks_b0 9 rfl
def drX2_mendedBlocks_b1 : List (Nat × (Instr × Nat)) := [(14, (.aload_n 0, 1)), (15, (.getfield 59, 3)), (18, (.invokevirtual 180, 3)), (21, (.istore_n 3, 1)), (22, (.iload_n 3, 1)), (23, (.iconst 1, 1)), (24, (.if_icmp .eq 8, 3)), (27, (.iload_n 3, 1)), (28, (.iconst 2, 1)), (29, (.if_icmp .ne 9, 3))]
theorem dkX2_mendedBlocks_b1 : ((drX2_mendedBlocks_b1).all fun r => decide (decode cX2_mendedBlocks r.1 = .ok r.2)) = true := by decide +kernel
theorem dX2_mendedBlocks_14 : decode cX2_mendedBlocks 14 = .ok (.aload_n 0, 1) := dc_at dkX2_mendedBlocks_b1 0 rfl
theorem dX2_mendedBlocks_15 : decode cX2_mendedBlocks 15 = .ok (.getfield 59, 3) := dc_at dkX2_mendedBlocks_b1 1 rfl
theorem dX2_mendedBlocks_18 : decode cX2_mendedBlocks 18 = .ok (.invokevirtual 180, 3) := dc_at dkX2_mendedBlocks_b1 2 rfl
theorem dX2_mendedBlocks_21 : decode cX2_mendedBlocks 21 = .ok (.istore_n 3, 1) := dc_at dkX2_mendedBlocks_b1 3 rfl
theorem dX2_mendedBlocks_22 : decode cX2_mendedBlocks 22 = .ok (.iload_n 3, 1) := dc_at dkX2_mendedBlocks_b1 4 rfl
theorem dX2_mendedBlocks_23 : decode cX2_mendedBlocks 23 = .ok (.iconst 1, 1) := dc_at dkX2_mendedBlocks_b1 5 rfl
theorem dX2_mendedBlocks_24 : decode cX2_mendedBlocks 24 = .ok (.if_icmp .eq 8, 3) := dc_at dkX2_mendedBlocks_b1 6 rfl
theorem dX2_mendedBlocks_27 : decode cX2_mendedBlocks 27 = .ok (.iload_n 3, 1) := dc_at dkX2_mendedBlocks_b1 7 rfl
theorem dX2_mendedBlocks_28 : decode cX2_mendedBlocks 28 = .ok (.iconst 2, 1) := dc_at dkX2_mendedBlocks_b1 8 rfl
theorem dX2_mendedBlocks_29 : decode cX2_mendedBlocks 29 = .ok (.if_icmp .ne 9, 3) := dc_at dkX2_mendedBlocks_b1 9 rfl
def drX2_mendedBlocks_b2 : List (Nat × (Instr × Nat)) := [(32, (.iload_n 1, 1)), (33, (.iconst 1, 1)), (34, (.iload_n 2, 1)), (35, (.ishl, 1)), (36, (.ior, 1)), (37, (.istore_n 1, 1)), (38, (.iinc 2 1, 3)), (41, (.goto (-37), 3)), (44, (.iload_n 1, 1)), (45, (.ireturn, 1))]
theorem dkX2_mendedBlocks_b2 : ((drX2_mendedBlocks_b2).all fun r => decide (decode cX2_mendedBlocks r.1 = .ok r.2)) = true := by decide +kernel
theorem dX2_mendedBlocks_32 : decode cX2_mendedBlocks 32 = .ok (.iload_n 1, 1) := dc_at dkX2_mendedBlocks_b2 0 rfl
theorem dX2_mendedBlocks_33 : decode cX2_mendedBlocks 33 = .ok (.iconst 1, 1) := dc_at dkX2_mendedBlocks_b2 1 rfl
theorem dX2_mendedBlocks_34 : decode cX2_mendedBlocks 34 = .ok (.iload_n 2, 1) := dc_at dkX2_mendedBlocks_b2 2 rfl
theorem dX2_mendedBlocks_35 : decode cX2_mendedBlocks 35 = .ok (.ishl, 1) := dc_at dkX2_mendedBlocks_b2 3 rfl
theorem dX2_mendedBlocks_36 : decode cX2_mendedBlocks 36 = .ok (.ior, 1) := dc_at dkX2_mendedBlocks_b2 4 rfl
theorem dX2_mendedBlocks_37 : decode cX2_mendedBlocks 37 = .ok (.istore_n 1, 1) := dc_at dkX2_mendedBlocks_b2 5 rfl
theorem dX2_mendedBlocks_38 : decode cX2_mendedBlocks 38 = .ok (.iinc 2 1, 3) := dc_at dkX2_mendedBlocks_b2 6 rfl
theorem dX2_mendedBlocks_41 : decode cX2_mendedBlocks 41 = .ok (.goto (-37), 3) := dc_at dkX2_mendedBlocks_b2 7 rfl
theorem dX2_mendedBlocks_44 : decode cX2_mendedBlocks 44 = .ok (.iload_n 1, 1) := dc_at dkX2_mendedBlocks_b2 8 rfl
theorem dX2_mendedBlocks_45 : decode cX2_mendedBlocks 45 = .ok (.ireturn, 1) := dc_at dkX2_mendedBlocks_b2 9 rfl
