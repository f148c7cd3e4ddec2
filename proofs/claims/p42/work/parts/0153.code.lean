def drX5_text_b0 : List (Nat × (Instr × Nat)) := [(0, (.iconst 0, 1)), (1, (.istore_n 1, 1)), (2, (.aload_n 0, 1)), (3, (.iconst 0, 1)), (4, (.putfield 79, 3)), (7, (.aload_n 0, 1)), (8, (.iconst 0, 1)), (9, (.putfield 88, 3)), (12, (.aload_n 0, 1)), (13, (.invokevirtual 53, 3))]
theorem dkX5_text_b0 : ((drX5_text_b0).all fun r => decide (decode cX5_text r.1 = .ok r.2)) = true := by decide +kernel
theorem dX5_text_0 : decode cX5_text 0 = .ok (.iconst 0, 1) := dc_at dkX5_text_b0 0 rfl
theorem dX5_text_1 : decode cX5_text 1 = .ok (.istore_n 1, 1) := dc_at dkX5_text_b0 1 rfl
theorem dX5_text_2 : decode cX5_text 2 = .ok (.aload_n 0, 1) := dc_at dkX5_text_b0 2 rfl
theorem dX5_text_3 : decode cX5_text 3 = .ok (.iconst 0, 1) := dc_at dkX5_text_b0 3 rfl
theorem dX5_text_4 : decode cX5_text 4 = .ok (.putfield 79, 3) := dc_at dkX5_text_b0 4 rfl
theorem dX5_text_7 : decode cX5_text 7 = .ok (.aload_n 0, 1) := dc_at dkX5_text_b0 5 rfl
theorem dX5_text_8 : decode cX5_text 8 = .ok (.iconst 0, 1) := dc_at dkX5_text_b0 6 rfl
theorem dX5_text_9 : decode cX5_text 9 = .ok (.putfield 88, 3) := dc_at dkX5_text_b0 7 rfl
theorem dX5_text_12 : decode cX5_text 12 = .ok (.aload_n 0, 1) := dc_at dkX5_text_b0 8 rfl
theorem dX5_text_13 : decode cX5_text 13 = .ok (.invokevirtual 53, 3) := dc_at dkX5_text_b0 9 rfl
def drX5_text_b1 : List (Nat × (Instr × Nat)) := [(16, (.aload_n 0, 1)), (17, (.invokevirtual 117, 3)), (20, (.aload_n 0, 1)), (21, (.getfield 79, 3)), (24, (.ifCond .ne 20, 3)), (27, (.aload_n 0, 1)), (28, (.getfield 99, 3)), (31, (.ifCond .eq 13, 3)), (34, (.aload_n 0, 1)), (35, (.invokevirtual 137, 3))]
theorem dkX5_text_b1 : ((drX5_text_b1).all fun r => decide (decode cX5_text r.1 = .ok r.2)) = true := by decide +kernel
theorem dX5_text_16 : decode cX5_text 16 = .ok (.aload_n 0, 1) := dc_at dkX5_text_b1 0 rfl
theorem dX5_text_17 : decode cX5_text 17 = .ok (.invokevirtual 117, 3) := dc_at dkX5_text_b1 1 rfl
theorem dX5_text_20 : decode cX5_text 20 = .ok (.aload_n 0, 1) := dc_at dkX5_text_b1 2 rfl
theorem dX5_text_21 : decode cX5_text 21 = .ok (.getfield 79, 3) := dc_at dkX5_text_b1 3 rfl
theorem dX5_text_24 : decode cX5_text 24 = .ok (.ifCond .ne 20, 3) := dc_at dkX5_text_b1 4 rfl
theorem dX5_text_27 : decode cX5_text 27 = .ok (.aload_n 0, 1) := dc_at dkX5_text_b1 5 rfl
theorem dX5_text_28 : decode cX5_text 28 = .ok (.getfield 99, 3) := dc_at dkX5_text_b1 6 rfl
theorem dX5_text_31 : decode cX5_text 31 = .ok (.ifCond .eq 13, 3) := dc_at dkX5_text_b1 7 rfl
theorem dX5_text_34 : decode cX5_text 34 = .ok (.aload_n 0, 1) := dc_at dkX5_text_b1 8 rfl
theorem dX5_text_35 : decode cX5_text 35 = .ok (.invokevirtual 137, 3) := dc_at dkX5_text_b1 9 rfl
def drX5_text_b2 : List (Nat × (Instr × Nat)) := [(38, (.iinc 1 1, 3)), (41, (.goto (-21), 3)), (44, (.aload_n 0, 1)), (45, (.getfield 79, 3)), (48, (.ifCond .ne 27, 3)), (51, (.aload_n 0, 1)), (52, (.aload_n 0, 1)), (53, (.invokevirtual 140, 3)), (56, (.aload_n 0, 1)), (57, (.getfield 20, 3))]
theorem dkX5_text_b2 : ((drX5_text_b2).all fun r => decide (decode cX5_text r.1 = .ok r.2)) = true := by decide +kernel
theorem dX5_text_38 : decode cX5_text 38 = .ok (.iinc 1 1, 3) := dc_at dkX5_text_b2 0 rfl
theorem dX5_text_41 : decode cX5_text 41 = .ok (.goto (-21), 3) := dc_at dkX5_text_b2 1 rfl
theorem dX5_text_44 : decode cX5_text 44 = .ok (.aload_n 0, 1) := dc_at dkX5_text_b2 2 rfl
theorem dX5_text_45 : decode cX5_text 45 = .ok (.getfield 79, 3) := dc_at dkX5_text_b2 3 rfl
theorem dX5_text_48 : decode cX5_text 48 = .ok (.ifCond .ne 27, 3) := dc_at dkX5_text_b2 4 rfl
theorem dX5_text_51 : decode cX5_text 51 = .ok (.aload_n 0, 1) := dc_at dkX5_text_b2 5 rfl
theorem dX5_text_52 : decode cX5_text 52 = .ok (.aload_n 0, 1) := dc_at dkX5_text_b2 6 rfl
theorem dX5_text_53 : decode cX5_text 53 = .ok (.invokevirtual 140, 3) := dc_at dkX5_text_b2 7 rfl
theorem dX5_text_56 : decode cX5_text 56 = .ok (.aload_n 0, 1) := dc_at dkX5_text_b2 8 rfl
theorem dX5_text_57 : decode cX5_text 57 = .ok (.getfield 20, 3) := dc_at dkX5_text_b2 9 rfl
def drX5_text_b3 : List (Nat × (Instr × Nat)) := [(60, (.iconst 0, 1)), (61, (.iaload, 1)), (62, (.if_icmp .gt 7, 3)), (65, (.iconst 1, 1)), (66, (.goto 4, 3)), (69, (.iconst 0, 1)), (70, (.bipush 6, 2)), (72, (.invokevirtual 113, 3)), (75, (.aload_n 0, 1)), (76, (.iconst 0, 1))]
theorem dkX5_text_b3 : ((drX5_text_b3).all fun r => decide (decode cX5_text r.1 = .ok r.2)) = true := by decide +kernel
theorem dX5_text_60 : decode cX5_text 60 = .ok (.iconst 0, 1) := dc_at dkX5_text_b3 0 rfl
theorem dX5_text_61 : decode cX5_text 61 = .ok (.iaload, 1) := dc_at dkX5_text_b3 1 rfl
theorem dX5_text_62 : decode cX5_text 62 = .ok (.if_icmp .gt 7, 3) := dc_at dkX5_text_b3 2 rfl
theorem dX5_text_65 : decode cX5_text 65 = .ok (.iconst 1, 1) := dc_at dkX5_text_b3 3 rfl
theorem dX5_text_66 : decode cX5_text 66 = .ok (.goto 4, 3) := dc_at dkX5_text_b3 4 rfl
theorem dX5_text_69 : decode cX5_text 69 = .ok (.iconst 0, 1) := dc_at dkX5_text_b3 5 rfl
theorem dX5_text_70 : decode cX5_text 70 = .ok (.bipush 6, 2) := dc_at dkX5_text_b3 6 rfl
theorem dX5_text_72 : decode cX5_text 72 = .ok (.invokevirtual 113, 3) := dc_at dkX5_text_b3 7 rfl
theorem dX5_text_75 : decode cX5_text 75 = .ok (.aload_n 0, 1) := dc_at dkX5_text_b3 8 rfl
theorem dX5_text_76 : decode cX5_text 76 = .ok (.iconst 0, 1) := dc_at dkX5_text_b3 9 rfl
def drX5_text_b4 : List (Nat × (Instr × Nat)) := [(77, (.putfield 70, 3)), (80, (.aload_n 0, 1)), (81, (.getfield 79, 3)), (84, (.ifCond .le 11, 3)), (87, (.bipush (-10), 2)), (89, (.aload_n 0, 1)), (90, (.getfield 85, 3)), (93, (.isub, 1)), (94, (.ireturn, 1)), (95, (.aload_n 0, 1))]
theorem dkX5_text_b4 : ((drX5_text_b4).all fun r => decide (decode cX5_text r.1 = .ok r.2)) = true := by decide +kernel
theorem dX5_text_77 : decode cX5_text 77 = .ok (.putfield 70, 3) := dc_at dkX5_text_b4 0 rfl
theorem dX5_text_80 : decode cX5_text 80 = .ok (.aload_n 0, 1) := dc_at dkX5_text_b4 1 rfl
theorem dX5_text_81 : decode cX5_text 81 = .ok (.getfield 79, 3) := dc_at dkX5_text_b4 2 rfl
theorem dX5_text_84 : decode cX5_text 84 = .ok (.ifCond .le 11, 3) := dc_at dkX5_text_b4 3 rfl
theorem dX5_text_87 : decode cX5_text 87 = .ok (.bipush (-10), 2) := dc_at dkX5_text_b4 4 rfl
theorem dX5_text_89 : decode cX5_text 89 = .ok (.aload_n 0, 1) := dc_at dkX5_text_b4 5 rfl
theorem dX5_text_90 : decode cX5_text 90 = .ok (.getfield 85, 3) := dc_at dkX5_text_b4 6 rfl
theorem dX5_text_93 : decode cX5_text 93 = .ok (.isub, 1) := dc_at dkX5_text_b4 7 rfl
theorem dX5_text_94 : decode cX5_text 94 = .ok (.ireturn, 1) := dc_at dkX5_text_b4 8 rfl
theorem dX5_text_95 : decode cX5_text 95 = .ok (.aload_n 0, 1) := dc_at dkX5_text_b4 9 rfl
def drX5_text_b5 : List (Nat × (Instr × Nat)) := [(96, (.invokevirtual 56, 3)), (99, (.iload_n 1, 1)), (100, (.ireturn, 1))]
theorem dkX5_text_b5 : ((drX5_text_b5).all fun r => decide (decode cX5_text r.1 = .ok r.2)) = true := by decide +kernel
theorem dX5_text_96 : decode cX5_text 96 = .ok (.invokevirtual 56, 3) := dc_at dkX5_text_b5 0 rfl
theorem dX5_text_99 : decode cX5_text 99 = .ok (.iload_n 1, 1) := dc_at dkX5_text_b5 1 rfl
theorem dX5_text_100 : decode cX5_text 100 = .ok (.ireturn, 1) := dc_at dkX5_text_b5 2 rfl
def drX5_fault_b0 : List (Nat × (Instr × Nat)) := [(0, (.aload_n 0, 1)), (1, (.getfield 79, 3)), (4, (.ireturn, 1))]
theorem dkX5_fault_b0 : ((drX5_fault_b0).all fun r => decide (decode cX5_fault r.1 = .ok r.2)) = true := by decide +kernel
theorem dX5_fault_0 : decode cX5_fault 0 = .ok (.aload_n 0, 1) := dc_at dkX5_fault_b0 0 rfl
theorem dX5_fault_1 : decode cX5_fault 1 = .ok (.getfield 79, 3) := dc_at dkX5_fault_b0 1 rfl
theorem dX5_fault_4 : decode cX5_fault 4 = .ok (.ireturn, 1) := dc_at dkX5_fault_b0 2 rfl
def drX5_rule_b0 : List (Nat × (Instr × Nat)) := [(0, (.iload_n 1, 1)), (1, (.ifCond .ne 14, 3)), (4, (.aload_n 0, 1)), (5, (.getfield 7, 3)), (8, (.sipush 366, 3)), (11, (.iaload, 1)), (12, (.goto 25, 3)), (15, (.iload_n 1, 1)), (16, (.i2l, 1)), (17, (.lconst 1, 1))]
theorem dkX5_rule_b0 : ((drX5_rule_b0).all fun r => decide (decode cX5_rule r.1 = .ok r.2)) = true := by decide +kernel
theorem dX5_rule_0 : decode cX5_rule 0 = .ok (.iload_n 1, 1) := dc_at dkX5_rule_b0 0 rfl
theorem dX5_rule_1 : decode cX5_rule 1 = .ok (.ifCond .ne 14, 3) := dc_at dkX5_rule_b0 1 rfl
theorem dX5_rule_4 : decode cX5_rule 4 = .ok (.aload_n 0, 1) := dc_at dkX5_rule_b0 2 rfl
theorem dX5_rule_5 : decode cX5_rule 5 = .ok (.getfield 7, 3) := dc_at dkX5_rule_b0 3 rfl
theorem dX5_rule_8 : decode cX5_rule 8 = .ok (.sipush 366, 3) := dc_at dkX5_rule_b0 4 rfl
theorem dX5_rule_11 : decode cX5_rule 11 = .ok (.iaload, 1) := dc_at dkX5_rule_b0 5 rfl
theorem dX5_rule_12 : decode cX5_rule 12 = .ok (.goto 25, 3) := dc_at dkX5_rule_b0 6 rfl
theorem dX5_rule_15 : decode cX5_rule 15 = .ok (.iload_n 1, 1) := dc_at dkX5_rule_b0 7 rfl
theorem dX5_rule_16 : decode cX5_rule 16 = .ok (.i2l, 1) := dc_at dkX5_rule_b0 8 rfl
theorem dX5_rule_17 : decode cX5_rule 17 = .ok (.lconst 1, 1) := dc_at dkX5_rule_b0 9 rfl
def drX5_rule_b1 : List (Nat × (Instr × Nat)) := [(18, (.ldc2_w 143, 3)), (21, (.invokestatic 75, 3)), (24, (.ifCond .eq 12, 3)), (27, (.aload_n 0, 1)), (28, (.getfield 17, 3)), (31, (.iload_n 1, 1)), (32, (.iaload, 1)), (33, (.goto 4, 3)), (36, (.iconst (-1), 1)), (37, (.ireturn, 1))]
theorem dkX5_rule_b1 : ((drX5_rule_b1).all fun r => decide (decode cX5_rule r.1 = .ok r.2)) = true := by decide +kernel
theorem dX5_rule_18 : decode cX5_rule 18 = .ok (.ldc2_w 143, 3) := dc_at dkX5_rule_b1 0 rfl
theorem dX5_rule_21 : decode cX5_rule 21 = .ok (.invokestatic 75, 3) := dc_at dkX5_rule_b1 1 rfl
theorem dX5_rule_24 : decode cX5_rule 24 = .ok (.ifCond .eq 12, 3) := dc_at dkX5_rule_b1 2 rfl
theorem dX5_rule_27 : decode cX5_rule 27 = .ok (.aload_n 0, 1) := dc_at dkX5_rule_b1 3 rfl
theorem dX5_rule_28 : decode cX5_rule 28 = .ok (.getfield 17, 3) := dc_at dkX5_rule_b1 4 rfl
theorem dX5_rule_31 : decode cX5_rule 31 = .ok (.iload_n 1, 1) := dc_at dkX5_rule_b1 5 rfl
theorem dX5_rule_32 : decode cX5_rule 32 = .ok (.iaload, 1) := dc_at dkX5_rule_b1 6 rfl
theorem dX5_rule_33 : decode cX5_rule 33 = .ok (.goto 4, 3) := dc_at dkX5_rule_b1 7 rfl
theorem dX5_rule_36 : decode cX5_rule 36 = .ok (.iconst (-1), 1) := dc_at dkX5_rule_b1 8 rfl
theorem dX5_rule_37 : decode cX5_rule 37 = .ok (.ireturn, 1) := dc_at dkX5_rule_b1 9 rfl
def drX5_turnsOf_b0 : List (Nat × (Instr × Nat)) := [(0, (.iconst 0, 1)), (1, (.istore_n 3, 1)), (2, (.iconst 0, 1)), (3, (.istore 4, 2)), (5, (.iload 4, 2)), (7, (.iload_n 1, 1)), (8, (.iadd, 1)), (9, (.iload_n 2, 1)), (10, (.iload_n 3, 1)), (11, (.imul, 1))]
theorem dkX5_turnsOf_b0 : ((drX5_turnsOf_b0).all fun r => decide (decode cX5_turnsOf r.1 = .ok r.2)) = true := by decide +kernel
theorem dX5_turnsOf_0 : decode cX5_turnsOf 0 = .ok (.iconst 0, 1) := dc_at dkX5_turnsOf_b0 0 rfl
theorem dX5_turnsOf_1 : decode cX5_turnsOf 1 = .ok (.istore_n 3, 1) := dc_at dkX5_turnsOf_b0 1 rfl
theorem dX5_turnsOf_2 : decode cX5_turnsOf 2 = .ok (.iconst 0, 1) := dc_at dkX5_turnsOf_b0 2 rfl
theorem dX5_turnsOf_3 : decode cX5_turnsOf 3 = .ok (.istore 4, 2) := dc_at dkX5_turnsOf_b0 3 rfl
theorem dX5_turnsOf_5 : decode cX5_turnsOf 5 = .ok (.iload 4, 2) := dc_at dkX5_turnsOf_b0 4 rfl
theorem dX5_turnsOf_7 : decode cX5_turnsOf 7 = .ok (.iload_n 1, 1) := dc_at dkX5_turnsOf_b0 5 rfl
theorem dX5_turnsOf_8 : decode cX5_turnsOf 8 = .ok (.iadd, 1) := dc_at dkX5_turnsOf_b0 6 rfl
theorem dX5_turnsOf_9 : decode cX5_turnsOf 9 = .ok (.iload_n 2, 1) := dc_at dkX5_turnsOf_b0 7 rfl
theorem dX5_turnsOf_10 : decode cX5_turnsOf 10 = .ok (.iload_n 3, 1) := dc_at dkX5_turnsOf_b0 8 rfl
theorem dX5_turnsOf_11 : decode cX5_turnsOf 11 = .ok (.imul, 1) := dc_at dkX5_turnsOf_b0 9 rfl
def drX5_turnsOf_b1 : List (Nat × (Instr × Nat)) := [(12, (.iadd, 1)), (13, (.iload_n 0, 1)), (14, (.if_icmp .gt 19, 3)), (17, (.iload 4, 2)), (19, (.iload_n 1, 1)), (20, (.iload_n 2, 1)), (21, (.iload_n 3, 1)), (22, (.imul, 1)), (23, (.iadd, 1)), (24, (.iadd, 1))]
theorem dkX5_turnsOf_b1 : ((drX5_turnsOf_b1).all fun r => decide (decode cX5_turnsOf r.1 = .ok r.2)) = true := by decide +kernel
theorem dX5_turnsOf_12 : decode cX5_turnsOf 12 = .ok (.iadd, 1) := dc_at dkX5_turnsOf_b1 0 rfl
theorem dX5_turnsOf_13 : decode cX5_turnsOf 13 = .ok (.iload_n 0, 1) := dc_at dkX5_turnsOf_b1 1 rfl
theorem dX5_turnsOf_14 : decode cX5_turnsOf 14 = .ok (.if_icmp .gt 19, 3) := dc_at dkX5_turnsOf_b1 2 rfl
theorem dX5_turnsOf_17 : decode cX5_turnsOf 17 = .ok (.iload 4, 2) := dc_at dkX5_turnsOf_b1 3 rfl
theorem dX5_turnsOf_19 : decode cX5_turnsOf 19 = .ok (.iload_n 1, 1) := dc_at dkX5_turnsOf_b1 4 rfl
theorem dX5_turnsOf_20 : decode cX5_turnsOf 20 = .ok (.iload_n 2, 1) := dc_at dkX5_turnsOf_b1 5 rfl
theorem dX5_turnsOf_21 : decode cX5_turnsOf 21 = .ok (.iload_n 3, 1) := dc_at dkX5_turnsOf_b1 6 rfl
theorem dX5_turnsOf_22 : decode cX5_turnsOf 22 = .ok (.imul, 1) := dc_at dkX5_turnsOf_b1 7 rfl
theorem dX5_turnsOf_23 : decode cX5_turnsOf 23 = .ok (.iadd, 1) := dc_at dkX5_turnsOf_b1 8 rfl
theorem dX5_turnsOf_24 : decode cX5_turnsOf 24 = .ok (.iadd, 1) := dc_at dkX5_turnsOf_b1 9 rfl
def drX5_turnsOf_b2 : List (Nat × (Instr × Nat)) := [(25, (.istore 4, 2)), (27, (.iinc 3 1, 3)), (30, (.goto (-25), 3)), (33, (.iload_n 3, 1)), (34, (.ireturn, 1))]
theorem dkX5_turnsOf_b2 : ((drX5_turnsOf_b2).all fun r => decide (decode cX5_turnsOf r.1 = .ok r.2)) = true := by decide +kernel
theorem dX5_turnsOf_25 : decode cX5_turnsOf 25 = .ok (.istore 4, 2) := dc_at dkX5_turnsOf_b2 0 rfl
theorem dX5_turnsOf_27 : decode cX5_turnsOf 27 = .ok (.iinc 3 1, 3) := dc_at dkX5_turnsOf_b2 1 rfl
theorem dX5_turnsOf_30 : decode cX5_turnsOf 30 = .ok (.goto (-25), 3) := dc_at dkX5_turnsOf_b2 2 rfl
theorem dX5_turnsOf_33 : decode cX5_turnsOf 33 = .ok (.iload_n 3, 1) := dc_at dkX5_turnsOf_b2 3 rfl
theorem dX5_turnsOf_34 : decode cX5_turnsOf 34 = .ok (.ireturn, 1) := dc_at dkX5_turnsOf_b2 4 rfl
def drX5_turnsAt_b0 : List (Nat × (Instr × Nat)) := [(0, (.iload_n 1, 1)), (1, (.aload_n 0, 1)), (2, (.getfield 17, 3)), (5, (.iconst 1, 1)), (6, (.iaload, 1)), (7, (.aload_n 0, 1)), (8, (.getfield 17, 3)), (11, (.iconst 2, 1)), (12, (.iaload, 1)), (13, (.invokestatic 145, 3))]
theorem dkX5_turnsAt_b0 : ((drX5_turnsAt_b0).all fun r => decide (decode cX5_turnsAt r.1 = .ok r.2)) = true := by decide +kernel
theorem dX5_turnsAt_0 : decode cX5_turnsAt 0 = .ok (.iload_n 1, 1) := dc_at dkX5_turnsAt_b0 0 rfl
theorem dX5_turnsAt_1 : decode cX5_turnsAt 1 = .ok (.aload_n 0, 1) := dc_at dkX5_turnsAt_b0 1 rfl
theorem dX5_turnsAt_2 : decode cX5_turnsAt 2 = .ok (.getfield 17, 3) := dc_at dkX5_turnsAt_b0 2 rfl
theorem dX5_turnsAt_5 : decode cX5_turnsAt 5 = .ok (.iconst 1, 1) := dc_at dkX5_turnsAt_b0 3 rfl
theorem dX5_turnsAt_6 : decode cX5_turnsAt 6 = .ok (.iaload, 1) := dc_at dkX5_turnsAt_b0 4 rfl
theorem dX5_turnsAt_7 : decode cX5_turnsAt 7 = .ok (.aload_n 0, 1) := dc_at dkX5_turnsAt_b0 5 rfl
theorem dX5_turnsAt_8 : decode cX5_turnsAt 8 = .ok (.getfield 17, 3) := dc_at dkX5_turnsAt_b0 6 rfl
theorem dX5_turnsAt_11 : decode cX5_turnsAt 11 = .ok (.iconst 2, 1) := dc_at dkX5_turnsAt_b0 7 rfl
theorem dX5_turnsAt_12 : decode cX5_turnsAt 12 = .ok (.iaload, 1) := dc_at dkX5_turnsAt_b0 8 rfl
theorem dX5_turnsAt_13 : decode cX5_turnsAt 13 = .ok (.invokestatic 145, 3) := dc_at dkX5_turnsAt_b0 9 rfl
def drX5_turnsAt_b1 : List (Nat × (Instr × Nat)) := [(16, (.ireturn, 1))]
theorem dkX5_turnsAt_b1 : ((drX5_turnsAt_b1).all fun r => decide (decode cX5_turnsAt r.1 = .ok r.2)) = true := by decide +kernel
theorem dX5_turnsAt_16 : decode cX5_turnsAt 16 = .ok (.ireturn, 1) := dc_at dkX5_turnsAt_b1 0 rfl
def drX5_isPlace_b0 : List (Nat × (Instr × Nat)) := [(0, (.iload_n 1, 1)), (1, (.i2l, 1)), (2, (.lconst 0, 1)), (3, (.aload_n 0, 1)), (4, (.getfield 7, 3)), (7, (.sipush 366, 3)), (10, (.iaload, 1)), (11, (.i2l, 1)), (12, (.invokestatic 75, 3)), (15, (.ireturn, 1))]
theorem dkX5_isPlace_b0 : ((drX5_isPlace_b0).all fun r => decide (decode cX5_isPlace r.1 = .ok r.2)) = true := by decide +kernel
theorem dX5_isPlace_0 : decode cX5_isPlace 0 = .ok (.iload_n 1, 1) := dc_at dkX5_isPlace_b0 0 rfl
theorem dX5_isPlace_1 : decode cX5_isPlace 1 = .ok (.i2l, 1) := dc_at dkX5_isPlace_b0 1 rfl
theorem dX5_isPlace_2 : decode cX5_isPlace 2 = .ok (.lconst 0, 1) := dc_at dkX5_isPlace_b0 2 rfl
theorem dX5_isPlace_3 : decode cX5_isPlace 3 = .ok (.aload_n 0, 1) := dc_at dkX5_isPlace_b0 3 rfl
theorem dX5_isPlace_4 : decode cX5_isPlace 4 = .ok (.getfield 7, 3) := dc_at dkX5_isPlace_b0 4 rfl
theorem dX5_isPlace_7 : decode cX5_isPlace 7 = .ok (.sipush 366, 3) := dc_at dkX5_isPlace_b0 5 rfl
theorem dX5_isPlace_10 : decode cX5_isPlace 10 = .ok (.iaload, 1) := dc_at dkX5_isPlace_b0 6 rfl
theorem dX5_isPlace_11 : decode cX5_isPlace 11 = .ok (.i2l, 1) := dc_at dkX5_isPlace_b0 7 rfl
theorem dX5_isPlace_12 : decode cX5_isPlace 12 = .ok (.invokestatic 75, 3) := dc_at dkX5_isPlace_b0 8 rfl
theorem dX5_isPlace_15 : decode cX5_isPlace 15 = .ok (.ireturn, 1) := dc_at dkX5_isPlace_b0 9 rfl
def drX5_turns_b0 : List (Nat × (Instr × Nat)) := [(0, (.aload_n 0, 1)), (1, (.iload_n 1, 1)), (2, (.invokevirtual 149, 3)), (5, (.ifCond .ne 7, 3)), (8, (.iconst (-1), 1)), (9, (.goto 25, 3)), (12, (.aload_n 0, 1)), (13, (.iload_n 2, 1)), (14, (.ifCond .eq 16, 3)), (17, (.aload_n 0, 1))]
theorem dkX5_turns_b0 : ((drX5_turns_b0).all fun r => decide (decode cX5_turns r.1 = .ok r.2)) = true := by decide +kernel
theorem dX5_turns_0 : decode cX5_turns 0 = .ok (.aload_n 0, 1) := dc_at dkX5_turns_b0 0 rfl
theorem dX5_turns_1 : decode cX5_turns 1 = .ok (.iload_n 1, 1) := dc_at dkX5_turns_b0 1 rfl
theorem dX5_turns_2 : decode cX5_turns 2 = .ok (.invokevirtual 149, 3) := dc_at dkX5_turns_b0 2 rfl
theorem dX5_turns_5 : decode cX5_turns 5 = .ok (.ifCond .ne 7, 3) := dc_at dkX5_turns_b0 3 rfl
theorem dX5_turns_8 : decode cX5_turns 8 = .ok (.iconst (-1), 1) := dc_at dkX5_turns_b0 4 rfl
theorem dX5_turns_9 : decode cX5_turns 9 = .ok (.goto 25, 3) := dc_at dkX5_turns_b0 5 rfl
theorem dX5_turns_12 : decode cX5_turns 12 = .ok (.aload_n 0, 1) := dc_at dkX5_turns_b0 6 rfl
theorem dX5_turns_13 : decode cX5_turns 13 = .ok (.iload_n 2, 1) := dc_at dkX5_turns_b0 7 rfl
theorem dX5_turns_14 : decode cX5_turns 14 = .ok (.ifCond .eq 16, 3) := dc_at dkX5_turns_b0 8 rfl
theorem dX5_turns_17 : decode cX5_turns 17 = .ok (.aload_n 0, 1) := dc_at dkX5_turns_b0 9 rfl
def drX5_turns_b1 : List (Nat × (Instr × Nat)) := [(18, (.getfield 7, 3)), (21, (.sipush 366, 3)), (24, (.iaload, 1)), (25, (.iload_n 1, 1)), (26, (.isub, 1)), (27, (.goto 4, 3)), (30, (.iload_n 1, 1)), (31, (.invokevirtual 153, 3)), (34, (.ireturn, 1))]
theorem dkX5_turns_b1 : ((drX5_turns_b1).all fun r => decide (decode cX5_turns r.1 = .ok r.2)) = true := by decide +kernel
theorem dX5_turns_18 : decode cX5_turns 18 = .ok (.getfield 7, 3) := dc_at dkX5_turns_b1 0 rfl
theorem dX5_turns_21 : decode cX5_turns 21 = .ok (.sipush 366, 3) := dc_at dkX5_turns_b1 1 rfl
theorem dX5_turns_24 : decode cX5_turns 24 = .ok (.iaload, 1) := dc_at dkX5_turns_b1 2 rfl
theorem dX5_turns_25 : decode cX5_turns 25 = .ok (.iload_n 1, 1) := dc_at dkX5_turns_b1 3 rfl
theorem dX5_turns_26 : decode cX5_turns 26 = .ok (.isub, 1) := dc_at dkX5_turns_b1 4 rfl
theorem dX5_turns_27 : decode cX5_turns 27 = .ok (.goto 4, 3) := dc_at dkX5_turns_b1 5 rfl
theorem dX5_turns_30 : decode cX5_turns 30 = .ok (.iload_n 1, 1) := dc_at dkX5_turns_b1 6 rfl
theorem dX5_turns_31 : decode cX5_turns 31 = .ok (.invokevirtual 153, 3) := dc_at dkX5_turns_b1 7 rfl
theorem dX5_turns_34 : decode cX5_turns 34 = .ok (.ireturn, 1) := dc_at dkX5_turns_b1 8 rfl
def drX5_shows_b0 : List (Nat × (Instr × Nat)) := [(0, (.iload_n 1, 1)), (1, (.ifCond .lt 13, 3)), (4, (.iload_n 2, 1)), (5, (.i2l, 1)), (6, (.lconst 0, 1)), (7, (.lconst 1, 1)), (8, (.invokestatic 75, 3)), (11, (.ifCond .ne 5, 3)), (14, (.iconst (-1), 1)), (15, (.ireturn, 1))]
theorem dkX5_shows_b0 : ((drX5_shows_b0).all fun r => decide (decode cX5_shows r.1 = .ok r.2)) = true := by decide +kernel
theorem dX5_shows_0 : decode cX5_shows 0 = .ok (.iload_n 1, 1) := dc_at dkX5_shows_b0 0 rfl
theorem dX5_shows_1 : decode cX5_shows 1 = .ok (.ifCond .lt 13, 3) := dc_at dkX5_shows_b0 1 rfl
theorem dX5_shows_4 : decode cX5_shows 4 = .ok (.iload_n 2, 1) := dc_at dkX5_shows_b0 2 rfl
theorem dX5_shows_5 : decode cX5_shows 5 = .ok (.i2l, 1) := dc_at dkX5_shows_b0 3 rfl
theorem dX5_shows_6 : decode cX5_shows 6 = .ok (.lconst 0, 1) := dc_at dkX5_shows_b0 4 rfl
theorem dX5_shows_7 : decode cX5_shows 7 = .ok (.lconst 1, 1) := dc_at dkX5_shows_b0 5 rfl
theorem dX5_shows_8 : decode cX5_shows 8 = .ok (.invokestatic 75, 3) := dc_at dkX5_shows_b0 6 rfl
theorem dX5_shows_11 : decode cX5_shows 11 = .ok (.ifCond .ne 5, 3) := dc_at dkX5_shows_b0 7 rfl
theorem dX5_shows_14 : decode cX5_shows 14 = .ok (.iconst (-1), 1) := dc_at dkX5_shows_b0 8 rfl
theorem dX5_shows_15 : decode cX5_shows 15 = .ok (.ireturn, 1) := dc_at dkX5_shows_b0 9 rfl
def drX5_shows_b1 : List (Nat × (Instr × Nat)) := [(16, (.bipush (-4), 2)), (18, (.istore_n 3, 1)), (19, (.bipush (-4), 2)), (21, (.istore 4, 2)), (23, (.iconst 0, 1)), (24, (.istore 5, 2)), (26, (.iload 5, 2)), (28, (.aload_n 0, 1)), (29, (.getfield 7, 3)), (32, (.sipush 366, 3))]
theorem dkX5_shows_b1 : ((drX5_shows_b1).all fun r => decide (decode cX5_shows r.1 = .ok r.2)) = true := by decide +kernel
theorem dX5_shows_16 : decode cX5_shows 16 = .ok (.bipush (-4), 2) := dc_at dkX5_shows_b1 0 rfl
theorem dX5_shows_18 : decode cX5_shows 18 = .ok (.istore_n 3, 1) := dc_at dkX5_shows_b1 1 rfl
theorem dX5_shows_19 : decode cX5_shows 19 = .ok (.bipush (-4), 2) := dc_at dkX5_shows_b1 2 rfl
theorem dX5_shows_21 : decode cX5_shows 21 = .ok (.istore 4, 2) := dc_at dkX5_shows_b1 3 rfl
theorem dX5_shows_23 : decode cX5_shows 23 = .ok (.iconst 0, 1) := dc_at dkX5_shows_b1 4 rfl
theorem dX5_shows_24 : decode cX5_shows 24 = .ok (.istore 5, 2) := dc_at dkX5_shows_b1 5 rfl
theorem dX5_shows_26 : decode cX5_shows 26 = .ok (.iload 5, 2) := dc_at dkX5_shows_b1 6 rfl
theorem dX5_shows_28 : decode cX5_shows 28 = .ok (.aload_n 0, 1) := dc_at dkX5_shows_b1 7 rfl
theorem dX5_shows_29 : decode cX5_shows 29 = .ok (.getfield 7, 3) := dc_at dkX5_shows_b1 8 rfl
theorem dX5_shows_32 : decode cX5_shows 32 = .ok (.sipush 366, 3) := dc_at dkX5_shows_b1 9 rfl
def drX5_shows_b2 : List (Nat × (Instr × Nat)) := [(35, (.iaload, 1)), (36, (.if_icmp .gt 36, 3)), (39, (.aload_n 0, 1)), (40, (.iload 5, 2)), (42, (.invokevirtual 153, 3)), (45, (.iload_n 1, 1)), (46, (.if_icmp .ne 20, 3)), (49, (.iload_n 3, 1)), (50, (.bipush (-4), 2)), (52, (.if_icmp .ne 8, 3))]
theorem dkX5_shows_b2 : ((drX5_shows_b2).all fun r => decide (decode cX5_shows r.1 = .ok r.2)) = true := by decide +kernel
theorem dX5_shows_35 : decode cX5_shows 35 = .ok (.iaload, 1) := dc_at dkX5_shows_b2 0 rfl
theorem dX5_shows_36 : decode cX5_shows 36 = .ok (.if_icmp .gt 36, 3) := dc_at dkX5_shows_b2 1 rfl
theorem dX5_shows_39 : decode cX5_shows 39 = .ok (.aload_n 0, 1) := dc_at dkX5_shows_b2 2 rfl
theorem dX5_shows_40 : decode cX5_shows 40 = .ok (.iload 5, 2) := dc_at dkX5_shows_b2 3 rfl
theorem dX5_shows_42 : decode cX5_shows 42 = .ok (.invokevirtual 153, 3) := dc_at dkX5_shows_b2 4 rfl
theorem dX5_shows_45 : decode cX5_shows 45 = .ok (.iload_n 1, 1) := dc_at dkX5_shows_b2 5 rfl
theorem dX5_shows_46 : decode cX5_shows 46 = .ok (.if_icmp .ne 20, 3) := dc_at dkX5_shows_b2 6 rfl
theorem dX5_shows_49 : decode cX5_shows 49 = .ok (.iload_n 3, 1) := dc_at dkX5_shows_b2 7 rfl
theorem dX5_shows_50 : decode cX5_shows 50 = .ok (.bipush (-4), 2) := dc_at dkX5_shows_b2 8 rfl
theorem dX5_shows_52 : decode cX5_shows 52 = .ok (.if_icmp .ne 8, 3) := dc_at dkX5_shows_b2 9 rfl
def drX5_shows_b3 : List (Nat × (Instr × Nat)) := [(55, (.iload 5, 2)), (57, (.goto 4, 3)), (60, (.iload_n 3, 1)), (61, (.istore_n 3, 1)), (62, (.iload 5, 2)), (64, (.istore 4, 2)), (66, (.iinc 5 1, 3)), (69, (.goto (-43), 3)), (72, (.iload_n 2, 1)), (73, (.ifCond .ne 7, 3))]
theorem dkX5_shows_b3 : ((drX5_shows_b3).all fun r => decide (decode cX5_shows r.1 = .ok r.2)) = true := by decide +kernel
theorem dX5_shows_55 : decode cX5_shows 55 = .ok (.iload 5, 2) := dc_at dkX5_shows_b3 0 rfl
theorem dX5_shows_57 : decode cX5_shows 57 = .ok (.goto 4, 3) := dc_at dkX5_shows_b3 1 rfl
theorem dX5_shows_60 : decode cX5_shows 60 = .ok (.iload_n 3, 1) := dc_at dkX5_shows_b3 2 rfl
theorem dX5_shows_61 : decode cX5_shows 61 = .ok (.istore_n 3, 1) := dc_at dkX5_shows_b3 3 rfl
theorem dX5_shows_62 : decode cX5_shows 62 = .ok (.iload 5, 2) := dc_at dkX5_shows_b3 4 rfl
theorem dX5_shows_64 : decode cX5_shows 64 = .ok (.istore 4, 2) := dc_at dkX5_shows_b3 5 rfl
theorem dX5_shows_66 : decode cX5_shows 66 = .ok (.iinc 5 1, 3) := dc_at dkX5_shows_b3 6 rfl
theorem dX5_shows_69 : decode cX5_shows 69 = .ok (.goto (-43), 3) := dc_at dkX5_shows_b3 7 rfl
theorem dX5_shows_72 : decode cX5_shows 72 = .ok (.iload_n 2, 1) := dc_at dkX5_shows_b3 8 rfl
theorem dX5_shows_73 : decode cX5_shows 73 = .ok (.ifCond .ne 7, 3) := dc_at dkX5_shows_b3 9 rfl
def drX5_shows_b4 : List (Nat × (Instr × Nat)) := [(76, (.iload_n 3, 1)), (77, (.goto 5, 3)), (80, (.iload 4, 2)), (82, (.ireturn, 1))]
theorem dkX5_shows_b4 : ((drX5_shows_b4).all fun r => decide (decode cX5_shows r.1 = .ok r.2)) = true := by decide +kernel
theorem dX5_shows_76 : decode cX5_shows 76 = .ok (.iload_n 3, 1) := dc_at dkX5_shows_b4 0 rfl
theorem dX5_shows_77 : decode cX5_shows 77 = .ok (.goto 5, 3) := dc_at dkX5_shows_b4 1 rfl
theorem dX5_shows_80 : decode cX5_shows 80 = .ok (.iload 4, 2) := dc_at dkX5_shows_b4 2 rfl
theorem dX5_shows_82 : decode cX5_shows 82 = .ok (.ireturn, 1) := dc_at dkX5_shows_b4 3 rfl
def drX5_meet_b0 : List (Nat × (Instr × Nat)) := [(0, (.iconst 0, 1)), (1, (.istore_n 1, 1)), (2, (.aload_n 0, 1)), (3, (.iload_n 1, 1)), (4, (.invokevirtual 153, 3)), (7, (.aload_n 0, 1)), (8, (.aload_n 0, 1)), (9, (.getfield 7, 3)), (12, (.sipush 366, 3)), (15, (.iaload, 1))]
theorem dkX5_meet_b0 : ((drX5_meet_b0).all fun r => decide (decode cX5_meet r.1 = .ok r.2)) = true := by decide +kernel
theorem dX5_meet_0 : decode cX5_meet 0 = .ok (.iconst 0, 1) := dc_at dkX5_meet_b0 0 rfl
theorem dX5_meet_1 : decode cX5_meet 1 = .ok (.istore_n 1, 1) := dc_at dkX5_meet_b0 1 rfl
theorem dX5_meet_2 : decode cX5_meet 2 = .ok (.aload_n 0, 1) := dc_at dkX5_meet_b0 2 rfl
theorem dX5_meet_3 : decode cX5_meet 3 = .ok (.iload_n 1, 1) := dc_at dkX5_meet_b0 3 rfl
theorem dX5_meet_4 : decode cX5_meet 4 = .ok (.invokevirtual 153, 3) := dc_at dkX5_meet_b0 4 rfl
theorem dX5_meet_7 : decode cX5_meet 7 = .ok (.aload_n 0, 1) := dc_at dkX5_meet_b0 5 rfl
theorem dX5_meet_8 : decode cX5_meet 8 = .ok (.aload_n 0, 1) := dc_at dkX5_meet_b0 6 rfl
theorem dX5_meet_9 : decode cX5_meet 9 = .ok (.getfield 7, 3) := dc_at dkX5_meet_b0 7 rfl
theorem dX5_meet_12 : decode cX5_meet 12 = .ok (.sipush 366, 3) := dc_at dkX5_meet_b0 8 rfl
theorem dX5_meet_15 : decode cX5_meet 15 = .ok (.iaload, 1) := dc_at dkX5_meet_b0 9 rfl
def drX5_meet_b1 : List (Nat × (Instr × Nat)) := [(16, (.iload_n 1, 1)), (17, (.isub, 1)), (18, (.invokevirtual 153, 3)), (21, (.if_icmp .ge 9, 3)), (24, (.iinc 1 1, 3)), (27, (.goto (-25), 3)), (30, (.iload_n 1, 1)), (31, (.ireturn, 1))]
theorem dkX5_meet_b1 : ((drX5_meet_b1).all fun r => decide (decode cX5_meet r.1 = .ok r.2)) = true := by decide +kernel
theorem dX5_meet_16 : decode cX5_meet 16 = .ok (.iload_n 1, 1) := dc_at dkX5_meet_b1 0 rfl
theorem dX5_meet_17 : decode cX5_meet 17 = .ok (.isub, 1) := dc_at dkX5_meet_b1 1 rfl
theorem dX5_meet_18 : decode cX5_meet 18 = .ok (.invokevirtual 153, 3) := dc_at dkX5_meet_b1 2 rfl
theorem dX5_meet_21 : decode cX5_meet 21 = .ok (.if_icmp .ge 9, 3) := dc_at dkX5_meet_b1 3 rfl
theorem dX5_meet_24 : decode cX5_meet 24 = .ok (.iinc 1 1, 3) := dc_at dkX5_meet_b1 4 rfl
theorem dX5_meet_27 : decode cX5_meet 27 = .ok (.goto (-25), 3) := dc_at dkX5_meet_b1 5 rfl
theorem dX5_meet_30 : decode cX5_meet 30 = .ok (.iload_n 1, 1) := dc_at dkX5_meet_b1 6 rfl
theorem dX5_meet_31 : decode cX5_meet 31 = .ok (.ireturn, 1) := dc_at dkX5_meet_b1 7 rfl
def drX5_apart_b0 : List (Nat × (Instr × Nat)) := [(0, (.iload_n 0, 1)), (1, (.iload_n 1, 1)), (2, (.if_icmp .ge 9, 3)), (5, (.iload_n 1, 1)), (6, (.iload_n 0, 1)), (7, (.isub, 1)), (8, (.goto 6, 3)), (11, (.iload_n 0, 1)), (12, (.iload_n 1, 1)), (13, (.isub, 1))]
theorem dkX5_apart_b0 : ((drX5_apart_b0).all fun r => decide (decode cX5_apart r.1 = .ok r.2)) = true := by decide +kernel
theorem dX5_apart_0 : decode cX5_apart 0 = .ok (.iload_n 0, 1) := dc_at dkX5_apart_b0 0 rfl
theorem dX5_apart_1 : decode cX5_apart 1 = .ok (.iload_n 1, 1) := dc_at dkX5_apart_b0 1 rfl
theorem dX5_apart_2 : decode cX5_apart 2 = .ok (.if_icmp .ge 9, 3) := dc_at dkX5_apart_b0 2 rfl
theorem dX5_apart_5 : decode cX5_apart 5 = .ok (.iload_n 1, 1) := dc_at dkX5_apart_b0 3 rfl
theorem dX5_apart_6 : decode cX5_apart 6 = .ok (.iload_n 0, 1) := dc_at dkX5_apart_b0 4 rfl
theorem dX5_apart_7 : decode cX5_apart 7 = .ok (.isub, 1) := dc_at dkX5_apart_b0 5 rfl
theorem dX5_apart_8 : decode cX5_apart 8 = .ok (.goto 6, 3) := dc_at dkX5_apart_b0 6 rfl
theorem dX5_apart_11 : decode cX5_apart 11 = .ok (.iload_n 0, 1) := dc_at dkX5_apart_b0 7 rfl
theorem dX5_apart_12 : decode cX5_apart 12 = .ok (.iload_n 1, 1) := dc_at dkX5_apart_b0 8 rfl
theorem dX5_apart_13 : decode cX5_apart 13 = .ok (.isub, 1) := dc_at dkX5_apart_b0 9 rfl
def drX5_apart_b1 : List (Nat × (Instr × Nat)) := [(14, (.ireturn, 1))]
theorem dkX5_apart_b1 : ((drX5_apart_b1).all fun r => decide (decode cX5_apart r.1 = .ok r.2)) = true := by decide +kernel
theorem dX5_apart_14 : decode cX5_apart 14 = .ok (.ireturn, 1) := dc_at dkX5_apart_b1 0 rfl
def drX5_playedTo_b0 : List (Nat × (Instr × Nat)) := [(0, (.iload_n 1, 1)), (1, (.iload_n 2, 1)), (2, (.if_icmp .ne 7, 3)), (5, (.iconst 0, 1)), (6, (.goto 22, 3)), (9, (.aload_n 0, 1)), (10, (.getfield 17, 3)), (13, (.iconst 5, 1)), (14, (.iaload, 1)), (15, (.aload_n 0, 1))]
theorem dkX5_playedTo_b0 : ((drX5_playedTo_b0).all fun r => decide (decode cX5_playedTo r.1 = .ok r.2)) = true := by decide +kernel
theorem dX5_playedTo_0 : decode cX5_playedTo 0 = .ok (.iload_n 1, 1) := dc_at dkX5_playedTo_b0 0 rfl
theorem dX5_playedTo_1 : decode cX5_playedTo 1 = .ok (.iload_n 2, 1) := dc_at dkX5_playedTo_b0 1 rfl
theorem dX5_playedTo_2 : decode cX5_playedTo 2 = .ok (.if_icmp .ne 7, 3) := dc_at dkX5_playedTo_b0 2 rfl
theorem dX5_playedTo_5 : decode cX5_playedTo 5 = .ok (.iconst 0, 1) := dc_at dkX5_playedTo_b0 3 rfl
theorem dX5_playedTo_6 : decode cX5_playedTo 6 = .ok (.goto 22, 3) := dc_at dkX5_playedTo_b0 4 rfl
theorem dX5_playedTo_9 : decode cX5_playedTo 9 = .ok (.aload_n 0, 1) := dc_at dkX5_playedTo_b0 5 rfl
theorem dX5_playedTo_10 : decode cX5_playedTo 10 = .ok (.getfield 17, 3) := dc_at dkX5_playedTo_b0 6 rfl
theorem dX5_playedTo_13 : decode cX5_playedTo 13 = .ok (.iconst 5, 1) := dc_at dkX5_playedTo_b0 7 rfl
theorem dX5_playedTo_14 : decode cX5_playedTo 14 = .ok (.iaload, 1) := dc_at dkX5_playedTo_b0 8 rfl
theorem dX5_playedTo_15 : decode cX5_playedTo 15 = .ok (.aload_n 0, 1) := dc_at dkX5_playedTo_b0 9 rfl
def drX5_playedTo_b1 : List (Nat × (Instr × Nat)) := [(16, (.getfield 17, 3)), (19, (.iconst 3, 1)), (20, (.iaload, 1)), (21, (.iload_n 1, 1)), (22, (.iload_n 2, 1)), (23, (.invokestatic 156, 3)), (26, (.imul, 1)), (27, (.iadd, 1)), (28, (.ireturn, 1))]
theorem dkX5_playedTo_b1 : ((drX5_playedTo_b1).all fun r => decide (decode cX5_playedTo r.1 = .ok r.2)) = true := by decide +kernel
theorem dX5_playedTo_16 : decode cX5_playedTo 16 = .ok (.getfield 17, 3) := dc_at dkX5_playedTo_b1 0 rfl
theorem dX5_playedTo_19 : decode cX5_playedTo 19 = .ok (.iconst 3, 1) := dc_at dkX5_playedTo_b1 1 rfl
theorem dX5_playedTo_20 : decode cX5_playedTo 20 = .ok (.iaload, 1) := dc_at dkX5_playedTo_b1 2 rfl
theorem dX5_playedTo_21 : decode cX5_playedTo 21 = .ok (.iload_n 1, 1) := dc_at dkX5_playedTo_b1 3 rfl
theorem dX5_playedTo_22 : decode cX5_playedTo 22 = .ok (.iload_n 2, 1) := dc_at dkX5_playedTo_b1 4 rfl
theorem dX5_playedTo_23 : decode cX5_playedTo 23 = .ok (.invokestatic 156, 3) := dc_at dkX5_playedTo_b1 5 rfl
theorem dX5_playedTo_26 : decode cX5_playedTo 26 = .ok (.imul, 1) := dc_at dkX5_playedTo_b1 6 rfl
theorem dX5_playedTo_27 : decode cX5_playedTo 27 = .ok (.iadd, 1) := dc_at dkX5_playedTo_b1 7 rfl
theorem dX5_playedTo_28 : decode cX5_playedTo 28 = .ok (.ireturn, 1) := dc_at dkX5_playedTo_b1 8 rfl
def drX5_woundTo_b0 : List (Nat × (Instr × Nat)) := [(0, (.iload_n 1, 1)), (1, (.iload_n 2, 1)), (2, (.if_icmp .ne 5, 3)), (5, (.iconst 0, 1)), (6, (.ireturn, 1)), (7, (.iload_n 2, 1)), (8, (.iload_n 1, 1)), (9, (.if_icmp .le 17, 3)), (12, (.aload_n 0, 1)), (13, (.iload_n 2, 1))]
theorem dkX5_woundTo_b0 : ((drX5_woundTo_b0).all fun r => decide (decode cX5_woundTo r.1 = .ok r.2)) = true := by decide +kernel
theorem dX5_woundTo_0 : decode cX5_woundTo 0 = .ok (.iload_n 1, 1) := dc_at dkX5_woundTo_b0 0 rfl
theorem dX5_woundTo_1 : decode cX5_woundTo 1 = .ok (.iload_n 2, 1) := dc_at dkX5_woundTo_b0 1 rfl
theorem dX5_woundTo_2 : decode cX5_woundTo 2 = .ok (.if_icmp .ne 5, 3) := dc_at dkX5_woundTo_b0 2 rfl
theorem dX5_woundTo_5 : decode cX5_woundTo 5 = .ok (.iconst 0, 1) := dc_at dkX5_woundTo_b0 3 rfl
theorem dX5_woundTo_6 : decode cX5_woundTo 6 = .ok (.ireturn, 1) := dc_at dkX5_woundTo_b0 4 rfl
theorem dX5_woundTo_7 : decode cX5_woundTo 7 = .ok (.iload_n 2, 1) := dc_at dkX5_woundTo_b0 5 rfl
theorem dX5_woundTo_8 : decode cX5_woundTo 8 = .ok (.iload_n 1, 1) := dc_at dkX5_woundTo_b0 6 rfl
theorem dX5_woundTo_9 : decode cX5_woundTo 9 = .ok (.if_icmp .le 17, 3) := dc_at dkX5_woundTo_b0 7 rfl
theorem dX5_woundTo_12 : decode cX5_woundTo 12 = .ok (.aload_n 0, 1) := dc_at dkX5_woundTo_b0 8 rfl
theorem dX5_woundTo_13 : decode cX5_woundTo 13 = .ok (.iload_n 2, 1) := dc_at dkX5_woundTo_b0 9 rfl
def drX5_woundTo_b1 : List (Nat × (Instr × Nat)) := [(14, (.invokevirtual 153, 3)), (17, (.aload_n 0, 1)), (18, (.iload_n 1, 1)), (19, (.invokevirtual 153, 3)), (22, (.isub, 1)), (23, (.goto 32, 3)), (26, (.aload_n 0, 1)), (27, (.aload_n 0, 1)), (28, (.getfield 7, 3)), (31, (.sipush 366, 3))]
theorem dkX5_woundTo_b1 : ((drX5_woundTo_b1).all fun r => decide (decode cX5_woundTo r.1 = .ok r.2)) = true := by decide +kernel
theorem dX5_woundTo_14 : decode cX5_woundTo 14 = .ok (.invokevirtual 153, 3) := dc_at dkX5_woundTo_b1 0 rfl
theorem dX5_woundTo_17 : decode cX5_woundTo 17 = .ok (.aload_n 0, 1) := dc_at dkX5_woundTo_b1 1 rfl
theorem dX5_woundTo_18 : decode cX5_woundTo 18 = .ok (.iload_n 1, 1) := dc_at dkX5_woundTo_b1 2 rfl
theorem dX5_woundTo_19 : decode cX5_woundTo 19 = .ok (.invokevirtual 153, 3) := dc_at dkX5_woundTo_b1 3 rfl
theorem dX5_woundTo_22 : decode cX5_woundTo 22 = .ok (.isub, 1) := dc_at dkX5_woundTo_b1 4 rfl
theorem dX5_woundTo_23 : decode cX5_woundTo 23 = .ok (.goto 32, 3) := dc_at dkX5_woundTo_b1 5 rfl
theorem dX5_woundTo_26 : decode cX5_woundTo 26 = .ok (.aload_n 0, 1) := dc_at dkX5_woundTo_b1 6 rfl
theorem dX5_woundTo_27 : decode cX5_woundTo 27 = .ok (.aload_n 0, 1) := dc_at dkX5_woundTo_b1 7 rfl
theorem dX5_woundTo_28 : decode cX5_woundTo 28 = .ok (.getfield 7, 3) := dc_at dkX5_woundTo_b1 8 rfl
theorem dX5_woundTo_31 : decode cX5_woundTo 31 = .ok (.sipush 366, 3) := dc_at dkX5_woundTo_b1 9 rfl
def drX5_woundTo_b2 : List (Nat × (Instr × Nat)) := [(34, (.iaload, 1)), (35, (.iload_n 2, 1)), (36, (.isub, 1)), (37, (.invokevirtual 153, 3)), (40, (.aload_n 0, 1)), (41, (.aload_n 0, 1)), (42, (.getfield 7, 3)), (45, (.sipush 366, 3)), (48, (.iaload, 1)), (49, (.iload_n 1, 1))]
theorem dkX5_woundTo_b2 : ((drX5_woundTo_b2).all fun r => decide (decode cX5_woundTo r.1 = .ok r.2)) = true := by decide +kernel
theorem dX5_woundTo_34 : decode cX5_woundTo 34 = .ok (.iaload, 1) := dc_at dkX5_woundTo_b2 0 rfl
theorem dX5_woundTo_35 : decode cX5_woundTo 35 = .ok (.iload_n 2, 1) := dc_at dkX5_woundTo_b2 1 rfl
theorem dX5_woundTo_36 : decode cX5_woundTo 36 = .ok (.isub, 1) := dc_at dkX5_woundTo_b2 2 rfl
theorem dX5_woundTo_37 : decode cX5_woundTo 37 = .ok (.invokevirtual 153, 3) := dc_at dkX5_woundTo_b2 3 rfl
theorem dX5_woundTo_40 : decode cX5_woundTo 40 = .ok (.aload_n 0, 1) := dc_at dkX5_woundTo_b2 4 rfl
theorem dX5_woundTo_41 : decode cX5_woundTo 41 = .ok (.aload_n 0, 1) := dc_at dkX5_woundTo_b2 5 rfl
theorem dX5_woundTo_42 : decode cX5_woundTo 42 = .ok (.getfield 7, 3) := dc_at dkX5_woundTo_b2 6 rfl
theorem dX5_woundTo_45 : decode cX5_woundTo 45 = .ok (.sipush 366, 3) := dc_at dkX5_woundTo_b2 7 rfl
theorem dX5_woundTo_48 : decode cX5_woundTo 48 = .ok (.iaload, 1) := dc_at dkX5_woundTo_b2 8 rfl
theorem dX5_woundTo_49 : decode cX5_woundTo 49 = .ok (.iload_n 1, 1) := dc_at dkX5_woundTo_b2 9 rfl
def drX5_woundTo_b3 : List (Nat × (Instr × Nat)) := [(50, (.isub, 1)), (51, (.invokevirtual 153, 3)), (54, (.isub, 1)), (55, (.istore_n 3, 1)), (56, (.iconst 2, 1)), (57, (.aload_n 0, 1)), (58, (.getfield 17, 3)), (61, (.iconst 5, 1)), (62, (.iaload, 1)), (63, (.imul, 1))]
theorem dkX5_woundTo_b3 : ((drX5_woundTo_b3).all fun r => decide (decode cX5_woundTo r.1 = .ok r.2)) = true := by decide +kernel
theorem dX5_woundTo_50 : decode cX5_woundTo 50 = .ok (.isub, 1) := dc_at dkX5_woundTo_b3 0 rfl
theorem dX5_woundTo_51 : decode cX5_woundTo 51 = .ok (.invokevirtual 153, 3) := dc_at dkX5_woundTo_b3 1 rfl
theorem dX5_woundTo_54 : decode cX5_woundTo 54 = .ok (.isub, 1) := dc_at dkX5_woundTo_b3 2 rfl
theorem dX5_woundTo_55 : decode cX5_woundTo 55 = .ok (.istore_n 3, 1) := dc_at dkX5_woundTo_b3 3 rfl
theorem dX5_woundTo_56 : decode cX5_woundTo 56 = .ok (.iconst 2, 1) := dc_at dkX5_woundTo_b3 4 rfl
theorem dX5_woundTo_57 : decode cX5_woundTo 57 = .ok (.aload_n 0, 1) := dc_at dkX5_woundTo_b3 5 rfl
theorem dX5_woundTo_58 : decode cX5_woundTo 58 = .ok (.getfield 17, 3) := dc_at dkX5_woundTo_b3 6 rfl
theorem dX5_woundTo_61 : decode cX5_woundTo 61 = .ok (.iconst 5, 1) := dc_at dkX5_woundTo_b3 7 rfl
theorem dX5_woundTo_62 : decode cX5_woundTo 62 = .ok (.iaload, 1) := dc_at dkX5_woundTo_b3 8 rfl
theorem dX5_woundTo_63 : decode cX5_woundTo 63 = .ok (.imul, 1) := dc_at dkX5_woundTo_b3 9 rfl
def drX5_woundTo_b4 : List (Nat × (Instr × Nat)) := [(64, (.aload_n 0, 1)), (65, (.getfield 17, 3)), (68, (.iconst 4, 1)), (69, (.iaload, 1)), (70, (.iload_n 3, 1)), (71, (.imul, 1)), (72, (.iadd, 1)), (73, (.ireturn, 1))]
theorem dkX5_woundTo_b4 : ((drX5_woundTo_b4).all fun r => decide (decode cX5_woundTo r.1 = .ok r.2)) = true := by decide +kernel
theorem dX5_woundTo_64 : decode cX5_woundTo 64 = .ok (.aload_n 0, 1) := dc_at dkX5_woundTo_b4 0 rfl
theorem dX5_woundTo_65 : decode cX5_woundTo 65 = .ok (.getfield 17, 3) := dc_at dkX5_woundTo_b4 1 rfl
theorem dX5_woundTo_68 : decode cX5_woundTo 68 = .ok (.iconst 4, 1) := dc_at dkX5_woundTo_b4 2 rfl
theorem dX5_woundTo_69 : decode cX5_woundTo 69 = .ok (.iaload, 1) := dc_at dkX5_woundTo_b4 3 rfl
theorem dX5_woundTo_70 : decode cX5_woundTo 70 = .ok (.iload_n 3, 1) := dc_at dkX5_woundTo_b4 4 rfl
theorem dX5_woundTo_71 : decode cX5_woundTo 71 = .ok (.imul, 1) := dc_at dkX5_woundTo_b4 5 rfl
theorem dX5_woundTo_72 : decode cX5_woundTo 72 = .ok (.iadd, 1) := dc_at dkX5_woundTo_b4 6 rfl
theorem dX5_woundTo_73 : decode cX5_woundTo 73 = .ok (.ireturn, 1) := dc_at dkX5_woundTo_b4 7 rfl
def drX5_sooner_b0 : List (Nat × (Instr × Nat)) := [(0, (.aload_n 0, 1)), (1, (.iload_n 1, 1)), (2, (.iload_n 2, 1)), (3, (.invokevirtual 159, 3)), (6, (.aload_n 0, 1)), (7, (.iload_n 1, 1)), (8, (.iload_n 2, 1)), (9, (.invokevirtual 162, 3)), (12, (.invokestatic 165, 3)), (15, (.ireturn, 1))]
theorem dkX5_sooner_b0 : ((drX5_sooner_b0).all fun r => decide (decode cX5_sooner r.1 = .ok r.2)) = true := by decide +kernel
theorem dX5_sooner_0 : decode cX5_sooner 0 = .ok (.aload_n 0, 1) := dc_at dkX5_sooner_b0 0 rfl
theorem dX5_sooner_1 : decode cX5_sooner 1 = .ok (.iload_n 1, 1) := dc_at dkX5_sooner_b0 1 rfl
theorem dX5_sooner_2 : decode cX5_sooner 2 = .ok (.iload_n 2, 1) := dc_at dkX5_sooner_b0 2 rfl
theorem dX5_sooner_3 : decode cX5_sooner 3 = .ok (.invokevirtual 159, 3) := dc_at dkX5_sooner_b0 3 rfl
theorem dX5_sooner_6 : decode cX5_sooner 6 = .ok (.aload_n 0, 1) := dc_at dkX5_sooner_b0 4 rfl
theorem dX5_sooner_7 : decode cX5_sooner 7 = .ok (.iload_n 1, 1) := dc_at dkX5_sooner_b0 5 rfl
theorem dX5_sooner_8 : decode cX5_sooner 8 = .ok (.iload_n 2, 1) := dc_at dkX5_sooner_b0 6 rfl
theorem dX5_sooner_9 : decode cX5_sooner 9 = .ok (.invokevirtual 162, 3) := dc_at dkX5_sooner_b0 7 rfl
theorem dX5_sooner_12 : decode cX5_sooner 12 = .ok (.invokestatic 165, 3) := dc_at dkX5_sooner_b0 8 rfl
theorem dX5_sooner_15 : decode cX5_sooner 15 = .ok (.ireturn, 1) := dc_at dkX5_sooner_b0 9 rfl
def drX5_ticks_b0 : List (Nat × (Instr × Nat)) := [(0, (.aload_n 0, 1)), (1, (.iload_n 1, 1)), (2, (.invokevirtual 149, 3)), (5, (.ifCond .eq 23, 3)), (8, (.aload_n 0, 1)), (9, (.iload_n 2, 1)), (10, (.invokevirtual 149, 3)), (13, (.ifCond .eq 15, 3)), (16, (.iload_n 3, 1)), (17, (.i2l, 1))]
theorem dkX5_ticks_b0 : ((drX5_ticks_b0).all fun r => decide (decode cX5_ticks r.1 = .ok r.2)) = true := by decide +kernel
theorem dX5_ticks_0 : decode cX5_ticks 0 = .ok (.aload_n 0, 1) := dc_at dkX5_ticks_b0 0 rfl
theorem dX5_ticks_1 : decode cX5_ticks 1 = .ok (.iload_n 1, 1) := dc_at dkX5_ticks_b0 1 rfl
theorem dX5_ticks_2 : decode cX5_ticks 2 = .ok (.invokevirtual 149, 3) := dc_at dkX5_ticks_b0 2 rfl
theorem dX5_ticks_5 : decode cX5_ticks 5 = .ok (.ifCond .eq 23, 3) := dc_at dkX5_ticks_b0 3 rfl
theorem dX5_ticks_8 : decode cX5_ticks 8 = .ok (.aload_n 0, 1) := dc_at dkX5_ticks_b0 4 rfl
theorem dX5_ticks_9 : decode cX5_ticks 9 = .ok (.iload_n 2, 1) := dc_at dkX5_ticks_b0 5 rfl
theorem dX5_ticks_10 : decode cX5_ticks 10 = .ok (.invokevirtual 149, 3) := dc_at dkX5_ticks_b0 6 rfl
theorem dX5_ticks_13 : decode cX5_ticks 13 = .ok (.ifCond .eq 15, 3) := dc_at dkX5_ticks_b0 7 rfl
theorem dX5_ticks_16 : decode cX5_ticks 16 = .ok (.iload_n 3, 1) := dc_at dkX5_ticks_b0 8 rfl
theorem dX5_ticks_17 : decode cX5_ticks 17 = .ok (.i2l, 1) := dc_at dkX5_ticks_b0 9 rfl
def drX5_ticks_b1 : List (Nat × (Instr × Nat)) := [(18, (.lconst 0, 1)), (19, (.ldc2_w 168, 3)), (22, (.invokestatic 75, 3)), (25, (.ifCond .ne 5, 3)), (28, (.iconst (-1), 1)), (29, (.ireturn, 1)), (30, (.iload_n 3, 1)), (31, (.ifCond .ne 12, 3)), (34, (.aload_n 0, 1)), (35, (.iload_n 1, 1))]
theorem dkX5_ticks_b1 : ((drX5_ticks_b1).all fun r => decide (decode cX5_ticks r.1 = .ok r.2)) = true := by decide +kernel
theorem dX5_ticks_18 : decode cX5_ticks 18 = .ok (.lconst 0, 1) := dc_at dkX5_ticks_b1 0 rfl
theorem dX5_ticks_19 : decode cX5_ticks 19 = .ok (.ldc2_w 168, 3) := dc_at dkX5_ticks_b1 1 rfl
theorem dX5_ticks_22 : decode cX5_ticks 22 = .ok (.invokestatic 75, 3) := dc_at dkX5_ticks_b1 2 rfl
theorem dX5_ticks_25 : decode cX5_ticks 25 = .ok (.ifCond .ne 5, 3) := dc_at dkX5_ticks_b1 3 rfl
theorem dX5_ticks_28 : decode cX5_ticks 28 = .ok (.iconst (-1), 1) := dc_at dkX5_ticks_b1 4 rfl
theorem dX5_ticks_29 : decode cX5_ticks 29 = .ok (.ireturn, 1) := dc_at dkX5_ticks_b1 5 rfl
theorem dX5_ticks_30 : decode cX5_ticks 30 = .ok (.iload_n 3, 1) := dc_at dkX5_ticks_b1 6 rfl
theorem dX5_ticks_31 : decode cX5_ticks 31 = .ok (.ifCond .ne 12, 3) := dc_at dkX5_ticks_b1 7 rfl
theorem dX5_ticks_34 : decode cX5_ticks 34 = .ok (.aload_n 0, 1) := dc_at dkX5_ticks_b1 8 rfl
theorem dX5_ticks_35 : decode cX5_ticks 35 = .ok (.iload_n 1, 1) := dc_at dkX5_ticks_b1 9 rfl
def drX5_ticks_b2 : List (Nat × (Instr × Nat)) := [(36, (.iload_n 2, 1)), (37, (.invokevirtual 159, 3)), (40, (.goto 23, 3)), (43, (.iload_n 3, 1)), (44, (.iconst 1, 1)), (45, (.if_icmp .ne 12, 3)), (48, (.aload_n 0, 1)), (49, (.iload_n 1, 1)), (50, (.iload_n 2, 1)), (51, (.invokevirtual 162, 3))]
theorem dkX5_ticks_b2 : ((drX5_ticks_b2).all fun r => decide (decode cX5_ticks r.1 = .ok r.2)) = true := by decide +kernel
theorem dX5_ticks_36 : decode cX5_ticks 36 = .ok (.iload_n 2, 1) := dc_at dkX5_ticks_b2 0 rfl
theorem dX5_ticks_37 : decode cX5_ticks 37 = .ok (.invokevirtual 159, 3) := dc_at dkX5_ticks_b2 1 rfl
theorem dX5_ticks_40 : decode cX5_ticks 40 = .ok (.goto 23, 3) := dc_at dkX5_ticks_b2 2 rfl
theorem dX5_ticks_43 : decode cX5_ticks 43 = .ok (.iload_n 3, 1) := dc_at dkX5_ticks_b2 3 rfl
theorem dX5_ticks_44 : decode cX5_ticks 44 = .ok (.iconst 1, 1) := dc_at dkX5_ticks_b2 4 rfl
theorem dX5_ticks_45 : decode cX5_ticks 45 = .ok (.if_icmp .ne 12, 3) := dc_at dkX5_ticks_b2 5 rfl
theorem dX5_ticks_48 : decode cX5_ticks 48 = .ok (.aload_n 0, 1) := dc_at dkX5_ticks_b2 6 rfl
theorem dX5_ticks_49 : decode cX5_ticks 49 = .ok (.iload_n 1, 1) := dc_at dkX5_ticks_b2 7 rfl
theorem dX5_ticks_50 : decode cX5_ticks 50 = .ok (.iload_n 2, 1) := dc_at dkX5_ticks_b2 8 rfl
theorem dX5_ticks_51 : decode cX5_ticks 51 = .ok (.invokevirtual 162, 3) := dc_at dkX5_ticks_b2 9 rfl
def drX5_ticks_b3 : List (Nat × (Instr × Nat)) := [(54, (.goto 9, 3)), (57, (.aload_n 0, 1)), (58, (.iload_n 1, 1)), (59, (.iload_n 2, 1)), (60, (.invokevirtual 170, 3)), (63, (.ireturn, 1))]
theorem dkX5_ticks_b3 : ((drX5_ticks_b3).all fun r => decide (decode cX5_ticks r.1 = .ok r.2)) = true := by decide +kernel
theorem dX5_ticks_54 : decode cX5_ticks 54 = .ok (.goto 9, 3) := dc_at dkX5_ticks_b3 0 rfl
theorem dX5_ticks_57 : decode cX5_ticks 57 = .ok (.aload_n 0, 1) := dc_at dkX5_ticks_b3 1 rfl
theorem dX5_ticks_58 : decode cX5_ticks 58 = .ok (.iload_n 1, 1) := dc_at dkX5_ticks_b3 2 rfl
theorem dX5_ticks_59 : decode cX5_ticks 59 = .ok (.iload_n 2, 1) := dc_at dkX5_ticks_b3 3 rfl
theorem dX5_ticks_60 : decode cX5_ticks 60 = .ok (.invokevirtual 170, 3) := dc_at dkX5_ticks_b3 4 rfl
theorem dX5_ticks_63 : decode cX5_ticks 63 = .ok (.ireturn, 1) := dc_at dkX5_ticks_b3 5 rfl
def drX5_goesTo_b0 : List (Nat × (Instr × Nat)) := [(0, (.aload_n 0, 1)), (1, (.aload_n 0, 1)), (2, (.getfield 7, 3)), (5, (.sipush 325, 3)), (8, (.iaload, 1)), (9, (.iload_n 1, 1)), (10, (.invokevirtual 170, 3)), (13, (.istore_n 2, 1)), (14, (.aload_n 0, 1)), (15, (.getfield 7, 3))]
theorem dkX5_goesTo_b0 : ((drX5_goesTo_b0).all fun r => decide (decode cX5_goesTo r.1 = .ok r.2)) = true := by decide +kernel
theorem dX5_goesTo_0 : decode cX5_goesTo 0 = .ok (.aload_n 0, 1) := dc_at dkX5_goesTo_b0 0 rfl
theorem dX5_goesTo_1 : decode cX5_goesTo 1 = .ok (.aload_n 0, 1) := dc_at dkX5_goesTo_b0 1 rfl
theorem dX5_goesTo_2 : decode cX5_goesTo 2 = .ok (.getfield 7, 3) := dc_at dkX5_goesTo_b0 2 rfl
theorem dX5_goesTo_5 : decode cX5_goesTo 5 = .ok (.sipush 325, 3) := dc_at dkX5_goesTo_b0 3 rfl
theorem dX5_goesTo_8 : decode cX5_goesTo 8 = .ok (.iaload, 1) := dc_at dkX5_goesTo_b0 4 rfl
theorem dX5_goesTo_9 : decode cX5_goesTo 9 = .ok (.iload_n 1, 1) := dc_at dkX5_goesTo_b0 5 rfl
theorem dX5_goesTo_10 : decode cX5_goesTo 10 = .ok (.invokevirtual 170, 3) := dc_at dkX5_goesTo_b0 6 rfl
theorem dX5_goesTo_13 : decode cX5_goesTo 13 = .ok (.istore_n 2, 1) := dc_at dkX5_goesTo_b0 7 rfl
theorem dX5_goesTo_14 : decode cX5_goesTo 14 = .ok (.aload_n 0, 1) := dc_at dkX5_goesTo_b0 8 rfl
theorem dX5_goesTo_15 : decode cX5_goesTo 15 = .ok (.getfield 7, 3) := dc_at dkX5_goesTo_b0 9 rfl
def drX5_goesTo_b1 : List (Nat × (Instr × Nat)) := [(18, (.sipush 325, 3)), (21, (.iload_n 1, 1)), (22, (.iastore, 1)), (23, (.aload_n 0, 1)), (24, (.getfield 7, 3)), (27, (.sipush 326, 3)), (30, (.dup2, 1)), (31, (.iaload, 1)), (32, (.iload_n 2, 1)), (33, (.iadd, 1))]
theorem dkX5_goesTo_b1 : ((drX5_goesTo_b1).all fun r => decide (decode cX5_goesTo r.1 = .ok r.2)) = true := by decide +kernel
theorem dX5_goesTo_18 : decode cX5_goesTo 18 = .ok (.sipush 325, 3) := dc_at dkX5_goesTo_b1 0 rfl
theorem dX5_goesTo_21 : decode cX5_goesTo 21 = .ok (.iload_n 1, 1) := dc_at dkX5_goesTo_b1 1 rfl
theorem dX5_goesTo_22 : decode cX5_goesTo 22 = .ok (.iastore, 1) := dc_at dkX5_goesTo_b1 2 rfl
theorem dX5_goesTo_23 : decode cX5_goesTo 23 = .ok (.aload_n 0, 1) := dc_at dkX5_goesTo_b1 3 rfl
theorem dX5_goesTo_24 : decode cX5_goesTo 24 = .ok (.getfield 7, 3) := dc_at dkX5_goesTo_b1 4 rfl
theorem dX5_goesTo_27 : decode cX5_goesTo 27 = .ok (.sipush 326, 3) := dc_at dkX5_goesTo_b1 5 rfl
theorem dX5_goesTo_30 : decode cX5_goesTo 30 = .ok (.dup2, 1) := dc_at dkX5_goesTo_b1 6 rfl
theorem dX5_goesTo_31 : decode cX5_goesTo 31 = .ok (.iaload, 1) := dc_at dkX5_goesTo_b1 7 rfl
theorem dX5_goesTo_32 : decode cX5_goesTo 32 = .ok (.iload_n 2, 1) := dc_at dkX5_goesTo_b1 8 rfl
theorem dX5_goesTo_33 : decode cX5_goesTo 33 = .ok (.iadd, 1) := dc_at dkX5_goesTo_b1 9 rfl
def drX5_goesTo_b2 : List (Nat × (Instr × Nat)) := [(34, (.iastore, 1)), (35, (.iload_n 2, 1)), (36, (.ireturn, 1))]
theorem dkX5_goesTo_b2 : ((drX5_goesTo_b2).all fun r => decide (decode cX5_goesTo r.1 = .ok r.2)) = true := by decide +kernel
theorem dX5_goesTo_34 : decode cX5_goesTo 34 = .ok (.iastore, 1) := dc_at dkX5_goesTo_b2 0 rfl
theorem dX5_goesTo_35 : decode cX5_goesTo 35 = .ok (.iload_n 2, 1) := dc_at dkX5_goesTo_b2 1 rfl
theorem dX5_goesTo_36 : decode cX5_goesTo 36 = .ok (.ireturn, 1) := dc_at dkX5_goesTo_b2 2 rfl
def drX5_go_b0 : List (Nat × (Instr × Nat)) := [(0, (.aload_n 0, 1)), (1, (.iload_n 1, 1)), (2, (.invokevirtual 149, 3)), (5, (.ifCond .eq 11, 3)), (8, (.aload_n 0, 1)), (9, (.iload_n 1, 1)), (10, (.invokevirtual 173, 3)), (13, (.goto 4, 3)), (16, (.iconst (-1), 1)), (17, (.ireturn, 1))]
theorem dkX5_go_b0 : ((drX5_go_b0).all fun r => decide (decode cX5_go r.1 = .ok r.2)) = true := by decide +kernel
theorem dX5_go_0 : decode cX5_go 0 = .ok (.aload_n 0, 1) := dc_at dkX5_go_b0 0 rfl
theorem dX5_go_1 : decode cX5_go 1 = .ok (.iload_n 1, 1) := dc_at dkX5_go_b0 1 rfl
theorem dX5_go_2 : decode cX5_go 2 = .ok (.invokevirtual 149, 3) := dc_at dkX5_go_b0 2 rfl
theorem dX5_go_5 : decode cX5_go 5 = .ok (.ifCond .eq 11, 3) := dc_at dkX5_go_b0 3 rfl
theorem dX5_go_8 : decode cX5_go 8 = .ok (.aload_n 0, 1) := dc_at dkX5_go_b0 4 rfl
theorem dX5_go_9 : decode cX5_go 9 = .ok (.iload_n 1, 1) := dc_at dkX5_go_b0 5 rfl
theorem dX5_go_10 : decode cX5_go 10 = .ok (.invokevirtual 173, 3) := dc_at dkX5_go_b0 6 rfl
theorem dX5_go_13 : decode cX5_go 13 = .ok (.goto 4, 3) := dc_at dkX5_go_b0 7 rfl
theorem dX5_go_16 : decode cX5_go 16 = .ok (.iconst (-1), 1) := dc_at dkX5_go_b0 8 rfl
theorem dX5_go_17 : decode cX5_go 17 = .ok (.ireturn, 1) := dc_at dkX5_go_b0 9 rfl
def drX5_endOf_b0 : List (Nat × (Instr × Nat)) := [(0, (.aload_n 0, 1)), (1, (.getfield 7, 3)), (4, (.iconst 1, 1)), (5, (.iload_n 1, 1)), (6, (.iadd, 1)), (7, (.iaload, 1)), (8, (.aload_n 0, 1)), (9, (.aload_n 0, 1)), (10, (.getfield 7, 3)), (13, (.bipush 13, 2))]
theorem dkX5_endOf_b0 : ((drX5_endOf_b0).all fun r => decide (decode cX5_endOf r.1 = .ok r.2)) = true := by decide +kernel
theorem dX5_endOf_0 : decode cX5_endOf 0 = .ok (.aload_n 0, 1) := dc_at dkX5_endOf_b0 0 rfl
theorem dX5_endOf_1 : decode cX5_endOf 1 = .ok (.getfield 7, 3) := dc_at dkX5_endOf_b0 1 rfl
theorem dX5_endOf_4 : decode cX5_endOf 4 = .ok (.iconst 1, 1) := dc_at dkX5_endOf_b0 2 rfl
theorem dX5_endOf_5 : decode cX5_endOf 5 = .ok (.iload_n 1, 1) := dc_at dkX5_endOf_b0 3 rfl
theorem dX5_endOf_6 : decode cX5_endOf 6 = .ok (.iadd, 1) := dc_at dkX5_endOf_b0 4 rfl
theorem dX5_endOf_7 : decode cX5_endOf 7 = .ok (.iaload, 1) := dc_at dkX5_endOf_b0 5 rfl
theorem dX5_endOf_8 : decode cX5_endOf 8 = .ok (.aload_n 0, 1) := dc_at dkX5_endOf_b0 6 rfl
theorem dX5_endOf_9 : decode cX5_endOf 9 = .ok (.aload_n 0, 1) := dc_at dkX5_endOf_b0 7 rfl
theorem dX5_endOf_10 : decode cX5_endOf 10 = .ok (.getfield 7, 3) := dc_at dkX5_endOf_b0 8 rfl
theorem dX5_endOf_13 : decode cX5_endOf 13 = .ok (.bipush 13, 2) := dc_at dkX5_endOf_b0 9 rfl
def drX5_endOf_b1 : List (Nat × (Instr × Nat)) := [(15, (.iload_n 1, 1)), (16, (.iadd, 1)), (17, (.iaload, 1)), (18, (.invokevirtual 176, 3)), (21, (.iadd, 1)), (22, (.ireturn, 1))]
theorem dkX5_endOf_b1 : ((drX5_endOf_b1).all fun r => decide (decode cX5_endOf r.1 = .ok r.2)) = true := by decide +kernel
theorem dX5_endOf_15 : decode cX5_endOf 15 = .ok (.iload_n 1, 1) := dc_at dkX5_endOf_b1 0 rfl
theorem dX5_endOf_16 : decode cX5_endOf 16 = .ok (.iadd, 1) := dc_at dkX5_endOf_b1 1 rfl
theorem dX5_endOf_17 : decode cX5_endOf 17 = .ok (.iaload, 1) := dc_at dkX5_endOf_b1 2 rfl
theorem dX5_endOf_18 : decode cX5_endOf 18 = .ok (.invokevirtual 176, 3) := dc_at dkX5_endOf_b1 3 rfl
theorem dX5_endOf_21 : decode cX5_endOf 21 = .ok (.iadd, 1) := dc_at dkX5_endOf_b1 4 rfl
theorem dX5_endOf_22 : decode cX5_endOf 22 = .ok (.ireturn, 1) := dc_at dkX5_endOf_b1 5 rfl
def drX5_endOfAll_b0 : List (Nat × (Instr × Nat)) := [(0, (.aload_n 0, 1)), (1, (.getfield 7, 3)), (4, (.iconst 0, 1)), (5, (.iaload, 1)), (6, (.ifCond .ne 7, 3)), (9, (.iconst 0, 1)), (10, (.goto 15, 3)), (13, (.aload_n 0, 1)), (14, (.aload_n 0, 1)), (15, (.getfield 7, 3))]
theorem dkX5_endOfAll_b0 : ((drX5_endOfAll_b0).all fun r => decide (decode cX5_endOfAll r.1 = .ok r.2)) = true := by decide +kernel
theorem dX5_endOfAll_0 : decode cX5_endOfAll 0 = .ok (.aload_n 0, 1) := dc_at dkX5_endOfAll_b0 0 rfl
theorem dX5_endOfAll_1 : decode cX5_endOfAll 1 = .ok (.getfield 7, 3) := dc_at dkX5_endOfAll_b0 1 rfl
theorem dX5_endOfAll_4 : decode cX5_endOfAll 4 = .ok (.iconst 0, 1) := dc_at dkX5_endOfAll_b0 2 rfl
theorem dX5_endOfAll_5 : decode cX5_endOfAll 5 = .ok (.iaload, 1) := dc_at dkX5_endOfAll_b0 3 rfl
theorem dX5_endOfAll_6 : decode cX5_endOfAll 6 = .ok (.ifCond .ne 7, 3) := dc_at dkX5_endOfAll_b0 4 rfl
theorem dX5_endOfAll_9 : decode cX5_endOfAll 9 = .ok (.iconst 0, 1) := dc_at dkX5_endOfAll_b0 5 rfl
theorem dX5_endOfAll_10 : decode cX5_endOfAll 10 = .ok (.goto 15, 3) := dc_at dkX5_endOfAll_b0 6 rfl
theorem dX5_endOfAll_13 : decode cX5_endOfAll 13 = .ok (.aload_n 0, 1) := dc_at dkX5_endOfAll_b0 7 rfl
theorem dX5_endOfAll_14 : decode cX5_endOfAll 14 = .ok (.aload_n 0, 1) := dc_at dkX5_endOfAll_b0 8 rfl
theorem dX5_endOfAll_15 : decode cX5_endOfAll 15 = .ok (.getfield 7, 3) := dc_at dkX5_endOfAll_b0 9 rfl
def drX5_endOfAll_b1 : List (Nat × (Instr × Nat)) := [(18, (.iconst 0, 1)), (19, (.iaload, 1)), (20, (.iconst 1, 1)), (21, (.isub, 1)), (22, (.invokevirtual 179, 3)), (25, (.ireturn, 1))]
theorem dkX5_endOfAll_b1 : ((drX5_endOfAll_b1).all fun r => decide (decode cX5_endOfAll r.1 = .ok r.2)) = true := by decide +kernel
theorem dX5_endOfAll_18 : decode cX5_endOfAll 18 = .ok (.iconst 0, 1) := dc_at dkX5_endOfAll_b1 0 rfl
theorem dX5_endOfAll_19 : decode cX5_endOfAll 19 = .ok (.iaload, 1) := dc_at dkX5_endOfAll_b1 1 rfl
theorem dX5_endOfAll_20 : decode cX5_endOfAll 20 = .ok (.iconst 1, 1) := dc_at dkX5_endOfAll_b1 2 rfl
theorem dX5_endOfAll_21 : decode cX5_endOfAll 21 = .ok (.isub, 1) := dc_at dkX5_endOfAll_b1 3 rfl
theorem dX5_endOfAll_22 : decode cX5_endOfAll 22 = .ok (.invokevirtual 179, 3) := dc_at dkX5_endOfAll_b1 4 rfl
theorem dX5_endOfAll_25 : decode cX5_endOfAll 25 = .ok (.ireturn, 1) := dc_at dkX5_endOfAll_b1 5 rfl
def drX5_now_b0 : List (Nat × (Instr × Nat)) := [(0, (.iload_n 1, 1)), (1, (.tableswitch 102 0 5 #[39, 48, 57, 70, 79, 88], 39)), (40, (.aload_n 0, 1)), (41, (.getfield 7, 3)), (44, (.sipush 325, 3)), (47, (.iaload, 1)), (48, (.ireturn, 1)), (49, (.aload_n 0, 1)), (50, (.getfield 7, 3)), (53, (.sipush 326, 3))]
theorem dkX5_now_b0 : ((drX5_now_b0).all fun r => decide (decode cX5_now r.1 = .ok r.2)) = true := by decide +kernel
theorem dX5_now_0 : decode cX5_now 0 = .ok (.iload_n 1, 1) := dc_at dkX5_now_b0 0 rfl
theorem dX5_now_1 : decode cX5_now 1 = .ok (.tableswitch 102 0 5 #[39, 48, 57, 70, 79, 88], 39) := dc_at dkX5_now_b0 1 rfl
theorem dX5_now_40 : decode cX5_now 40 = .ok (.aload_n 0, 1) := dc_at dkX5_now_b0 2 rfl
theorem dX5_now_41 : decode cX5_now 41 = .ok (.getfield 7, 3) := dc_at dkX5_now_b0 3 rfl
theorem dX5_now_44 : decode cX5_now 44 = .ok (.sipush 325, 3) := dc_at dkX5_now_b0 4 rfl
theorem dX5_now_47 : decode cX5_now 47 = .ok (.iaload, 1) := dc_at dkX5_now_b0 5 rfl
theorem dX5_now_48 : decode cX5_now 48 = .ok (.ireturn, 1) := dc_at dkX5_now_b0 6 rfl
theorem dX5_now_49 : decode cX5_now 49 = .ok (.aload_n 0, 1) := dc_at dkX5_now_b0 7 rfl
theorem dX5_now_50 : decode cX5_now 50 = .ok (.getfield 7, 3) := dc_at dkX5_now_b0 8 rfl
theorem dX5_now_53 : decode cX5_now 53 = .ok (.sipush 326, 3) := dc_at dkX5_now_b0 9 rfl
def drX5_now_b1 : List (Nat × (Instr × Nat)) := [(56, (.iaload, 1)), (57, (.ireturn, 1)), (58, (.aload_n 0, 1)), (59, (.aload_n 0, 1)), (60, (.getfield 7, 3)), (63, (.sipush 325, 3)), (66, (.iaload, 1)), (67, (.invokevirtual 153, 3)), (70, (.ireturn, 1)), (71, (.aload_n 0, 1))]
theorem dkX5_now_b1 : ((drX5_now_b1).all fun r => decide (decode cX5_now r.1 = .ok r.2)) = true := by decide +kernel
theorem dX5_now_56 : decode cX5_now 56 = .ok (.iaload, 1) := dc_at dkX5_now_b1 0 rfl
theorem dX5_now_57 : decode cX5_now 57 = .ok (.ireturn, 1) := dc_at dkX5_now_b1 1 rfl
theorem dX5_now_58 : decode cX5_now 58 = .ok (.aload_n 0, 1) := dc_at dkX5_now_b1 2 rfl
theorem dX5_now_59 : decode cX5_now 59 = .ok (.aload_n 0, 1) := dc_at dkX5_now_b1 3 rfl
theorem dX5_now_60 : decode cX5_now 60 = .ok (.getfield 7, 3) := dc_at dkX5_now_b1 4 rfl
theorem dX5_now_63 : decode cX5_now 63 = .ok (.sipush 325, 3) := dc_at dkX5_now_b1 5 rfl
theorem dX5_now_66 : decode cX5_now 66 = .ok (.iaload, 1) := dc_at dkX5_now_b1 6 rfl
theorem dX5_now_67 : decode cX5_now 67 = .ok (.invokevirtual 153, 3) := dc_at dkX5_now_b1 7 rfl
theorem dX5_now_70 : decode cX5_now 70 = .ok (.ireturn, 1) := dc_at dkX5_now_b1 8 rfl
theorem dX5_now_71 : decode cX5_now 71 = .ok (.aload_n 0, 1) := dc_at dkX5_now_b1 9 rfl
def drX5_now_b2 : List (Nat × (Instr × Nat)) := [(72, (.getfield 7, 3)), (75, (.sipush 340, 3)), (78, (.iaload, 1)), (79, (.ireturn, 1)), (80, (.aload_n 0, 1)), (81, (.getfield 7, 3)), (84, (.sipush 327, 3)), (87, (.iaload, 1)), (88, (.ireturn, 1)), (89, (.aload_n 0, 1))]
theorem dkX5_now_b2 : ((drX5_now_b2).all fun r => decide (decode cX5_now r.1 = .ok r.2)) = true := by decide +kernel
theorem dX5_now_72 : decode cX5_now 72 = .ok (.getfield 7, 3) := dc_at dkX5_now_b2 0 rfl
theorem dX5_now_75 : decode cX5_now 75 = .ok (.sipush 340, 3) := dc_at dkX5_now_b2 1 rfl
theorem dX5_now_78 : decode cX5_now 78 = .ok (.iaload, 1) := dc_at dkX5_now_b2 2 rfl
theorem dX5_now_79 : decode cX5_now 79 = .ok (.ireturn, 1) := dc_at dkX5_now_b2 3 rfl
theorem dX5_now_80 : decode cX5_now 80 = .ok (.aload_n 0, 1) := dc_at dkX5_now_b2 4 rfl
theorem dX5_now_81 : decode cX5_now 81 = .ok (.getfield 7, 3) := dc_at dkX5_now_b2 5 rfl
theorem dX5_now_84 : decode cX5_now 84 = .ok (.sipush 327, 3) := dc_at dkX5_now_b2 6 rfl
theorem dX5_now_87 : decode cX5_now 87 = .ok (.iaload, 1) := dc_at dkX5_now_b2 7 rfl
theorem dX5_now_88 : decode cX5_now 88 = .ok (.ireturn, 1) := dc_at dkX5_now_b2 8 rfl
theorem dX5_now_89 : decode cX5_now 89 = .ok (.aload_n 0, 1) := dc_at dkX5_now_b2 9 rfl
def drX5_now_b3 : List (Nat × (Instr × Nat)) := [(90, (.getfield 7, 3)), (93, (.sipush 366, 3)), (96, (.iaload, 1)), (97, (.aload_n 0, 1)), (98, (.invokevirtual 182, 3)), (101, (.isub, 1)), (102, (.ireturn, 1)), (103, (.iconst (-1), 1)), (104, (.ireturn, 1))]
theorem dkX5_now_b3 : ((drX5_now_b3).all fun r => decide (decode cX5_now r.1 = .ok r.2)) = true := by decide +kernel
theorem dX5_now_90 : decode cX5_now 90 = .ok (.getfield 7, 3) := dc_at dkX5_now_b3 0 rfl
theorem dX5_now_93 : decode cX5_now 93 = .ok (.sipush 366, 3) := dc_at dkX5_now_b3 1 rfl
theorem dX5_now_96 : decode cX5_now 96 = .ok (.iaload, 1) := dc_at dkX5_now_b3 2 rfl
theorem dX5_now_97 : decode cX5_now 97 = .ok (.aload_n 0, 1) := dc_at dkX5_now_b3 3 rfl
theorem dX5_now_98 : decode cX5_now 98 = .ok (.invokevirtual 182, 3) := dc_at dkX5_now_b3 4 rfl
theorem dX5_now_101 : decode cX5_now 101 = .ok (.isub, 1) := dc_at dkX5_now_b3 5 rfl
theorem dX5_now_102 : decode cX5_now 102 = .ok (.ireturn, 1) := dc_at dkX5_now_b3 6 rfl
theorem dX5_now_103 : decode cX5_now 103 = .ok (.iconst (-1), 1) := dc_at dkX5_now_b3 7 rfl
theorem dX5_now_104 : decode cX5_now 104 = .ok (.ireturn, 1) := dc_at dkX5_now_b3 8 rfl
def drX5_within_b0 : List (Nat × (Instr × Nat)) := [(0, (.iload_n 1, 1)), (1, (.i2l, 1)), (2, (.lconst 0, 1)), (3, (.ldc2_w 185, 3)), (6, (.invokestatic 75, 3)), (9, (.ifCond .ne 5, 3)), (12, (.iconst (-1), 1)), (13, (.ireturn, 1)), (14, (.aload_n 0, 1)), (15, (.getfield 7, 3))]
theorem dkX5_within_b0 : ((drX5_within_b0).all fun r => decide (decode cX5_within r.1 = .ok r.2)) = true := by decide +kernel
theorem dX5_within_0 : decode cX5_within 0 = .ok (.iload_n 1, 1) := dc_at dkX5_within_b0 0 rfl
theorem dX5_within_1 : decode cX5_within 1 = .ok (.i2l, 1) := dc_at dkX5_within_b0 1 rfl
theorem dX5_within_2 : decode cX5_within 2 = .ok (.lconst 0, 1) := dc_at dkX5_within_b0 2 rfl
theorem dX5_within_3 : decode cX5_within 3 = .ok (.ldc2_w 185, 3) := dc_at dkX5_within_b0 3 rfl
theorem dX5_within_6 : decode cX5_within 6 = .ok (.invokestatic 75, 3) := dc_at dkX5_within_b0 4 rfl
theorem dX5_within_9 : decode cX5_within 9 = .ok (.ifCond .ne 5, 3) := dc_at dkX5_within_b0 5 rfl
theorem dX5_within_12 : decode cX5_within 12 = .ok (.iconst (-1), 1) := dc_at dkX5_within_b0 6 rfl
theorem dX5_within_13 : decode cX5_within 13 = .ok (.ireturn, 1) := dc_at dkX5_within_b0 7 rfl
theorem dX5_within_14 : decode cX5_within 14 = .ok (.aload_n 0, 1) := dc_at dkX5_within_b0 8 rfl
theorem dX5_within_15 : decode cX5_within 15 = .ok (.getfield 7, 3) := dc_at dkX5_within_b0 9 rfl
def drX5_within_b1 : List (Nat × (Instr × Nat)) := [(18, (.sipush 325, 3)), (21, (.iaload, 1)), (22, (.istore_n 3, 1)), (23, (.aload_n 0, 1)), (24, (.getfield 7, 3)), (27, (.sipush 325, 3)), (30, (.iaload, 1)), (31, (.istore 4, 2)), (33, (.iload 4, 2)), (35, (.ifCond .lt 38, 3))]
theorem dkX5_within_b1 : ((drX5_within_b1).all fun r => decide (decode cX5_within r.1 = .ok r.2)) = true := by decide +kernel
theorem dX5_within_18 : decode cX5_within 18 = .ok (.sipush 325, 3) := dc_at dkX5_within_b1 0 rfl
theorem dX5_within_21 : decode cX5_within 21 = .ok (.iaload, 1) := dc_at dkX5_within_b1 1 rfl
theorem dX5_within_22 : decode cX5_within 22 = .ok (.istore_n 3, 1) := dc_at dkX5_within_b1 2 rfl
theorem dX5_within_23 : decode cX5_within 23 = .ok (.aload_n 0, 1) := dc_at dkX5_within_b1 3 rfl
theorem dX5_within_24 : decode cX5_within 24 = .ok (.getfield 7, 3) := dc_at dkX5_within_b1 4 rfl
theorem dX5_within_27 : decode cX5_within 27 = .ok (.sipush 325, 3) := dc_at dkX5_within_b1 5 rfl
theorem dX5_within_30 : decode cX5_within 30 = .ok (.iaload, 1) := dc_at dkX5_within_b1 6 rfl
theorem dX5_within_31 : decode cX5_within 31 = .ok (.istore 4, 2) := dc_at dkX5_within_b1 7 rfl
theorem dX5_within_33 : decode cX5_within 33 = .ok (.iload 4, 2) := dc_at dkX5_within_b1 8 rfl
theorem dX5_within_35 : decode cX5_within 35 = .ok (.ifCond .lt 38, 3) := dc_at dkX5_within_b1 9 rfl
def drX5_within_b2 : List (Nat × (Instr × Nat)) := [(38, (.iload_n 2, 1)), (39, (.ifCond .eq 34, 3)), (42, (.aload_n 0, 1)), (43, (.aload_n 0, 1)), (44, (.getfield 7, 3)), (47, (.sipush 325, 3)), (50, (.iaload, 1)), (51, (.iload 4, 2)), (53, (.invokevirtual 170, 3)), (56, (.iload_n 1, 1))]
theorem dkX5_within_b2 : ((drX5_within_b2).all fun r => decide (decode cX5_within r.1 = .ok r.2)) = true := by decide +kernel
theorem dX5_within_38 : decode cX5_within 38 = .ok (.iload_n 2, 1) := dc_at dkX5_within_b2 0 rfl
theorem dX5_within_39 : decode cX5_within 39 = .ok (.ifCond .eq 34, 3) := dc_at dkX5_within_b2 1 rfl
theorem dX5_within_42 : decode cX5_within 42 = .ok (.aload_n 0, 1) := dc_at dkX5_within_b2 2 rfl
theorem dX5_within_43 : decode cX5_within 43 = .ok (.aload_n 0, 1) := dc_at dkX5_within_b2 3 rfl
theorem dX5_within_44 : decode cX5_within 44 = .ok (.getfield 7, 3) := dc_at dkX5_within_b2 4 rfl
theorem dX5_within_47 : decode cX5_within 47 = .ok (.sipush 325, 3) := dc_at dkX5_within_b2 5 rfl
theorem dX5_within_50 : decode cX5_within 50 = .ok (.iaload, 1) := dc_at dkX5_within_b2 6 rfl
theorem dX5_within_51 : decode cX5_within 51 = .ok (.iload 4, 2) := dc_at dkX5_within_b2 7 rfl
theorem dX5_within_53 : decode cX5_within 53 = .ok (.invokevirtual 170, 3) := dc_at dkX5_within_b2 8 rfl
theorem dX5_within_56 : decode cX5_within 56 = .ok (.iload_n 1, 1) := dc_at dkX5_within_b2 9 rfl
def drX5_within_b3 : List (Nat × (Instr × Nat)) := [(57, (.if_icmp .gt 8, 3)), (60, (.iload 4, 2)), (62, (.goto 4, 3)), (65, (.iload_n 3, 1)), (66, (.istore_n 3, 1)), (67, (.iinc 4 (-1), 3)), (70, (.goto (-37), 3)), (73, (.aload_n 0, 1)), (74, (.getfield 7, 3)), (77, (.sipush 325, 3))]
theorem dkX5_within_b3 : ((drX5_within_b3).all fun r => decide (decode cX5_within r.1 = .ok r.2)) = true := by decide +kernel
theorem dX5_within_57 : decode cX5_within 57 = .ok (.if_icmp .gt 8, 3) := dc_at dkX5_within_b3 0 rfl
theorem dX5_within_60 : decode cX5_within 60 = .ok (.iload 4, 2) := dc_at dkX5_within_b3 1 rfl
theorem dX5_within_62 : decode cX5_within 62 = .ok (.goto 4, 3) := dc_at dkX5_within_b3 2 rfl
theorem dX5_within_65 : decode cX5_within 65 = .ok (.iload_n 3, 1) := dc_at dkX5_within_b3 3 rfl
theorem dX5_within_66 : decode cX5_within 66 = .ok (.istore_n 3, 1) := dc_at dkX5_within_b3 4 rfl
theorem dX5_within_67 : decode cX5_within 67 = .ok (.iinc 4 (-1), 3) := dc_at dkX5_within_b3 5 rfl
theorem dX5_within_70 : decode cX5_within 70 = .ok (.goto (-37), 3) := dc_at dkX5_within_b3 6 rfl
theorem dX5_within_73 : decode cX5_within 73 = .ok (.aload_n 0, 1) := dc_at dkX5_within_b3 7 rfl
theorem dX5_within_74 : decode cX5_within 74 = .ok (.getfield 7, 3) := dc_at dkX5_within_b3 8 rfl
theorem dX5_within_77 : decode cX5_within 77 = .ok (.sipush 325, 3) := dc_at dkX5_within_b3 9 rfl
def drX5_within_b4 : List (Nat × (Instr × Nat)) := [(80, (.iaload, 1)), (81, (.istore 4, 2)), (83, (.iload 4, 2)), (85, (.aload_n 0, 1)), (86, (.getfield 7, 3)), (89, (.sipush 366, 3)), (92, (.iaload, 1)), (93, (.if_icmp .gt 38, 3)), (96, (.iload_n 2, 1)), (97, (.ifCond .ne 34, 3))]
theorem dkX5_within_b4 : ((drX5_within_b4).all fun r => decide (decode cX5_within r.1 = .ok r.2)) = true := by decide +kernel
theorem dX5_within_80 : decode cX5_within 80 = .ok (.iaload, 1) := dc_at dkX5_within_b4 0 rfl
theorem dX5_within_81 : decode cX5_within 81 = .ok (.istore 4, 2) := dc_at dkX5_within_b4 1 rfl
theorem dX5_within_83 : decode cX5_within 83 = .ok (.iload 4, 2) := dc_at dkX5_within_b4 2 rfl
theorem dX5_within_85 : decode cX5_within 85 = .ok (.aload_n 0, 1) := dc_at dkX5_within_b4 3 rfl
theorem dX5_within_86 : decode cX5_within 86 = .ok (.getfield 7, 3) := dc_at dkX5_within_b4 4 rfl
theorem dX5_within_89 : decode cX5_within 89 = .ok (.sipush 366, 3) := dc_at dkX5_within_b4 5 rfl
theorem dX5_within_92 : decode cX5_within 92 = .ok (.iaload, 1) := dc_at dkX5_within_b4 6 rfl
theorem dX5_within_93 : decode cX5_within 93 = .ok (.if_icmp .gt 38, 3) := dc_at dkX5_within_b4 7 rfl
theorem dX5_within_96 : decode cX5_within 96 = .ok (.iload_n 2, 1) := dc_at dkX5_within_b4 8 rfl
theorem dX5_within_97 : decode cX5_within 97 = .ok (.ifCond .ne 34, 3) := dc_at dkX5_within_b4 9 rfl
def drX5_within_b5 : List (Nat × (Instr × Nat)) := [(100, (.aload_n 0, 1)), (101, (.aload_n 0, 1)), (102, (.getfield 7, 3)), (105, (.sipush 325, 3)), (108, (.iaload, 1)), (109, (.iload 4, 2)), (111, (.invokevirtual 170, 3)), (114, (.iload_n 1, 1)), (115, (.if_icmp .gt 8, 3)), (118, (.iload 4, 2))]
theorem dkX5_within_b5 : ((drX5_within_b5).all fun r => decide (decode cX5_within r.1 = .ok r.2)) = true := by decide +kernel
theorem dX5_within_100 : decode cX5_within 100 = .ok (.aload_n 0, 1) := dc_at dkX5_within_b5 0 rfl
theorem dX5_within_101 : decode cX5_within 101 = .ok (.aload_n 0, 1) := dc_at dkX5_within_b5 1 rfl
theorem dX5_within_102 : decode cX5_within 102 = .ok (.getfield 7, 3) := dc_at dkX5_within_b5 2 rfl
theorem dX5_within_105 : decode cX5_within 105 = .ok (.sipush 325, 3) := dc_at dkX5_within_b5 3 rfl
theorem dX5_within_108 : decode cX5_within 108 = .ok (.iaload, 1) := dc_at dkX5_within_b5 4 rfl
theorem dX5_within_109 : decode cX5_within 109 = .ok (.iload 4, 2) := dc_at dkX5_within_b5 5 rfl
theorem dX5_within_111 : decode cX5_within 111 = .ok (.invokevirtual 170, 3) := dc_at dkX5_within_b5 6 rfl
theorem dX5_within_114 : decode cX5_within 114 = .ok (.iload_n 1, 1) := dc_at dkX5_within_b5 7 rfl
theorem dX5_within_115 : decode cX5_within 115 = .ok (.if_icmp .gt 8, 3) := dc_at dkX5_within_b5 8 rfl
theorem dX5_within_118 : decode cX5_within 118 = .ok (.iload 4, 2) := dc_at dkX5_within_b5 9 rfl
def drX5_within_b6 : List (Nat × (Instr × Nat)) := [(120, (.goto 4, 3)), (123, (.iload_n 3, 1)), (124, (.istore_n 3, 1)), (125, (.iinc 4 1, 3)), (128, (.goto (-45), 3)), (131, (.iload_n 3, 1)), (132, (.ireturn, 1))]
theorem dkX5_within_b6 : ((drX5_within_b6).all fun r => decide (decode cX5_within r.1 = .ok r.2)) = true := by decide +kernel
theorem dX5_within_120 : decode cX5_within 120 = .ok (.goto 4, 3) := dc_at dkX5_within_b6 0 rfl
theorem dX5_within_123 : decode cX5_within 123 = .ok (.iload_n 3, 1) := dc_at dkX5_within_b6 1 rfl
theorem dX5_within_124 : decode cX5_within 124 = .ok (.istore_n 3, 1) := dc_at dkX5_within_b6 2 rfl
theorem dX5_within_125 : decode cX5_within 125 = .ok (.iinc 4 1, 3) := dc_at dkX5_within_b6 3 rfl
theorem dX5_within_128 : decode cX5_within 128 = .ok (.goto (-45), 3) := dc_at dkX5_within_b6 4 rfl
theorem dX5_within_131 : decode cX5_within 131 = .ok (.iload_n 3, 1) := dc_at dkX5_within_b6 5 rfl
theorem dX5_within_132 : decode cX5_within 132 = .ok (.ireturn, 1) := dc_at dkX5_within_b6 6 rfl
def drX5_beginOf_b0 : List (Nat × (Instr × Nat)) := [(0, (.aload_n 0, 1)), (1, (.getfield 17, 3)), (4, (.bipush 6, 2)), (6, (.iaload, 1)), (7, (.iload_n 1, 1)), (8, (.ifCond .ne 7, 3)), (11, (.iconst 0, 1)), (12, (.goto 10, 3)), (15, (.aload_n 0, 1)), (16, (.iload_n 1, 1))]
theorem dkX5_beginOf_b0 : ((drX5_beginOf_b0).all fun r => decide (decode cX5_beginOf r.1 = .ok r.2)) = true := by decide +kernel
theorem dX5_beginOf_0 : decode cX5_beginOf 0 = .ok (.aload_n 0, 1) := dc_at dkX5_beginOf_b0 0 rfl
theorem dX5_beginOf_1 : decode cX5_beginOf 1 = .ok (.getfield 17, 3) := dc_at dkX5_beginOf_b0 1 rfl
theorem dX5_beginOf_4 : decode cX5_beginOf 4 = .ok (.bipush 6, 2) := dc_at dkX5_beginOf_b0 2 rfl
theorem dX5_beginOf_6 : decode cX5_beginOf 6 = .ok (.iaload, 1) := dc_at dkX5_beginOf_b0 3 rfl
theorem dX5_beginOf_7 : decode cX5_beginOf 7 = .ok (.iload_n 1, 1) := dc_at dkX5_beginOf_b0 4 rfl
theorem dX5_beginOf_8 : decode cX5_beginOf 8 = .ok (.ifCond .ne 7, 3) := dc_at dkX5_beginOf_b0 5 rfl
theorem dX5_beginOf_11 : decode cX5_beginOf 11 = .ok (.iconst 0, 1) := dc_at dkX5_beginOf_b0 6 rfl
theorem dX5_beginOf_12 : decode cX5_beginOf 12 = .ok (.goto 10, 3) := dc_at dkX5_beginOf_b0 7 rfl
theorem dX5_beginOf_15 : decode cX5_beginOf 15 = .ok (.aload_n 0, 1) := dc_at dkX5_beginOf_b0 8 rfl
theorem dX5_beginOf_16 : decode cX5_beginOf 16 = .ok (.iload_n 1, 1) := dc_at dkX5_beginOf_b0 9 rfl
def drX5_beginOf_b1 : List (Nat × (Instr × Nat)) := [(17, (.iconst 1, 1)), (18, (.isub, 1)), (19, (.invokevirtual 179, 3)), (22, (.iadd, 1)), (23, (.ireturn, 1))]
theorem dkX5_beginOf_b1 : ((drX5_beginOf_b1).all fun r => decide (decode cX5_beginOf r.1 = .ok r.2)) = true := by decide +kernel
theorem dX5_beginOf_17 : decode cX5_beginOf 17 = .ok (.iconst 1, 1) := dc_at dkX5_beginOf_b1 0 rfl
theorem dX5_beginOf_18 : decode cX5_beginOf 18 = .ok (.isub, 1) := dc_at dkX5_beginOf_b1 1 rfl
theorem dX5_beginOf_19 : decode cX5_beginOf 19 = .ok (.invokevirtual 179, 3) := dc_at dkX5_beginOf_b1 2 rfl
theorem dX5_beginOf_22 : decode cX5_beginOf 22 = .ok (.iadd, 1) := dc_at dkX5_beginOf_b1 3 rfl
theorem dX5_beginOf_23 : decode cX5_beginOf 23 = .ok (.ireturn, 1) := dc_at dkX5_beginOf_b1 4 rfl
def drX5_lays_b0 : List (Nat × (Instr × Nat)) := [(0, (.aload_n 0, 1)), (1, (.getfield 7, 3)), (4, (.iconst 0, 1)), (5, (.iaload, 1)), (6, (.istore_n 2, 1)), (7, (.iconst 0, 1)), (8, (.istore_n 3, 1)), (9, (.aload_n 0, 1)), (10, (.getfield 7, 3)), (13, (.iconst 1, 1))]
theorem dkX5_lays_b0 : ((drX5_lays_b0).all fun r => decide (decode cX5_lays r.1 = .ok r.2)) = true := by decide +kernel
theorem dX5_lays_0 : decode cX5_lays 0 = .ok (.aload_n 0, 1) := dc_at dkX5_lays_b0 0 rfl
theorem dX5_lays_1 : decode cX5_lays 1 = .ok (.getfield 7, 3) := dc_at dkX5_lays_b0 1 rfl
theorem dX5_lays_4 : decode cX5_lays 4 = .ok (.iconst 0, 1) := dc_at dkX5_lays_b0 2 rfl
theorem dX5_lays_5 : decode cX5_lays 5 = .ok (.iaload, 1) := dc_at dkX5_lays_b0 3 rfl
theorem dX5_lays_6 : decode cX5_lays 6 = .ok (.istore_n 2, 1) := dc_at dkX5_lays_b0 4 rfl
theorem dX5_lays_7 : decode cX5_lays 7 = .ok (.iconst 0, 1) := dc_at dkX5_lays_b0 5 rfl
theorem dX5_lays_8 : decode cX5_lays 8 = .ok (.istore_n 3, 1) := dc_at dkX5_lays_b0 6 rfl
theorem dX5_lays_9 : decode cX5_lays 9 = .ok (.aload_n 0, 1) := dc_at dkX5_lays_b0 7 rfl
theorem dX5_lays_10 : decode cX5_lays 10 = .ok (.getfield 7, 3) := dc_at dkX5_lays_b0 8 rfl
theorem dX5_lays_13 : decode cX5_lays 13 = .ok (.iconst 1, 1) := dc_at dkX5_lays_b0 9 rfl
def drX5_lays_b1 : List (Nat × (Instr × Nat)) := [(14, (.iload_n 2, 1)), (15, (.iadd, 1)), (16, (.aload_n 0, 1)), (17, (.iload_n 2, 1)), (18, (.invokevirtual 187, 3)), (21, (.iastore, 1)), (22, (.aload_n 0, 1)), (23, (.getfield 7, 3)), (26, (.bipush 13, 2)), (28, (.iload_n 2, 1))]
theorem dkX5_lays_b1 : ((drX5_lays_b1).all fun r => decide (decode cX5_lays r.1 = .ok r.2)) = true := by decide +kernel
theorem dX5_lays_14 : decode cX5_lays 14 = .ok (.iload_n 2, 1) := dc_at dkX5_lays_b1 0 rfl
theorem dX5_lays_15 : decode cX5_lays 15 = .ok (.iadd, 1) := dc_at dkX5_lays_b1 1 rfl
theorem dX5_lays_16 : decode cX5_lays 16 = .ok (.aload_n 0, 1) := dc_at dkX5_lays_b1 2 rfl
theorem dX5_lays_17 : decode cX5_lays 17 = .ok (.iload_n 2, 1) := dc_at dkX5_lays_b1 3 rfl
theorem dX5_lays_18 : decode cX5_lays 18 = .ok (.invokevirtual 187, 3) := dc_at dkX5_lays_b1 4 rfl
theorem dX5_lays_21 : decode cX5_lays 21 = .ok (.iastore, 1) := dc_at dkX5_lays_b1 5 rfl
theorem dX5_lays_22 : decode cX5_lays 22 = .ok (.aload_n 0, 1) := dc_at dkX5_lays_b1 6 rfl
theorem dX5_lays_23 : decode cX5_lays 23 = .ok (.getfield 7, 3) := dc_at dkX5_lays_b1 7 rfl
theorem dX5_lays_26 : decode cX5_lays 26 = .ok (.bipush 13, 2) := dc_at dkX5_lays_b1 8 rfl
theorem dX5_lays_28 : decode cX5_lays 28 = .ok (.iload_n 2, 1) := dc_at dkX5_lays_b1 9 rfl
def drX5_lays_b2 : List (Nat × (Instr × Nat)) := [(29, (.iadd, 1)), (30, (.iload_n 1, 1)), (31, (.iastore, 1)), (32, (.iconst 0, 1)), (33, (.istore 4, 2)), (35, (.iload 4, 2)), (37, (.iload_n 1, 1)), (38, (.if_icmp .ge 84, 3)), (41, (.aload_n 0, 1)), (42, (.getfield 32, 3))]
theorem dkX5_lays_b2 : ((drX5_lays_b2).all fun r => decide (decode cX5_lays r.1 = .ok r.2)) = true := by decide +kernel
theorem dX5_lays_29 : decode cX5_lays 29 = .ok (.iadd, 1) := dc_at dkX5_lays_b2 0 rfl
theorem dX5_lays_30 : decode cX5_lays 30 = .ok (.iload_n 1, 1) := dc_at dkX5_lays_b2 1 rfl
theorem dX5_lays_31 : decode cX5_lays 31 = .ok (.iastore, 1) := dc_at dkX5_lays_b2 2 rfl
theorem dX5_lays_32 : decode cX5_lays 32 = .ok (.iconst 0, 1) := dc_at dkX5_lays_b2 3 rfl
theorem dX5_lays_33 : decode cX5_lays 33 = .ok (.istore 4, 2) := dc_at dkX5_lays_b2 4 rfl
theorem dX5_lays_35 : decode cX5_lays 35 = .ok (.iload 4, 2) := dc_at dkX5_lays_b2 5 rfl
theorem dX5_lays_37 : decode cX5_lays 37 = .ok (.iload_n 1, 1) := dc_at dkX5_lays_b2 6 rfl
theorem dX5_lays_38 : decode cX5_lays 38 = .ok (.if_icmp .ge 84, 3) := dc_at dkX5_lays_b2 7 rfl
theorem dX5_lays_41 : decode cX5_lays 41 = .ok (.aload_n 0, 1) := dc_at dkX5_lays_b2 8 rfl
theorem dX5_lays_42 : decode cX5_lays 42 = .ok (.getfield 32, 3) := dc_at dkX5_lays_b2 9 rfl
def drX5_lays_b3 : List (Nat × (Instr × Nat)) := [(45, (.iload 4, 2)), (47, (.iaload, 1)), (48, (.aload_n 0, 1)), (49, (.getfield 32, 3)), (52, (.iload 4, 2)), (54, (.iaload, 1)), (55, (.invokestatic 190, 3)), (58, (.ifCond .ne 9, 3)), (61, (.sipush 256, 3)), (64, (.goto 4, 3))]
theorem dkX5_lays_b3 : ((drX5_lays_b3).all fun r => decide (decode cX5_lays r.1 = .ok r.2)) = true := by decide +kernel
theorem dX5_lays_45 : decode cX5_lays 45 = .ok (.iload 4, 2) := dc_at dkX5_lays_b3 0 rfl
theorem dX5_lays_47 : decode cX5_lays 47 = .ok (.iaload, 1) := dc_at dkX5_lays_b3 1 rfl
theorem dX5_lays_48 : decode cX5_lays 48 = .ok (.aload_n 0, 1) := dc_at dkX5_lays_b3 2 rfl
theorem dX5_lays_49 : decode cX5_lays 49 = .ok (.getfield 32, 3) := dc_at dkX5_lays_b3 3 rfl
theorem dX5_lays_52 : decode cX5_lays 52 = .ok (.iload 4, 2) := dc_at dkX5_lays_b3 4 rfl
theorem dX5_lays_54 : decode cX5_lays 54 = .ok (.iaload, 1) := dc_at dkX5_lays_b3 5 rfl
theorem dX5_lays_55 : decode cX5_lays 55 = .ok (.invokestatic 190, 3) := dc_at dkX5_lays_b3 6 rfl
theorem dX5_lays_58 : decode cX5_lays 58 = .ok (.ifCond .ne 9, 3) := dc_at dkX5_lays_b3 7 rfl
theorem dX5_lays_61 : decode cX5_lays 61 = .ok (.sipush 256, 3) := dc_at dkX5_lays_b3 8 rfl
theorem dX5_lays_64 : decode cX5_lays 64 = .ok (.goto 4, 3) := dc_at dkX5_lays_b3 9 rfl
def drX5_lays_b4 : List (Nat × (Instr × Nat)) := [(67, (.iconst 0, 1)), (68, (.ior, 1)), (69, (.istore 5, 2)), (71, (.aload_n 0, 1)), (72, (.getfield 7, 3)), (75, (.bipush 25, 2)), (77, (.bipush 13, 2)), (79, (.iload_n 2, 1)), (80, (.imul, 1)), (81, (.iadd, 1))]
theorem dkX5_lays_b4 : ((drX5_lays_b4).all fun r => decide (decode cX5_lays r.1 = .ok r.2)) = true := by decide +kernel
theorem dX5_lays_67 : decode cX5_lays 67 = .ok (.iconst 0, 1) := dc_at dkX5_lays_b4 0 rfl
theorem dX5_lays_68 : decode cX5_lays 68 = .ok (.ior, 1) := dc_at dkX5_lays_b4 1 rfl
theorem dX5_lays_69 : decode cX5_lays 69 = .ok (.istore 5, 2) := dc_at dkX5_lays_b4 2 rfl
theorem dX5_lays_71 : decode cX5_lays 71 = .ok (.aload_n 0, 1) := dc_at dkX5_lays_b4 3 rfl
theorem dX5_lays_72 : decode cX5_lays 72 = .ok (.getfield 7, 3) := dc_at dkX5_lays_b4 4 rfl
theorem dX5_lays_75 : decode cX5_lays 75 = .ok (.bipush 25, 2) := dc_at dkX5_lays_b4 5 rfl
theorem dX5_lays_77 : decode cX5_lays 77 = .ok (.bipush 13, 2) := dc_at dkX5_lays_b4 6 rfl
theorem dX5_lays_79 : decode cX5_lays 79 = .ok (.iload_n 2, 1) := dc_at dkX5_lays_b4 7 rfl
theorem dX5_lays_80 : decode cX5_lays 80 = .ok (.imul, 1) := dc_at dkX5_lays_b4 8 rfl
theorem dX5_lays_81 : decode cX5_lays 81 = .ok (.iadd, 1) := dc_at dkX5_lays_b4 9 rfl
def drX5_lays_b5 : List (Nat × (Instr × Nat)) := [(82, (.iload 4, 2)), (84, (.iadd, 1)), (85, (.iload 5, 2)), (87, (.iastore, 1)), (88, (.aload_n 0, 1)), (89, (.getfield 7, 3)), (92, (.sipush 181, 3)), (95, (.bipush 12, 2)), (97, (.iload_n 2, 1)), (98, (.imul, 1))]
theorem dkX5_lays_b5 : ((drX5_lays_b5).all fun r => decide (decode cX5_lays r.1 = .ok r.2)) = true := by decide +kernel
theorem dX5_lays_82 : decode cX5_lays 82 = .ok (.iload 4, 2) := dc_at dkX5_lays_b5 0 rfl
theorem dX5_lays_84 : decode cX5_lays 84 = .ok (.iadd, 1) := dc_at dkX5_lays_b5 1 rfl
theorem dX5_lays_85 : decode cX5_lays 85 = .ok (.iload 5, 2) := dc_at dkX5_lays_b5 2 rfl
theorem dX5_lays_87 : decode cX5_lays 87 = .ok (.iastore, 1) := dc_at dkX5_lays_b5 3 rfl
theorem dX5_lays_88 : decode cX5_lays 88 = .ok (.aload_n 0, 1) := dc_at dkX5_lays_b5 4 rfl
theorem dX5_lays_89 : decode cX5_lays 89 = .ok (.getfield 7, 3) := dc_at dkX5_lays_b5 5 rfl
theorem dX5_lays_92 : decode cX5_lays 92 = .ok (.sipush 181, 3) := dc_at dkX5_lays_b5 6 rfl
theorem dX5_lays_95 : decode cX5_lays 95 = .ok (.bipush 12, 2) := dc_at dkX5_lays_b5 7 rfl
theorem dX5_lays_97 : decode cX5_lays 97 = .ok (.iload_n 2, 1) := dc_at dkX5_lays_b5 8 rfl
theorem dX5_lays_98 : decode cX5_lays 98 = .ok (.imul, 1) := dc_at dkX5_lays_b5 9 rfl
def drX5_lays_b6 : List (Nat × (Instr × Nat)) := [(99, (.iadd, 1)), (100, (.iload 4, 2)), (102, (.iadd, 1)), (103, (.aload_n 0, 1)), (104, (.getfield 32, 3)), (107, (.iload 4, 2)), (109, (.iaload, 1)), (110, (.iastore, 1)), (111, (.iload_n 3, 1)), (112, (.iload 5, 2))]
theorem dkX5_lays_b6 : ((drX5_lays_b6).all fun r => decide (decode cX5_lays r.1 = .ok r.2)) = true := by decide +kernel
theorem dX5_lays_99 : decode cX5_lays 99 = .ok (.iadd, 1) := dc_at dkX5_lays_b6 0 rfl
theorem dX5_lays_100 : decode cX5_lays 100 = .ok (.iload 4, 2) := dc_at dkX5_lays_b6 1 rfl
theorem dX5_lays_102 : decode cX5_lays 102 = .ok (.iadd, 1) := dc_at dkX5_lays_b6 2 rfl
theorem dX5_lays_103 : decode cX5_lays 103 = .ok (.aload_n 0, 1) := dc_at dkX5_lays_b6 3 rfl
theorem dX5_lays_104 : decode cX5_lays 104 = .ok (.getfield 32, 3) := dc_at dkX5_lays_b6 4 rfl
theorem dX5_lays_107 : decode cX5_lays 107 = .ok (.iload 4, 2) := dc_at dkX5_lays_b6 5 rfl
theorem dX5_lays_109 : decode cX5_lays 109 = .ok (.iaload, 1) := dc_at dkX5_lays_b6 6 rfl
theorem dX5_lays_110 : decode cX5_lays 110 = .ok (.iastore, 1) := dc_at dkX5_lays_b6 7 rfl
theorem dX5_lays_111 : decode cX5_lays 111 = .ok (.iload_n 3, 1) := dc_at dkX5_lays_b6 8 rfl
theorem dX5_lays_112 : decode cX5_lays 112 = .ok (.iload 5, 2) := dc_at dkX5_lays_b6 9 rfl
def drX5_lays_b7 : List (Nat × (Instr × Nat)) := [(114, (.ixor, 1)), (115, (.istore_n 3, 1)), (116, (.iinc 4 1, 3)), (119, (.goto (-84), 3)), (122, (.aload_n 0, 1)), (123, (.getfield 7, 3)), (126, (.bipush 25, 2)), (128, (.bipush 13, 2)), (130, (.iload_n 2, 1)), (131, (.imul, 1))]
theorem dkX5_lays_b7 : ((drX5_lays_b7).all fun r => decide (decode cX5_lays r.1 = .ok r.2)) = true := by decide +kernel
theorem dX5_lays_114 : decode cX5_lays 114 = .ok (.ixor, 1) := dc_at dkX5_lays_b7 0 rfl
theorem dX5_lays_115 : decode cX5_lays 115 = .ok (.istore_n 3, 1) := dc_at dkX5_lays_b7 1 rfl
theorem dX5_lays_116 : decode cX5_lays 116 = .ok (.iinc 4 1, 3) := dc_at dkX5_lays_b7 2 rfl
theorem dX5_lays_119 : decode cX5_lays 119 = .ok (.goto (-84), 3) := dc_at dkX5_lays_b7 3 rfl
theorem dX5_lays_122 : decode cX5_lays 122 = .ok (.aload_n 0, 1) := dc_at dkX5_lays_b7 4 rfl
theorem dX5_lays_123 : decode cX5_lays 123 = .ok (.getfield 7, 3) := dc_at dkX5_lays_b7 5 rfl
theorem dX5_lays_126 : decode cX5_lays 126 = .ok (.bipush 25, 2) := dc_at dkX5_lays_b7 6 rfl
theorem dX5_lays_128 : decode cX5_lays 128 = .ok (.bipush 13, 2) := dc_at dkX5_lays_b7 7 rfl
theorem dX5_lays_130 : decode cX5_lays 130 = .ok (.iload_n 2, 1) := dc_at dkX5_lays_b7 8 rfl
theorem dX5_lays_131 : decode cX5_lays 131 = .ok (.imul, 1) := dc_at dkX5_lays_b7 9 rfl
def drX5_lays_b8 : List (Nat × (Instr × Nat)) := [(132, (.iadd, 1)), (133, (.iload_n 1, 1)), (134, (.iadd, 1)), (135, (.iload_n 3, 1)), (136, (.iastore, 1)), (137, (.aload_n 0, 1)), (138, (.getfield 7, 3)), (141, (.iconst 0, 1)), (142, (.iload_n 2, 1)), (143, (.iconst 1, 1))]
theorem dkX5_lays_b8 : ((drX5_lays_b8).all fun r => decide (decode cX5_lays r.1 = .ok r.2)) = true := by decide +kernel
theorem dX5_lays_132 : decode cX5_lays 132 = .ok (.iadd, 1) := dc_at dkX5_lays_b8 0 rfl
theorem dX5_lays_133 : decode cX5_lays 133 = .ok (.iload_n 1, 1) := dc_at dkX5_lays_b8 1 rfl
theorem dX5_lays_134 : decode cX5_lays 134 = .ok (.iadd, 1) := dc_at dkX5_lays_b8 2 rfl
theorem dX5_lays_135 : decode cX5_lays 135 = .ok (.iload_n 3, 1) := dc_at dkX5_lays_b8 3 rfl
theorem dX5_lays_136 : decode cX5_lays 136 = .ok (.iastore, 1) := dc_at dkX5_lays_b8 4 rfl
theorem dX5_lays_137 : decode cX5_lays 137 = .ok (.aload_n 0, 1) := dc_at dkX5_lays_b8 5 rfl
theorem dX5_lays_138 : decode cX5_lays 138 = .ok (.getfield 7, 3) := dc_at dkX5_lays_b8 6 rfl
theorem dX5_lays_141 : decode cX5_lays 141 = .ok (.iconst 0, 1) := dc_at dkX5_lays_b8 7 rfl
theorem dX5_lays_142 : decode cX5_lays 142 = .ok (.iload_n 2, 1) := dc_at dkX5_lays_b8 8 rfl
theorem dX5_lays_143 : decode cX5_lays 143 = .ok (.iconst 1, 1) := dc_at dkX5_lays_b8 9 rfl
def drX5_lays_b9 : List (Nat × (Instr × Nat)) := [(144, (.iadd, 1)), (145, (.iastore, 1)), (146, (.return_, 1))]
theorem dkX5_lays_b9 : ((drX5_lays_b9).all fun r => decide (decode cX5_lays r.1 = .ok r.2)) = true := by decide +kernel
theorem dX5_lays_144 : decode cX5_lays 144 = .ok (.iadd, 1) := dc_at dkX5_lays_b9 0 rfl
theorem dX5_lays_145 : decode cX5_lays 145 = .ok (.iastore, 1) := dc_at dkX5_lays_b9 1 rfl
theorem dX5_lays_146 : decode cX5_lays 146 = .ok (.return_, 1) := dc_at dkX5_lays_b9 2 rfl
def drX5_isBlock_b0 : List (Nat × (Instr × Nat)) := [(0, (.iload_n 1, 1)), (1, (.i2l, 1)), (2, (.lconst 0, 1)), (3, (.aload_n 0, 1)), (4, (.getfield 7, 3)), (7, (.iconst 0, 1)), (8, (.iaload, 1)), (9, (.iconst 1, 1)), (10, (.isub, 1)), (11, (.i2l, 1))]
theorem dkX5_isBlock_b0 : ((drX5_isBlock_b0).all fun r => decide (decode cX5_isBlock r.1 = .ok r.2)) = true := by decide +kernel
theorem dX5_isBlock_0 : decode cX5_isBlock 0 = .ok (.iload_n 1, 1) := dc_at dkX5_isBlock_b0 0 rfl
theorem dX5_isBlock_1 : decode cX5_isBlock 1 = .ok (.i2l, 1) := dc_at dkX5_isBlock_b0 1 rfl
theorem dX5_isBlock_2 : decode cX5_isBlock 2 = .ok (.lconst 0, 1) := dc_at dkX5_isBlock_b0 2 rfl
theorem dX5_isBlock_3 : decode cX5_isBlock 3 = .ok (.aload_n 0, 1) := dc_at dkX5_isBlock_b0 3 rfl
theorem dX5_isBlock_4 : decode cX5_isBlock 4 = .ok (.getfield 7, 3) := dc_at dkX5_isBlock_b0 4 rfl
theorem dX5_isBlock_7 : decode cX5_isBlock 7 = .ok (.iconst 0, 1) := dc_at dkX5_isBlock_b0 5 rfl
theorem dX5_isBlock_8 : decode cX5_isBlock 8 = .ok (.iaload, 1) := dc_at dkX5_isBlock_b0 6 rfl
theorem dX5_isBlock_9 : decode cX5_isBlock 9 = .ok (.iconst 1, 1) := dc_at dkX5_isBlock_b0 7 rfl
theorem dX5_isBlock_10 : decode cX5_isBlock 10 = .ok (.isub, 1) := dc_at dkX5_isBlock_b0 8 rfl
theorem dX5_isBlock_11 : decode cX5_isBlock 11 = .ok (.i2l, 1) := dc_at dkX5_isBlock_b0 9 rfl
def drX5_isBlock_b1 : List (Nat × (Instr × Nat)) := [(12, (.invokestatic 75, 3)), (15, (.ireturn, 1))]
theorem dkX5_isBlock_b1 : ((drX5_isBlock_b1).all fun r => decide (decode cX5_isBlock r.1 = .ok r.2)) = true := by decide +kernel
theorem dX5_isBlock_12 : decode cX5_isBlock 12 = .ok (.invokestatic 75, 3) := dc_at dkX5_isBlock_b1 0 rfl
theorem dX5_isBlock_15 : decode cX5_isBlock 15 = .ok (.ireturn, 1) := dc_at dkX5_isBlock_b1 1 rfl
def drX5_columnOf_b0 : List (Nat × (Instr × Nat)) := [(0, (.aload_n 0, 1)), (1, (.getfield 7, 3)), (4, (.bipush 25, 2)), (6, (.bipush 13, 2)), (8, (.iload_n 1, 1)), (9, (.imul, 1)), (10, (.iadd, 1)), (11, (.iload_n 2, 1)), (12, (.iadd, 1)), (13, (.iaload, 1))]
theorem dkX5_columnOf_b0 : ((drX5_columnOf_b0).all fun r => decide (decode cX5_columnOf r.1 = .ok r.2)) = true := by decide +kernel
theorem dX5_columnOf_0 : decode cX5_columnOf 0 = .ok (.aload_n 0, 1) := dc_at dkX5_columnOf_b0 0 rfl
theorem dX5_columnOf_1 : decode cX5_columnOf 1 = .ok (.getfield 7, 3) := dc_at dkX5_columnOf_b0 1 rfl
theorem dX5_columnOf_4 : decode cX5_columnOf 4 = .ok (.bipush 25, 2) := dc_at dkX5_columnOf_b0 2 rfl
theorem dX5_columnOf_6 : decode cX5_columnOf 6 = .ok (.bipush 13, 2) := dc_at dkX5_columnOf_b0 3 rfl
theorem dX5_columnOf_8 : decode cX5_columnOf 8 = .ok (.iload_n 1, 1) := dc_at dkX5_columnOf_b0 4 rfl
theorem dX5_columnOf_9 : decode cX5_columnOf 9 = .ok (.imul, 1) := dc_at dkX5_columnOf_b0 5 rfl
theorem dX5_columnOf_10 : decode cX5_columnOf 10 = .ok (.iadd, 1) := dc_at dkX5_columnOf_b0 6 rfl
theorem dX5_columnOf_11 : decode cX5_columnOf 11 = .ok (.iload_n 2, 1) := dc_at dkX5_columnOf_b0 7 rfl
theorem dX5_columnOf_12 : decode cX5_columnOf 12 = .ok (.iadd, 1) := dc_at dkX5_columnOf_b0 8 rfl
theorem dX5_columnOf_13 : decode cX5_columnOf 13 = .ok (.iaload, 1) := dc_at dkX5_columnOf_b0 9 rfl
def drX5_columnOf_b1 : List (Nat × (Instr × Nat)) := [(14, (.ireturn, 1))]
theorem dkX5_columnOf_b1 : ((drX5_columnOf_b1).all fun r => decide (decode cX5_columnOf r.1 = .ok r.2)) = true := by decide +kernel
theorem dX5_columnOf_14 : decode cX5_columnOf 14 = .ok (.ireturn, 1) := dc_at dkX5_columnOf_b1 0 rfl
def drX5_block_b0 : List (Nat × (Instr × Nat)) := [(0, (.aload_n 0, 1)), (1, (.iload_n 1, 1)), (2, (.invokevirtual 193, 3)), (5, (.ifCond .ne 5, 3)), (8, (.iconst (-1), 1)), (9, (.ireturn, 1)), (10, (.aload_n 0, 1)), (11, (.getfield 7, 3)), (14, (.bipush 13, 2)), (16, (.iload_n 1, 1))]
theorem dkX5_block_b0 : ((drX5_block_b0).all fun r => decide (decode cX5_block r.1 = .ok r.2)) = true := by decide +kernel
theorem dX5_block_0 : decode cX5_block 0 = .ok (.aload_n 0, 1) := dc_at dkX5_block_b0 0 rfl
theorem dX5_block_1 : decode cX5_block 1 = .ok (.iload_n 1, 1) := dc_at dkX5_block_b0 1 rfl
theorem dX5_block_2 : decode cX5_block 2 = .ok (.invokevirtual 193, 3) := dc_at dkX5_block_b0 2 rfl
theorem dX5_block_5 : decode cX5_block 5 = .ok (.ifCond .ne 5, 3) := dc_at dkX5_block_b0 3 rfl
theorem dX5_block_8 : decode cX5_block 8 = .ok (.iconst (-1), 1) := dc_at dkX5_block_b0 4 rfl
theorem dX5_block_9 : decode cX5_block 9 = .ok (.ireturn, 1) := dc_at dkX5_block_b0 5 rfl
theorem dX5_block_10 : decode cX5_block 10 = .ok (.aload_n 0, 1) := dc_at dkX5_block_b0 6 rfl
theorem dX5_block_11 : decode cX5_block 11 = .ok (.getfield 7, 3) := dc_at dkX5_block_b0 7 rfl
theorem dX5_block_14 : decode cX5_block 14 = .ok (.bipush 13, 2) := dc_at dkX5_block_b0 8 rfl
theorem dX5_block_16 : decode cX5_block 16 = .ok (.iload_n 1, 1) := dc_at dkX5_block_b0 9 rfl
def drX5_block_b1 : List (Nat × (Instr × Nat)) := [(17, (.iadd, 1)), (18, (.iaload, 1)), (19, (.istore_n 3, 1)), (20, (.iload_n 2, 1)), (21, (.tableswitch 73 0 4 #[35, 44, 50, 52, 67], 35)), (56, (.aload_n 0, 1)), (57, (.getfield 7, 3)), (60, (.iconst 1, 1)), (61, (.iload_n 1, 1)), (62, (.iadd, 1))]
theorem dkX5_block_b1 : ((drX5_block_b1).all fun r => decide (decode cX5_block r.1 = .ok r.2)) = true := by decide +kernel
theorem dX5_block_17 : decode cX5_block 17 = .ok (.iadd, 1) := dc_at dkX5_block_b1 0 rfl
theorem dX5_block_18 : decode cX5_block 18 = .ok (.iaload, 1) := dc_at dkX5_block_b1 1 rfl
theorem dX5_block_19 : decode cX5_block 19 = .ok (.istore_n 3, 1) := dc_at dkX5_block_b1 2 rfl
theorem dX5_block_20 : decode cX5_block 20 = .ok (.iload_n 2, 1) := dc_at dkX5_block_b1 3 rfl
theorem dX5_block_21 : decode cX5_block 21 = .ok (.tableswitch 73 0 4 #[35, 44, 50, 52, 67], 35) := dc_at dkX5_block_b1 4 rfl
theorem dX5_block_56 : decode cX5_block 56 = .ok (.aload_n 0, 1) := dc_at dkX5_block_b1 5 rfl
theorem dX5_block_57 : decode cX5_block 57 = .ok (.getfield 7, 3) := dc_at dkX5_block_b1 6 rfl
theorem dX5_block_60 : decode cX5_block 60 = .ok (.iconst 1, 1) := dc_at dkX5_block_b1 7 rfl
theorem dX5_block_61 : decode cX5_block 61 = .ok (.iload_n 1, 1) := dc_at dkX5_block_b1 8 rfl
theorem dX5_block_62 : decode cX5_block 62 = .ok (.iadd, 1) := dc_at dkX5_block_b1 9 rfl
def drX5_block_b2 : List (Nat × (Instr × Nat)) := [(63, (.iaload, 1)), (64, (.ireturn, 1)), (65, (.aload_n 0, 1)), (66, (.iload_n 3, 1)), (67, (.invokevirtual 176, 3)), (70, (.ireturn, 1)), (71, (.iload_n 3, 1)), (72, (.ireturn, 1)), (73, (.iload_n 3, 1)), (74, (.ifCond .ne 7, 3))]
theorem dkX5_block_b2 : ((drX5_block_b2).all fun r => decide (decode cX5_block r.1 = .ok r.2)) = true := by decide +kernel
theorem dX5_block_63 : decode cX5_block 63 = .ok (.iaload, 1) := dc_at dkX5_block_b2 0 rfl
theorem dX5_block_64 : decode cX5_block 64 = .ok (.ireturn, 1) := dc_at dkX5_block_b2 1 rfl
theorem dX5_block_65 : decode cX5_block 65 = .ok (.aload_n 0, 1) := dc_at dkX5_block_b2 2 rfl
theorem dX5_block_66 : decode cX5_block 66 = .ok (.iload_n 3, 1) := dc_at dkX5_block_b2 3 rfl
theorem dX5_block_67 : decode cX5_block 67 = .ok (.invokevirtual 176, 3) := dc_at dkX5_block_b2 4 rfl
theorem dX5_block_70 : decode cX5_block 70 = .ok (.ireturn, 1) := dc_at dkX5_block_b2 5 rfl
theorem dX5_block_71 : decode cX5_block 71 = .ok (.iload_n 3, 1) := dc_at dkX5_block_b2 6 rfl
theorem dX5_block_72 : decode cX5_block 72 = .ok (.ireturn, 1) := dc_at dkX5_block_b2 7 rfl
theorem dX5_block_73 : decode cX5_block 73 = .ok (.iload_n 3, 1) := dc_at dkX5_block_b2 8 rfl
theorem dX5_block_74 : decode cX5_block 74 = .ok (.ifCond .ne 7, 3) := dc_at dkX5_block_b2 9 rfl
def drX5_block_b3 : List (Nat × (Instr × Nat)) := [(77, (.iconst 0, 1)), (78, (.goto 9, 3)), (81, (.aload_n 0, 1)), (82, (.iload_n 1, 1)), (83, (.iload_n 3, 1)), (84, (.invokevirtual 196, 3)), (87, (.ireturn, 1)), (88, (.aload_n 0, 1)), (89, (.iload_n 1, 1)), (90, (.invokevirtual 179, 3))]
theorem dkX5_block_b3 : ((drX5_block_b3).all fun r => decide (decode cX5_block r.1 = .ok r.2)) = true := by decide +kernel
theorem dX5_block_77 : decode cX5_block 77 = .ok (.iconst 0, 1) := dc_at dkX5_block_b3 0 rfl
theorem dX5_block_78 : decode cX5_block 78 = .ok (.goto 9, 3) := dc_at dkX5_block_b3 1 rfl
theorem dX5_block_81 : decode cX5_block 81 = .ok (.aload_n 0, 1) := dc_at dkX5_block_b3 2 rfl
theorem dX5_block_82 : decode cX5_block 82 = .ok (.iload_n 1, 1) := dc_at dkX5_block_b3 3 rfl
theorem dX5_block_83 : decode cX5_block 83 = .ok (.iload_n 3, 1) := dc_at dkX5_block_b3 4 rfl
theorem dX5_block_84 : decode cX5_block 84 = .ok (.invokevirtual 196, 3) := dc_at dkX5_block_b3 5 rfl
theorem dX5_block_87 : decode cX5_block 87 = .ok (.ireturn, 1) := dc_at dkX5_block_b3 6 rfl
theorem dX5_block_88 : decode cX5_block 88 = .ok (.aload_n 0, 1) := dc_at dkX5_block_b3 7 rfl
theorem dX5_block_89 : decode cX5_block 89 = .ok (.iload_n 1, 1) := dc_at dkX5_block_b3 8 rfl
theorem dX5_block_90 : decode cX5_block 90 = .ok (.invokevirtual 179, 3) := dc_at dkX5_block_b3 9 rfl
def drX5_block_b4 : List (Nat × (Instr × Nat)) := [(93, (.ireturn, 1)), (94, (.iconst (-1), 1)), (95, (.ireturn, 1))]
theorem dkX5_block_b4 : ((drX5_block_b4).all fun r => decide (decode cX5_block r.1 = .ok r.2)) = true := by decide +kernel
theorem dX5_block_93 : decode cX5_block 93 = .ok (.ireturn, 1) := dc_at dkX5_block_b4 0 rfl
theorem dX5_block_94 : decode cX5_block 94 = .ok (.iconst (-1), 1) := dc_at dkX5_block_b4 1 rfl
theorem dX5_block_95 : decode cX5_block 95 = .ok (.ireturn, 1) := dc_at dkX5_block_b4 2 rfl
def drX5_blockAt_b0 : List (Nat × (Instr × Nat)) := [(0, (.aload_n 0, 1)), (1, (.iload_n 1, 1)), (2, (.invokevirtual 149, 3)), (5, (.ifCond .ne 5, 3)), (8, (.iconst (-1), 1)), (9, (.ireturn, 1)), (10, (.bipush (-4), 2)), (12, (.istore_n 2, 1)), (13, (.iconst 0, 1)), (14, (.istore_n 3, 1))]
theorem dkX5_blockAt_b0 : ((drX5_blockAt_b0).all fun r => decide (decode cX5_blockAt r.1 = .ok r.2)) = true := by decide +kernel
theorem dX5_blockAt_0 : decode cX5_blockAt 0 = .ok (.aload_n 0, 1) := dc_at dkX5_blockAt_b0 0 rfl
theorem dX5_blockAt_1 : decode cX5_blockAt 1 = .ok (.iload_n 1, 1) := dc_at dkX5_blockAt_b0 1 rfl
theorem dX5_blockAt_2 : decode cX5_blockAt 2 = .ok (.invokevirtual 149, 3) := dc_at dkX5_blockAt_b0 2 rfl
theorem dX5_blockAt_5 : decode cX5_blockAt 5 = .ok (.ifCond .ne 5, 3) := dc_at dkX5_blockAt_b0 3 rfl
theorem dX5_blockAt_8 : decode cX5_blockAt 8 = .ok (.iconst (-1), 1) := dc_at dkX5_blockAt_b0 4 rfl
theorem dX5_blockAt_9 : decode cX5_blockAt 9 = .ok (.ireturn, 1) := dc_at dkX5_blockAt_b0 5 rfl
theorem dX5_blockAt_10 : decode cX5_blockAt 10 = .ok (.bipush (-4), 2) := dc_at dkX5_blockAt_b0 6 rfl
theorem dX5_blockAt_12 : decode cX5_blockAt 12 = .ok (.istore_n 2, 1) := dc_at dkX5_blockAt_b0 7 rfl
theorem dX5_blockAt_13 : decode cX5_blockAt 13 = .ok (.iconst 0, 1) := dc_at dkX5_blockAt_b0 8 rfl
theorem dX5_blockAt_14 : decode cX5_blockAt 14 = .ok (.istore_n 3, 1) := dc_at dkX5_blockAt_b0 9 rfl
def drX5_blockAt_b1 : List (Nat × (Instr × Nat)) := [(15, (.iload_n 3, 1)), (16, (.aload_n 0, 1)), (17, (.getfield 7, 3)), (20, (.iconst 0, 1)), (21, (.iaload, 1)), (22, (.if_icmp .ge 40, 3)), (25, (.iload_n 1, 1)), (26, (.i2l, 1)), (27, (.aload_n 0, 1)), (28, (.getfield 7, 3))]
theorem dkX5_blockAt_b1 : ((drX5_blockAt_b1).all fun r => decide (decode cX5_blockAt r.1 = .ok r.2)) = true := by decide +kernel
theorem dX5_blockAt_15 : decode cX5_blockAt 15 = .ok (.iload_n 3, 1) := dc_at dkX5_blockAt_b1 0 rfl
theorem dX5_blockAt_16 : decode cX5_blockAt 16 = .ok (.aload_n 0, 1) := dc_at dkX5_blockAt_b1 1 rfl
theorem dX5_blockAt_17 : decode cX5_blockAt 17 = .ok (.getfield 7, 3) := dc_at dkX5_blockAt_b1 2 rfl
theorem dX5_blockAt_20 : decode cX5_blockAt 20 = .ok (.iconst 0, 1) := dc_at dkX5_blockAt_b1 3 rfl
theorem dX5_blockAt_21 : decode cX5_blockAt 21 = .ok (.iaload, 1) := dc_at dkX5_blockAt_b1 4 rfl
theorem dX5_blockAt_22 : decode cX5_blockAt 22 = .ok (.if_icmp .ge 40, 3) := dc_at dkX5_blockAt_b1 5 rfl
theorem dX5_blockAt_25 : decode cX5_blockAt 25 = .ok (.iload_n 1, 1) := dc_at dkX5_blockAt_b1 6 rfl
theorem dX5_blockAt_26 : decode cX5_blockAt 26 = .ok (.i2l, 1) := dc_at dkX5_blockAt_b1 7 rfl
theorem dX5_blockAt_27 : decode cX5_blockAt 27 = .ok (.aload_n 0, 1) := dc_at dkX5_blockAt_b1 8 rfl
theorem dX5_blockAt_28 : decode cX5_blockAt 28 = .ok (.getfield 7, 3) := dc_at dkX5_blockAt_b1 9 rfl
def drX5_blockAt_b2 : List (Nat × (Instr × Nat)) := [(31, (.iconst 1, 1)), (32, (.iload_n 3, 1)), (33, (.iadd, 1)), (34, (.iaload, 1)), (35, (.i2l, 1)), (36, (.aload_n 0, 1)), (37, (.iload_n 3, 1)), (38, (.invokevirtual 179, 3)), (41, (.iconst 1, 1)), (42, (.isub, 1))]
theorem dkX5_blockAt_b2 : ((drX5_blockAt_b2).all fun r => decide (decode cX5_blockAt r.1 = .ok r.2)) = true := by decide +kernel
theorem dX5_blockAt_31 : decode cX5_blockAt 31 = .ok (.iconst 1, 1) := dc_at dkX5_blockAt_b2 0 rfl
theorem dX5_blockAt_32 : decode cX5_blockAt 32 = .ok (.iload_n 3, 1) := dc_at dkX5_blockAt_b2 1 rfl
theorem dX5_blockAt_33 : decode cX5_blockAt 33 = .ok (.iadd, 1) := dc_at dkX5_blockAt_b2 2 rfl
theorem dX5_blockAt_34 : decode cX5_blockAt 34 = .ok (.iaload, 1) := dc_at dkX5_blockAt_b2 3 rfl
theorem dX5_blockAt_35 : decode cX5_blockAt 35 = .ok (.i2l, 1) := dc_at dkX5_blockAt_b2 4 rfl
theorem dX5_blockAt_36 : decode cX5_blockAt 36 = .ok (.aload_n 0, 1) := dc_at dkX5_blockAt_b2 5 rfl
theorem dX5_blockAt_37 : decode cX5_blockAt 37 = .ok (.iload_n 3, 1) := dc_at dkX5_blockAt_b2 6 rfl
theorem dX5_blockAt_38 : decode cX5_blockAt 38 = .ok (.invokevirtual 179, 3) := dc_at dkX5_blockAt_b2 7 rfl
theorem dX5_blockAt_41 : decode cX5_blockAt 41 = .ok (.iconst 1, 1) := dc_at dkX5_blockAt_b2 8 rfl
theorem dX5_blockAt_42 : decode cX5_blockAt 42 = .ok (.isub, 1) := dc_at dkX5_blockAt_b2 9 rfl
def drX5_blockAt_b3 : List (Nat × (Instr × Nat)) := [(43, (.i2l, 1)), (44, (.invokestatic 75, 3)), (47, (.ifCond .eq 7, 3)), (50, (.iload_n 3, 1)), (51, (.goto 4, 3)), (54, (.iload_n 2, 1)), (55, (.istore_n 2, 1)), (56, (.iinc 3 1, 3)), (59, (.goto (-44), 3)), (62, (.iload_n 2, 1))]
theorem dkX5_blockAt_b3 : ((drX5_blockAt_b3).all fun r => decide (decode cX5_blockAt r.1 = .ok r.2)) = true := by decide +kernel
theorem dX5_blockAt_43 : decode cX5_blockAt 43 = .ok (.i2l, 1) := dc_at dkX5_blockAt_b3 0 rfl
theorem dX5_blockAt_44 : decode cX5_blockAt 44 = .ok (.invokestatic 75, 3) := dc_at dkX5_blockAt_b3 1 rfl
theorem dX5_blockAt_47 : decode cX5_blockAt 47 = .ok (.ifCond .eq 7, 3) := dc_at dkX5_blockAt_b3 2 rfl
theorem dX5_blockAt_50 : decode cX5_blockAt 50 = .ok (.iload_n 3, 1) := dc_at dkX5_blockAt_b3 3 rfl
theorem dX5_blockAt_51 : decode cX5_blockAt 51 = .ok (.goto 4, 3) := dc_at dkX5_blockAt_b3 4 rfl
theorem dX5_blockAt_54 : decode cX5_blockAt 54 = .ok (.iload_n 2, 1) := dc_at dkX5_blockAt_b3 5 rfl
theorem dX5_blockAt_55 : decode cX5_blockAt 55 = .ok (.istore_n 2, 1) := dc_at dkX5_blockAt_b3 6 rfl
theorem dX5_blockAt_56 : decode cX5_blockAt 56 = .ok (.iinc 3 1, 3) := dc_at dkX5_blockAt_b3 7 rfl
theorem dX5_blockAt_59 : decode cX5_blockAt 59 = .ok (.goto (-44), 3) := dc_at dkX5_blockAt_b3 8 rfl
theorem dX5_blockAt_62 : decode cX5_blockAt 62 = .ok (.iload_n 2, 1) := dc_at dkX5_blockAt_b3 9 rfl
def drX5_blockAt_b4 : List (Nat × (Instr × Nat)) := [(63, (.ireturn, 1))]
theorem dkX5_blockAt_b4 : ((drX5_blockAt_b4).all fun r => decide (decode cX5_blockAt r.1 = .ok r.2)) = true := by decide +kernel
theorem dX5_blockAt_63 : decode cX5_blockAt 63 = .ok (.ireturn, 1) := dc_at dkX5_blockAt_b4 0 rfl
def drX5_type_b0 : List (Nat × (Instr × Nat)) := [(0, (.iload_n 1, 1)), (1, (.i2l, 1)), (2, (.lconst 0, 1)), (3, (.ldc2_w 73, 3)), (6, (.invokestatic 75, 3)), (9, (.ifCond .ne 5, 3)), (12, (.iconst (-1), 1)), (13, (.ireturn, 1)), (14, (.aload_n 0, 1)), (15, (.getfield 7, 3))]
theorem dkX5_type_b0 : ((drX5_type_b0).all fun r => decide (decode cX5_type r.1 = .ok r.2)) = true := by decide +kernel
theorem dX5_type_0 : decode cX5_type 0 = .ok (.iload_n 1, 1) := dc_at dkX5_type_b0 0 rfl
theorem dX5_type_1 : decode cX5_type 1 = .ok (.i2l, 1) := dc_at dkX5_type_b0 1 rfl
theorem dX5_type_2 : decode cX5_type 2 = .ok (.lconst 0, 1) := dc_at dkX5_type_b0 2 rfl
theorem dX5_type_3 : decode cX5_type 3 = .ok (.ldc2_w 73, 3) := dc_at dkX5_type_b0 3 rfl
theorem dX5_type_6 : decode cX5_type 6 = .ok (.invokestatic 75, 3) := dc_at dkX5_type_b0 4 rfl
theorem dX5_type_9 : decode cX5_type 9 = .ok (.ifCond .ne 5, 3) := dc_at dkX5_type_b0 5 rfl
theorem dX5_type_12 : decode cX5_type 12 = .ok (.iconst (-1), 1) := dc_at dkX5_type_b0 6 rfl
theorem dX5_type_13 : decode cX5_type 13 = .ok (.ireturn, 1) := dc_at dkX5_type_b0 7 rfl
theorem dX5_type_14 : decode cX5_type 14 = .ok (.aload_n 0, 1) := dc_at dkX5_type_b0 8 rfl
theorem dX5_type_15 : decode cX5_type 15 = .ok (.getfield 7, 3) := dc_at dkX5_type_b0 9 rfl
def drX5_type_b1 : List (Nat × (Instr × Nat)) := [(18, (.sipush 327, 3)), (21, (.iaload, 1)), (22, (.bipush 12, 2)), (24, (.if_icmp .ne 6, 3)), (27, (.bipush (-3), 2)), (29, (.ireturn, 1)), (30, (.aload_n 0, 1)), (31, (.getfield 7, 3)), (34, (.sipush 328, 3)), (37, (.aload_n 0, 1))]
theorem dkX5_type_b1 : ((drX5_type_b1).all fun r => decide (decode cX5_type r.1 = .ok r.2)) = true := by decide +kernel
theorem dX5_type_18 : decode cX5_type 18 = .ok (.sipush 327, 3) := dc_at dkX5_type_b1 0 rfl
theorem dX5_type_21 : decode cX5_type 21 = .ok (.iaload, 1) := dc_at dkX5_type_b1 1 rfl
theorem dX5_type_22 : decode cX5_type 22 = .ok (.bipush 12, 2) := dc_at dkX5_type_b1 2 rfl
theorem dX5_type_24 : decode cX5_type 24 = .ok (.if_icmp .ne 6, 3) := dc_at dkX5_type_b1 3 rfl
theorem dX5_type_27 : decode cX5_type 27 = .ok (.bipush (-3), 2) := dc_at dkX5_type_b1 4 rfl
theorem dX5_type_29 : decode cX5_type 29 = .ok (.ireturn, 1) := dc_at dkX5_type_b1 5 rfl
theorem dX5_type_30 : decode cX5_type 30 = .ok (.aload_n 0, 1) := dc_at dkX5_type_b1 6 rfl
theorem dX5_type_31 : decode cX5_type 31 = .ok (.getfield 7, 3) := dc_at dkX5_type_b1 7 rfl
theorem dX5_type_34 : decode cX5_type 34 = .ok (.sipush 328, 3) := dc_at dkX5_type_b1 8 rfl
theorem dX5_type_37 : decode cX5_type 37 = .ok (.aload_n 0, 1) := dc_at dkX5_type_b1 9 rfl
def drX5_type_b2 : List (Nat × (Instr × Nat)) := [(38, (.getfield 7, 3)), (41, (.sipush 327, 3)), (44, (.iaload, 1)), (45, (.iadd, 1)), (46, (.iload_n 1, 1)), (47, (.iastore, 1)), (48, (.aload_n 0, 1)), (49, (.getfield 7, 3)), (52, (.sipush 327, 3)), (55, (.dup2, 1))]
theorem dkX5_type_b2 : ((drX5_type_b2).all fun r => decide (decode cX5_type r.1 = .ok r.2)) = true := by decide +kernel
theorem dX5_type_38 : decode cX5_type 38 = .ok (.getfield 7, 3) := dc_at dkX5_type_b2 0 rfl
theorem dX5_type_41 : decode cX5_type 41 = .ok (.sipush 327, 3) := dc_at dkX5_type_b2 1 rfl
theorem dX5_type_44 : decode cX5_type 44 = .ok (.iaload, 1) := dc_at dkX5_type_b2 2 rfl
theorem dX5_type_45 : decode cX5_type 45 = .ok (.iadd, 1) := dc_at dkX5_type_b2 3 rfl
theorem dX5_type_46 : decode cX5_type 46 = .ok (.iload_n 1, 1) := dc_at dkX5_type_b2 4 rfl
theorem dX5_type_47 : decode cX5_type 47 = .ok (.iastore, 1) := dc_at dkX5_type_b2 5 rfl
theorem dX5_type_48 : decode cX5_type 48 = .ok (.aload_n 0, 1) := dc_at dkX5_type_b2 6 rfl
theorem dX5_type_49 : decode cX5_type 49 = .ok (.getfield 7, 3) := dc_at dkX5_type_b2 7 rfl
theorem dX5_type_52 : decode cX5_type 52 = .ok (.sipush 327, 3) := dc_at dkX5_type_b2 8 rfl
theorem dX5_type_55 : decode cX5_type 55 = .ok (.dup2, 1) := dc_at dkX5_type_b2 9 rfl
def drX5_type_b3 : List (Nat × (Instr × Nat)) := [(56, (.iaload, 1)), (57, (.iconst 1, 1)), (58, (.iadd, 1)), (59, (.iastore, 1)), (60, (.aload_n 0, 1)), (61, (.getfield 7, 3)), (64, (.sipush 327, 3)), (67, (.iaload, 1)), (68, (.ireturn, 1))]
theorem dkX5_type_b3 : ((drX5_type_b3).all fun r => decide (decode cX5_type r.1 = .ok r.2)) = true := by decide +kernel
theorem dX5_type_56 : decode cX5_type 56 = .ok (.iaload, 1) := dc_at dkX5_type_b3 0 rfl
theorem dX5_type_57 : decode cX5_type 57 = .ok (.iconst 1, 1) := dc_at dkX5_type_b3 1 rfl
theorem dX5_type_58 : decode cX5_type 58 = .ok (.iadd, 1) := dc_at dkX5_type_b3 2 rfl
theorem dX5_type_59 : decode cX5_type 59 = .ok (.iastore, 1) := dc_at dkX5_type_b3 3 rfl
theorem dX5_type_60 : decode cX5_type 60 = .ok (.aload_n 0, 1) := dc_at dkX5_type_b3 4 rfl
theorem dX5_type_61 : decode cX5_type 61 = .ok (.getfield 7, 3) := dc_at dkX5_type_b3 5 rfl
theorem dX5_type_64 : decode cX5_type 64 = .ok (.sipush 327, 3) := dc_at dkX5_type_b3 6 rfl
theorem dX5_type_67 : decode cX5_type 67 = .ok (.iaload, 1) := dc_at dkX5_type_b3 7 rfl
theorem dX5_type_68 : decode cX5_type 68 = .ok (.ireturn, 1) := dc_at dkX5_type_b3 8 rfl
def drX5_writes_b0 : List (Nat × (Instr × Nat)) := [(0, (.iload_n 1, 1)), (1, (.bipush 12, 2)), (3, (.if_icmp .eq 25, 3)), (6, (.aload_n 0, 1)), (7, (.iload_n 1, 1)), (8, (.invokevirtual 187, 3)), (11, (.aload_n 0, 1)), (12, (.iload_n 2, 1)), (13, (.invokevirtual 176, 3)), (16, (.iadd, 1))]
theorem dkX5_writes_b0 : ((drX5_writes_b0).all fun r => decide (decode cX5_writes r.1 = .ok r.2)) = true := by decide +kernel
theorem dX5_writes_0 : decode cX5_writes 0 = .ok (.iload_n 1, 1) := dc_at dkX5_writes_b0 0 rfl
theorem dX5_writes_1 : decode cX5_writes 1 = .ok (.bipush 12, 2) := dc_at dkX5_writes_b0 1 rfl
theorem dX5_writes_3 : decode cX5_writes 3 = .ok (.if_icmp .eq 25, 3) := dc_at dkX5_writes_b0 2 rfl
theorem dX5_writes_6 : decode cX5_writes 6 = .ok (.aload_n 0, 1) := dc_at dkX5_writes_b0 3 rfl
theorem dX5_writes_7 : decode cX5_writes 7 = .ok (.iload_n 1, 1) := dc_at dkX5_writes_b0 4 rfl
theorem dX5_writes_8 : decode cX5_writes 8 = .ok (.invokevirtual 187, 3) := dc_at dkX5_writes_b0 5 rfl
theorem dX5_writes_11 : decode cX5_writes 11 = .ok (.aload_n 0, 1) := dc_at dkX5_writes_b0 6 rfl
theorem dX5_writes_12 : decode cX5_writes 12 = .ok (.iload_n 2, 1) := dc_at dkX5_writes_b0 7 rfl
theorem dX5_writes_13 : decode cX5_writes 13 = .ok (.invokevirtual 176, 3) := dc_at dkX5_writes_b0 8 rfl
theorem dX5_writes_16 : decode cX5_writes 16 = .ok (.iadd, 1) := dc_at dkX5_writes_b0 9 rfl
def drX5_writes_b1 : List (Nat × (Instr × Nat)) := [(17, (.aload_n 0, 1)), (18, (.getfield 7, 3)), (21, (.sipush 366, 3)), (24, (.iaload, 1)), (25, (.if_icmp .le 6, 3)), (28, (.bipush (-3), 2)), (30, (.ireturn, 1)), (31, (.aload_n 0, 1)), (32, (.getfield 7, 3)), (35, (.iconst 0, 1))]
theorem dkX5_writes_b1 : ((drX5_writes_b1).all fun r => decide (decode cX5_writes r.1 = .ok r.2)) = true := by decide +kernel
theorem dX5_writes_17 : decode cX5_writes 17 = .ok (.aload_n 0, 1) := dc_at dkX5_writes_b1 0 rfl
theorem dX5_writes_18 : decode cX5_writes 18 = .ok (.getfield 7, 3) := dc_at dkX5_writes_b1 1 rfl
theorem dX5_writes_21 : decode cX5_writes 21 = .ok (.sipush 366, 3) := dc_at dkX5_writes_b1 2 rfl
theorem dX5_writes_24 : decode cX5_writes 24 = .ok (.iaload, 1) := dc_at dkX5_writes_b1 3 rfl
theorem dX5_writes_25 : decode cX5_writes 25 = .ok (.if_icmp .le 6, 3) := dc_at dkX5_writes_b1 4 rfl
theorem dX5_writes_28 : decode cX5_writes 28 = .ok (.bipush (-3), 2) := dc_at dkX5_writes_b1 5 rfl
theorem dX5_writes_30 : decode cX5_writes 30 = .ok (.ireturn, 1) := dc_at dkX5_writes_b1 6 rfl
theorem dX5_writes_31 : decode cX5_writes 31 = .ok (.aload_n 0, 1) := dc_at dkX5_writes_b1 7 rfl
theorem dX5_writes_32 : decode cX5_writes 32 = .ok (.getfield 7, 3) := dc_at dkX5_writes_b1 8 rfl
theorem dX5_writes_35 : decode cX5_writes 35 = .ok (.iconst 0, 1) := dc_at dkX5_writes_b1 9 rfl
def drX5_writes_b2 : List (Nat × (Instr × Nat)) := [(36, (.iload_n 1, 1)), (37, (.iastore, 1)), (38, (.aload_n 0, 1)), (39, (.aload_n 0, 1)), (40, (.iload_n 1, 1)), (41, (.invokevirtual 187, 3)), (44, (.invokevirtual 173, 3)), (47, (.aload_n 0, 1)), (48, (.getfield 17, 3)), (51, (.iconst 3, 1))]
theorem dkX5_writes_b2 : ((drX5_writes_b2).all fun r => decide (decode cX5_writes r.1 = .ok r.2)) = true := by decide +kernel
theorem dX5_writes_36 : decode cX5_writes 36 = .ok (.iload_n 1, 1) := dc_at dkX5_writes_b2 0 rfl
theorem dX5_writes_37 : decode cX5_writes 37 = .ok (.iastore, 1) := dc_at dkX5_writes_b2 1 rfl
theorem dX5_writes_38 : decode cX5_writes 38 = .ok (.aload_n 0, 1) := dc_at dkX5_writes_b2 2 rfl
theorem dX5_writes_39 : decode cX5_writes 39 = .ok (.aload_n 0, 1) := dc_at dkX5_writes_b2 3 rfl
theorem dX5_writes_40 : decode cX5_writes 40 = .ok (.iload_n 1, 1) := dc_at dkX5_writes_b2 4 rfl
theorem dX5_writes_41 : decode cX5_writes 41 = .ok (.invokevirtual 187, 3) := dc_at dkX5_writes_b2 5 rfl
theorem dX5_writes_44 : decode cX5_writes 44 = .ok (.invokevirtual 173, 3) := dc_at dkX5_writes_b2 6 rfl
theorem dX5_writes_47 : decode cX5_writes 47 = .ok (.aload_n 0, 1) := dc_at dkX5_writes_b2 7 rfl
theorem dX5_writes_48 : decode cX5_writes 48 = .ok (.getfield 17, 3) := dc_at dkX5_writes_b2 8 rfl
theorem dX5_writes_51 : decode cX5_writes 51 = .ok (.iconst 3, 1) := dc_at dkX5_writes_b2 9 rfl
def drX5_writes_b3 : List (Nat × (Instr × Nat)) := [(52, (.iaload, 1)), (53, (.aload_n 0, 1)), (54, (.iload_n 2, 1)), (55, (.invokevirtual 176, 3)), (58, (.imul, 1)), (59, (.iadd, 1)), (60, (.istore_n 3, 1)), (61, (.aload_n 0, 1)), (62, (.iload_n 2, 1)), (63, (.invokevirtual 66, 3))]
theorem dkX5_writes_b3 : ((drX5_writes_b3).all fun r => decide (decode cX5_writes r.1 = .ok r.2)) = true := by decide +kernel
theorem dX5_writes_52 : decode cX5_writes 52 = .ok (.iaload, 1) := dc_at dkX5_writes_b3 0 rfl
theorem dX5_writes_53 : decode cX5_writes 53 = .ok (.aload_n 0, 1) := dc_at dkX5_writes_b3 1 rfl
theorem dX5_writes_54 : decode cX5_writes 54 = .ok (.iload_n 2, 1) := dc_at dkX5_writes_b3 2 rfl
theorem dX5_writes_55 : decode cX5_writes 55 = .ok (.invokevirtual 176, 3) := dc_at dkX5_writes_b3 3 rfl
theorem dX5_writes_58 : decode cX5_writes 58 = .ok (.imul, 1) := dc_at dkX5_writes_b3 4 rfl
theorem dX5_writes_59 : decode cX5_writes 59 = .ok (.iadd, 1) := dc_at dkX5_writes_b3 5 rfl
theorem dX5_writes_60 : decode cX5_writes 60 = .ok (.istore_n 3, 1) := dc_at dkX5_writes_b3 6 rfl
theorem dX5_writes_61 : decode cX5_writes 61 = .ok (.aload_n 0, 1) := dc_at dkX5_writes_b3 7 rfl
theorem dX5_writes_62 : decode cX5_writes 62 = .ok (.iload_n 2, 1) := dc_at dkX5_writes_b3 8 rfl
theorem dX5_writes_63 : decode cX5_writes 63 = .ok (.invokevirtual 66, 3) := dc_at dkX5_writes_b3 9 rfl
def drX5_writes_b4 : List (Nat × (Instr × Nat)) := [(66, (.aload_n 0, 1)), (67, (.getfield 7, 3)), (70, (.sipush 326, 3)), (73, (.dup2, 1)), (74, (.iaload, 1)), (75, (.aload_n 0, 1)), (76, (.getfield 17, 3)), (79, (.iconst 3, 1)), (80, (.iaload, 1)), (81, (.aload_n 0, 1))]
theorem dkX5_writes_b4 : ((drX5_writes_b4).all fun r => decide (decode cX5_writes r.1 = .ok r.2)) = true := by decide +kernel
theorem dX5_writes_66 : decode cX5_writes 66 = .ok (.aload_n 0, 1) := dc_at dkX5_writes_b4 0 rfl
theorem dX5_writes_67 : decode cX5_writes 67 = .ok (.getfield 7, 3) := dc_at dkX5_writes_b4 1 rfl
theorem dX5_writes_70 : decode cX5_writes 70 = .ok (.sipush 326, 3) := dc_at dkX5_writes_b4 2 rfl
theorem dX5_writes_73 : decode cX5_writes 73 = .ok (.dup2, 1) := dc_at dkX5_writes_b4 3 rfl
theorem dX5_writes_74 : decode cX5_writes 74 = .ok (.iaload, 1) := dc_at dkX5_writes_b4 4 rfl
theorem dX5_writes_75 : decode cX5_writes 75 = .ok (.aload_n 0, 1) := dc_at dkX5_writes_b4 5 rfl
theorem dX5_writes_76 : decode cX5_writes 76 = .ok (.getfield 17, 3) := dc_at dkX5_writes_b4 6 rfl
theorem dX5_writes_79 : decode cX5_writes 79 = .ok (.iconst 3, 1) := dc_at dkX5_writes_b4 7 rfl
theorem dX5_writes_80 : decode cX5_writes 80 = .ok (.iaload, 1) := dc_at dkX5_writes_b4 8 rfl
theorem dX5_writes_81 : decode cX5_writes 81 = .ok (.aload_n 0, 1) := dc_at dkX5_writes_b4 9 rfl
def drX5_writes_b5 : List (Nat × (Instr × Nat)) := [(82, (.iload_n 2, 1)), (83, (.invokevirtual 176, 3)), (86, (.imul, 1)), (87, (.iadd, 1)), (88, (.iastore, 1)), (89, (.aload_n 0, 1)), (90, (.getfield 7, 3)), (93, (.sipush 325, 3)), (96, (.aload_n 0, 1)), (97, (.iload_n 1, 1))]
theorem dkX5_writes_b5 : ((drX5_writes_b5).all fun r => decide (decode cX5_writes r.1 = .ok r.2)) = true := by decide +kernel
theorem dX5_writes_82 : decode cX5_writes 82 = .ok (.iload_n 2, 1) := dc_at dkX5_writes_b5 0 rfl
theorem dX5_writes_83 : decode cX5_writes 83 = .ok (.invokevirtual 176, 3) := dc_at dkX5_writes_b5 1 rfl
theorem dX5_writes_86 : decode cX5_writes 86 = .ok (.imul, 1) := dc_at dkX5_writes_b5 2 rfl
theorem dX5_writes_87 : decode cX5_writes 87 = .ok (.iadd, 1) := dc_at dkX5_writes_b5 3 rfl
theorem dX5_writes_88 : decode cX5_writes 88 = .ok (.iastore, 1) := dc_at dkX5_writes_b5 4 rfl
theorem dX5_writes_89 : decode cX5_writes 89 = .ok (.aload_n 0, 1) := dc_at dkX5_writes_b5 5 rfl
theorem dX5_writes_90 : decode cX5_writes 90 = .ok (.getfield 7, 3) := dc_at dkX5_writes_b5 6 rfl
theorem dX5_writes_93 : decode cX5_writes 93 = .ok (.sipush 325, 3) := dc_at dkX5_writes_b5 7 rfl
theorem dX5_writes_96 : decode cX5_writes 96 = .ok (.aload_n 0, 1) := dc_at dkX5_writes_b5 8 rfl
theorem dX5_writes_97 : decode cX5_writes 97 = .ok (.iload_n 1, 1) := dc_at dkX5_writes_b5 9 rfl
def drX5_writes_b6 : List (Nat × (Instr × Nat)) := [(98, (.invokevirtual 179, 3)), (101, (.iastore, 1)), (102, (.iload_n 3, 1)), (103, (.ireturn, 1))]
theorem dkX5_writes_b6 : ((drX5_writes_b6).all fun r => decide (decode cX5_writes r.1 = .ok r.2)) = true := by decide +kernel
theorem dX5_writes_98 : decode cX5_writes 98 = .ok (.invokevirtual 179, 3) := dc_at dkX5_writes_b6 0 rfl
theorem dX5_writes_101 : decode cX5_writes 101 = .ok (.iastore, 1) := dc_at dkX5_writes_b6 1 rfl
theorem dX5_writes_102 : decode cX5_writes 102 = .ok (.iload_n 3, 1) := dc_at dkX5_writes_b6 2 rfl
theorem dX5_writes_103 : decode cX5_writes 103 = .ok (.ireturn, 1) := dc_at dkX5_writes_b6 3 rfl
def drX5_write_b0 : List (Nat × (Instr × Nat)) := [(0, (.iload_n 1, 1)), (1, (.i2l, 1)), (2, (.lconst 0, 1)), (3, (.aload_n 0, 1)), (4, (.getfield 7, 3)), (7, (.iconst 0, 1)), (8, (.iaload, 1)), (9, (.i2l, 1)), (10, (.invokestatic 75, 3)), (13, (.ifCond .ne 5, 3))]
theorem dkX5_write_b0 : ((drX5_write_b0).all fun r => decide (decode cX5_write r.1 = .ok r.2)) = true := by decide +kernel
theorem dX5_write_0 : decode cX5_write 0 = .ok (.iload_n 1, 1) := dc_at dkX5_write_b0 0 rfl
theorem dX5_write_1 : decode cX5_write 1 = .ok (.i2l, 1) := dc_at dkX5_write_b0 1 rfl
theorem dX5_write_2 : decode cX5_write 2 = .ok (.lconst 0, 1) := dc_at dkX5_write_b0 2 rfl
theorem dX5_write_3 : decode cX5_write 3 = .ok (.aload_n 0, 1) := dc_at dkX5_write_b0 3 rfl
theorem dX5_write_4 : decode cX5_write 4 = .ok (.getfield 7, 3) := dc_at dkX5_write_b0 4 rfl
theorem dX5_write_7 : decode cX5_write 7 = .ok (.iconst 0, 1) := dc_at dkX5_write_b0 5 rfl
theorem dX5_write_8 : decode cX5_write 8 = .ok (.iaload, 1) := dc_at dkX5_write_b0 6 rfl
theorem dX5_write_9 : decode cX5_write 9 = .ok (.i2l, 1) := dc_at dkX5_write_b0 7 rfl
theorem dX5_write_10 : decode cX5_write 10 = .ok (.invokestatic 75, 3) := dc_at dkX5_write_b0 8 rfl
theorem dX5_write_13 : decode cX5_write 13 = .ok (.ifCond .ne 5, 3) := dc_at dkX5_write_b0 9 rfl
def drX5_write_b1 : List (Nat × (Instr × Nat)) := [(16, (.iconst (-1), 1)), (17, (.ireturn, 1)), (18, (.aload_n 0, 1)), (19, (.getfield 7, 3)), (22, (.sipush 327, 3)), (25, (.iaload, 1)), (26, (.ifCond .ne 6, 3)), (29, (.bipush (-2), 2)), (31, (.ireturn, 1)), (32, (.iconst 0, 1))]
theorem dkX5_write_b1 : ((drX5_write_b1).all fun r => decide (decode cX5_write r.1 = .ok r.2)) = true := by decide +kernel
theorem dX5_write_16 : decode cX5_write 16 = .ok (.iconst (-1), 1) := dc_at dkX5_write_b1 0 rfl
theorem dX5_write_17 : decode cX5_write 17 = .ok (.ireturn, 1) := dc_at dkX5_write_b1 1 rfl
theorem dX5_write_18 : decode cX5_write 18 = .ok (.aload_n 0, 1) := dc_at dkX5_write_b1 2 rfl
theorem dX5_write_19 : decode cX5_write 19 = .ok (.getfield 7, 3) := dc_at dkX5_write_b1 3 rfl
theorem dX5_write_22 : decode cX5_write 22 = .ok (.sipush 327, 3) := dc_at dkX5_write_b1 4 rfl
theorem dX5_write_25 : decode cX5_write 25 = .ok (.iaload, 1) := dc_at dkX5_write_b1 5 rfl
theorem dX5_write_26 : decode cX5_write 26 = .ok (.ifCond .ne 6, 3) := dc_at dkX5_write_b1 6 rfl
theorem dX5_write_29 : decode cX5_write 29 = .ok (.bipush (-2), 2) := dc_at dkX5_write_b1 7 rfl
theorem dX5_write_31 : decode cX5_write 31 = .ok (.ireturn, 1) := dc_at dkX5_write_b1 8 rfl
theorem dX5_write_32 : decode cX5_write 32 = .ok (.iconst 0, 1) := dc_at dkX5_write_b1 9 rfl
def drX5_write_b2 : List (Nat × (Instr × Nat)) := [(33, (.istore_n 2, 1)), (34, (.iload_n 2, 1)), (35, (.aload_n 0, 1)), (36, (.getfield 7, 3)), (39, (.sipush 327, 3)), (42, (.iaload, 1)), (43, (.if_icmp .ge 25, 3)), (46, (.aload_n 0, 1)), (47, (.getfield 32, 3)), (50, (.iload_n 2, 1))]
theorem dkX5_write_b2 : ((drX5_write_b2).all fun r => decide (decode cX5_write r.1 = .ok r.2)) = true := by decide +kernel
theorem dX5_write_33 : decode cX5_write 33 = .ok (.istore_n 2, 1) := dc_at dkX5_write_b2 0 rfl
theorem dX5_write_34 : decode cX5_write 34 = .ok (.iload_n 2, 1) := dc_at dkX5_write_b2 1 rfl
theorem dX5_write_35 : decode cX5_write 35 = .ok (.aload_n 0, 1) := dc_at dkX5_write_b2 2 rfl
theorem dX5_write_36 : decode cX5_write 36 = .ok (.getfield 7, 3) := dc_at dkX5_write_b2 3 rfl
theorem dX5_write_39 : decode cX5_write 39 = .ok (.sipush 327, 3) := dc_at dkX5_write_b2 4 rfl
theorem dX5_write_42 : decode cX5_write 42 = .ok (.iaload, 1) := dc_at dkX5_write_b2 5 rfl
theorem dX5_write_43 : decode cX5_write 43 = .ok (.if_icmp .ge 25, 3) := dc_at dkX5_write_b2 6 rfl
theorem dX5_write_46 : decode cX5_write 46 = .ok (.aload_n 0, 1) := dc_at dkX5_write_b2 7 rfl
theorem dX5_write_47 : decode cX5_write 47 = .ok (.getfield 32, 3) := dc_at dkX5_write_b2 8 rfl
theorem dX5_write_50 : decode cX5_write 50 = .ok (.iload_n 2, 1) := dc_at dkX5_write_b2 9 rfl
def drX5_write_b3 : List (Nat × (Instr × Nat)) := [(51, (.aload_n 0, 1)), (52, (.getfield 7, 3)), (55, (.sipush 328, 3)), (58, (.iload_n 2, 1)), (59, (.iadd, 1)), (60, (.iaload, 1)), (61, (.iastore, 1)), (62, (.iinc 2 1, 3)), (65, (.goto (-31), 3)), (68, (.aload_n 0, 1))]
theorem dkX5_write_b3 : ((drX5_write_b3).all fun r => decide (decode cX5_write r.1 = .ok r.2)) = true := by decide +kernel
theorem dX5_write_51 : decode cX5_write 51 = .ok (.aload_n 0, 1) := dc_at dkX5_write_b3 0 rfl
theorem dX5_write_52 : decode cX5_write 52 = .ok (.getfield 7, 3) := dc_at dkX5_write_b3 1 rfl
theorem dX5_write_55 : decode cX5_write 55 = .ok (.sipush 328, 3) := dc_at dkX5_write_b3 2 rfl
theorem dX5_write_58 : decode cX5_write 58 = .ok (.iload_n 2, 1) := dc_at dkX5_write_b3 3 rfl
theorem dX5_write_59 : decode cX5_write 59 = .ok (.iadd, 1) := dc_at dkX5_write_b3 4 rfl
theorem dX5_write_60 : decode cX5_write 60 = .ok (.iaload, 1) := dc_at dkX5_write_b3 5 rfl
theorem dX5_write_61 : decode cX5_write 61 = .ok (.iastore, 1) := dc_at dkX5_write_b3 6 rfl
theorem dX5_write_62 : decode cX5_write 62 = .ok (.iinc 2 1, 3) := dc_at dkX5_write_b3 7 rfl
theorem dX5_write_65 : decode cX5_write 65 = .ok (.goto (-31), 3) := dc_at dkX5_write_b3 8 rfl
theorem dX5_write_68 : decode cX5_write 68 = .ok (.aload_n 0, 1) := dc_at dkX5_write_b3 9 rfl
def drX5_write_b4 : List (Nat × (Instr × Nat)) := [(69, (.iload_n 1, 1)), (70, (.aload_n 0, 1)), (71, (.getfield 7, 3)), (74, (.sipush 327, 3)), (77, (.iaload, 1)), (78, (.invokevirtual 199, 3)), (81, (.istore_n 2, 1)), (82, (.aload_n 0, 1)), (83, (.getfield 7, 3)), (86, (.sipush 327, 3))]
theorem dkX5_write_b4 : ((drX5_write_b4).all fun r => decide (decode cX5_write r.1 = .ok r.2)) = true := by decide +kernel
theorem dX5_write_69 : decode cX5_write 69 = .ok (.iload_n 1, 1) := dc_at dkX5_write_b4 0 rfl
theorem dX5_write_70 : decode cX5_write 70 = .ok (.aload_n 0, 1) := dc_at dkX5_write_b4 1 rfl
theorem dX5_write_71 : decode cX5_write 71 = .ok (.getfield 7, 3) := dc_at dkX5_write_b4 2 rfl
theorem dX5_write_74 : decode cX5_write 74 = .ok (.sipush 327, 3) := dc_at dkX5_write_b4 3 rfl
theorem dX5_write_77 : decode cX5_write 77 = .ok (.iaload, 1) := dc_at dkX5_write_b4 4 rfl
theorem dX5_write_78 : decode cX5_write 78 = .ok (.invokevirtual 199, 3) := dc_at dkX5_write_b4 5 rfl
theorem dX5_write_81 : decode cX5_write 81 = .ok (.istore_n 2, 1) := dc_at dkX5_write_b4 6 rfl
theorem dX5_write_82 : decode cX5_write 82 = .ok (.aload_n 0, 1) := dc_at dkX5_write_b4 7 rfl
theorem dX5_write_83 : decode cX5_write 83 = .ok (.getfield 7, 3) := dc_at dkX5_write_b4 8 rfl
theorem dX5_write_86 : decode cX5_write 86 = .ok (.sipush 327, 3) := dc_at dkX5_write_b4 9 rfl
def drX5_write_b5 : List (Nat × (Instr × Nat)) := [(89, (.iload_n 2, 1)), (90, (.ifCond .ge 14, 3)), (93, (.aload_n 0, 1)), (94, (.getfield 7, 3)), (97, (.sipush 327, 3)), (100, (.iaload, 1)), (101, (.goto 4, 3)), (104, (.iconst 0, 1)), (105, (.iastore, 1)), (106, (.iload_n 2, 1))]
theorem dkX5_write_b5 : ((drX5_write_b5).all fun r => decide (decode cX5_write r.1 = .ok r.2)) = true := by decide +kernel
theorem dX5_write_89 : decode cX5_write 89 = .ok (.iload_n 2, 1) := dc_at dkX5_write_b5 0 rfl
theorem dX5_write_90 : decode cX5_write 90 = .ok (.ifCond .ge 14, 3) := dc_at dkX5_write_b5 1 rfl
theorem dX5_write_93 : decode cX5_write 93 = .ok (.aload_n 0, 1) := dc_at dkX5_write_b5 2 rfl
theorem dX5_write_94 : decode cX5_write 94 = .ok (.getfield 7, 3) := dc_at dkX5_write_b5 3 rfl
theorem dX5_write_97 : decode cX5_write 97 = .ok (.sipush 327, 3) := dc_at dkX5_write_b5 4 rfl
theorem dX5_write_100 : decode cX5_write 100 = .ok (.iaload, 1) := dc_at dkX5_write_b5 5 rfl
theorem dX5_write_101 : decode cX5_write 101 = .ok (.goto 4, 3) := dc_at dkX5_write_b5 6 rfl
theorem dX5_write_104 : decode cX5_write 104 = .ok (.iconst 0, 1) := dc_at dkX5_write_b5 7 rfl
theorem dX5_write_105 : decode cX5_write 105 = .ok (.iastore, 1) := dc_at dkX5_write_b5 8 rfl
theorem dX5_write_106 : decode cX5_write 106 = .ok (.iload_n 2, 1) := dc_at dkX5_write_b5 9 rfl
def drX5_write_b6 : List (Nat × (Instr × Nat)) := [(107, (.ireturn, 1))]
theorem dkX5_write_b6 : ((drX5_write_b6).all fun r => decide (decode cX5_write r.1 = .ok r.2)) = true := by decide +kernel
theorem dX5_write_107 : decode cX5_write 107 = .ok (.ireturn, 1) := dc_at dkX5_write_b6 0 rfl
def drX5_mark_b0 : List (Nat × (Instr × Nat)) := [(0, (.iload_n 1, 1)), (1, (.i2l, 1)), (2, (.lconst 0, 1)), (3, (.aload_n 0, 1)), (4, (.getfield 7, 3)), (7, (.iconst 0, 1)), (8, (.iaload, 1)), (9, (.i2l, 1)), (10, (.invokestatic 75, 3)), (13, (.ifCond .eq 12, 3))]
theorem dkX5_mark_b0 : ((drX5_mark_b0).all fun r => decide (decode cX5_mark r.1 = .ok r.2)) = true := by decide +kernel
theorem dX5_mark_0 : decode cX5_mark 0 = .ok (.iload_n 1, 1) := dc_at dkX5_mark_b0 0 rfl
theorem dX5_mark_1 : decode cX5_mark 1 = .ok (.i2l, 1) := dc_at dkX5_mark_b0 1 rfl
theorem dX5_mark_2 : decode cX5_mark 2 = .ok (.lconst 0, 1) := dc_at dkX5_mark_b0 2 rfl
theorem dX5_mark_3 : decode cX5_mark 3 = .ok (.aload_n 0, 1) := dc_at dkX5_mark_b0 3 rfl
theorem dX5_mark_4 : decode cX5_mark 4 = .ok (.getfield 7, 3) := dc_at dkX5_mark_b0 4 rfl
theorem dX5_mark_7 : decode cX5_mark 7 = .ok (.iconst 0, 1) := dc_at dkX5_mark_b0 5 rfl
theorem dX5_mark_8 : decode cX5_mark 8 = .ok (.iaload, 1) := dc_at dkX5_mark_b0 6 rfl
theorem dX5_mark_9 : decode cX5_mark 9 = .ok (.i2l, 1) := dc_at dkX5_mark_b0 7 rfl
theorem dX5_mark_10 : decode cX5_mark 10 = .ok (.invokestatic 75, 3) := dc_at dkX5_mark_b0 8 rfl
theorem dX5_mark_13 : decode cX5_mark 13 = .ok (.ifCond .eq 12, 3) := dc_at dkX5_mark_b0 9 rfl
def drX5_mark_b1 : List (Nat × (Instr × Nat)) := [(16, (.aload_n 0, 1)), (17, (.iload_n 1, 1)), (18, (.iconst 0, 1)), (19, (.invokevirtual 199, 3)), (22, (.goto 4, 3)), (25, (.iconst (-1), 1)), (26, (.ireturn, 1))]
theorem dkX5_mark_b1 : ((drX5_mark_b1).all fun r => decide (decode cX5_mark r.1 = .ok r.2)) = true := by decide +kernel
theorem dX5_mark_16 : decode cX5_mark 16 = .ok (.aload_n 0, 1) := dc_at dkX5_mark_b1 0 rfl
theorem dX5_mark_17 : decode cX5_mark 17 = .ok (.iload_n 1, 1) := dc_at dkX5_mark_b1 1 rfl
theorem dX5_mark_18 : decode cX5_mark 18 = .ok (.iconst 0, 1) := dc_at dkX5_mark_b1 2 rfl
theorem dX5_mark_19 : decode cX5_mark 19 = .ok (.invokevirtual 199, 3) := dc_at dkX5_mark_b1 3 rfl
theorem dX5_mark_22 : decode cX5_mark 22 = .ok (.goto 4, 3) := dc_at dkX5_mark_b1 4 rfl
theorem dX5_mark_25 : decode cX5_mark 25 = .ok (.iconst (-1), 1) := dc_at dkX5_mark_b1 5 rfl
theorem dX5_mark_26 : decode cX5_mark 26 = .ok (.ireturn, 1) := dc_at dkX5_mark_b1 6 rfl
def drX5_isTrack_b0 : List (Nat × (Instr × Nat)) := [(0, (.iload_n 0, 1)), (1, (.i2l, 1)), (2, (.lconst 0, 1)), (3, (.ldc2_w 143, 3)), (6, (.invokestatic 75, 3)), (9, (.ireturn, 1))]
theorem dkX5_isTrack_b0 : ((drX5_isTrack_b0).all fun r => decide (decode cX5_isTrack r.1 = .ok r.2)) = true := by decide +kernel
theorem dX5_isTrack_0 : decode cX5_isTrack 0 = .ok (.iload_n 0, 1) := dc_at dkX5_isTrack_b0 0 rfl
theorem dX5_isTrack_1 : decode cX5_isTrack 1 = .ok (.i2l, 1) := dc_at dkX5_isTrack_b0 1 rfl
theorem dX5_isTrack_2 : decode cX5_isTrack 2 = .ok (.lconst 0, 1) := dc_at dkX5_isTrack_b0 2 rfl
theorem dX5_isTrack_3 : decode cX5_isTrack 3 = .ok (.ldc2_w 143, 3) := dc_at dkX5_isTrack_b0 3 rfl
theorem dX5_isTrack_6 : decode cX5_isTrack 6 = .ok (.invokestatic 75, 3) := dc_at dkX5_isTrack_b0 4 rfl
theorem dX5_isTrack_9 : decode cX5_isTrack 9 = .ok (.ireturn, 1) := dc_at dkX5_isTrack_b0 5 rfl
def drX5_isColumn_b0 : List (Nat × (Instr × Nat)) := [(0, (.aload_n 0, 1)), (1, (.iload_n 1, 1)), (2, (.invokevirtual 193, 3)), (5, (.ifCond .eq 38, 3)), (8, (.aload_n 0, 1)), (9, (.getfield 7, 3)), (12, (.bipush 13, 2)), (14, (.iload_n 1, 1)), (15, (.iadd, 1)), (16, (.iaload, 1))]
theorem dkX5_isColumn_b0 : ((drX5_isColumn_b0).all fun r => decide (decode cX5_isColumn r.1 = .ok r.2)) = true := by decide +kernel
theorem dX5_isColumn_0 : decode cX5_isColumn 0 = .ok (.aload_n 0, 1) := dc_at dkX5_isColumn_b0 0 rfl
theorem dX5_isColumn_1 : decode cX5_isColumn 1 = .ok (.iload_n 1, 1) := dc_at dkX5_isColumn_b0 1 rfl
theorem dX5_isColumn_2 : decode cX5_isColumn 2 = .ok (.invokevirtual 193, 3) := dc_at dkX5_isColumn_b0 2 rfl
theorem dX5_isColumn_5 : decode cX5_isColumn 5 = .ok (.ifCond .eq 38, 3) := dc_at dkX5_isColumn_b0 3 rfl
theorem dX5_isColumn_8 : decode cX5_isColumn 8 = .ok (.aload_n 0, 1) := dc_at dkX5_isColumn_b0 4 rfl
theorem dX5_isColumn_9 : decode cX5_isColumn 9 = .ok (.getfield 7, 3) := dc_at dkX5_isColumn_b0 5 rfl
theorem dX5_isColumn_12 : decode cX5_isColumn 12 = .ok (.bipush 13, 2) := dc_at dkX5_isColumn_b0 6 rfl
theorem dX5_isColumn_14 : decode cX5_isColumn 14 = .ok (.iload_n 1, 1) := dc_at dkX5_isColumn_b0 7 rfl
theorem dX5_isColumn_15 : decode cX5_isColumn 15 = .ok (.iadd, 1) := dc_at dkX5_isColumn_b0 8 rfl
theorem dX5_isColumn_16 : decode cX5_isColumn 16 = .ok (.iaload, 1) := dc_at dkX5_isColumn_b0 9 rfl
def drX5_isColumn_b1 : List (Nat × (Instr × Nat)) := [(17, (.ifCond .le 26, 3)), (20, (.iload_n 2, 1)), (21, (.i2l, 1)), (22, (.lconst 0, 1)), (23, (.aload_n 0, 1)), (24, (.getfield 7, 3)), (27, (.bipush 13, 2)), (29, (.iload_n 1, 1)), (30, (.iadd, 1)), (31, (.iaload, 1))]
theorem dkX5_isColumn_b1 : ((drX5_isColumn_b1).all fun r => decide (decode cX5_isColumn r.1 = .ok r.2)) = true := by decide +kernel
theorem dX5_isColumn_17 : decode cX5_isColumn 17 = .ok (.ifCond .le 26, 3) := dc_at dkX5_isColumn_b1 0 rfl
theorem dX5_isColumn_20 : decode cX5_isColumn 20 = .ok (.iload_n 2, 1) := dc_at dkX5_isColumn_b1 1 rfl
theorem dX5_isColumn_21 : decode cX5_isColumn 21 = .ok (.i2l, 1) := dc_at dkX5_isColumn_b1 2 rfl
theorem dX5_isColumn_22 : decode cX5_isColumn 22 = .ok (.lconst 0, 1) := dc_at dkX5_isColumn_b1 3 rfl
theorem dX5_isColumn_23 : decode cX5_isColumn 23 = .ok (.aload_n 0, 1) := dc_at dkX5_isColumn_b1 4 rfl
theorem dX5_isColumn_24 : decode cX5_isColumn 24 = .ok (.getfield 7, 3) := dc_at dkX5_isColumn_b1 5 rfl
theorem dX5_isColumn_27 : decode cX5_isColumn 27 = .ok (.bipush 13, 2) := dc_at dkX5_isColumn_b1 6 rfl
theorem dX5_isColumn_29 : decode cX5_isColumn 29 = .ok (.iload_n 1, 1) := dc_at dkX5_isColumn_b1 7 rfl
theorem dX5_isColumn_30 : decode cX5_isColumn 30 = .ok (.iadd, 1) := dc_at dkX5_isColumn_b1 8 rfl
theorem dX5_isColumn_31 : decode cX5_isColumn 31 = .ok (.iaload, 1) := dc_at dkX5_isColumn_b1 9 rfl
def drX5_isColumn_b2 : List (Nat × (Instr × Nat)) := [(32, (.i2l, 1)), (33, (.invokestatic 75, 3)), (36, (.ifCond .eq 7, 3)), (39, (.iconst 1, 1)), (40, (.goto 4, 3)), (43, (.iconst 0, 1)), (44, (.ireturn, 1))]
theorem dkX5_isColumn_b2 : ((drX5_isColumn_b2).all fun r => decide (decode cX5_isColumn r.1 = .ok r.2)) = true := by decide +kernel
theorem dX5_isColumn_32 : decode cX5_isColumn 32 = .ok (.i2l, 1) := dc_at dkX5_isColumn_b2 0 rfl
theorem dX5_isColumn_33 : decode cX5_isColumn 33 = .ok (.invokestatic 75, 3) := dc_at dkX5_isColumn_b2 1 rfl
theorem dX5_isColumn_36 : decode cX5_isColumn 36 = .ok (.ifCond .eq 7, 3) := dc_at dkX5_isColumn_b2 2 rfl
theorem dX5_isColumn_39 : decode cX5_isColumn 39 = .ok (.iconst 1, 1) := dc_at dkX5_isColumn_b2 3 rfl
theorem dX5_isColumn_40 : decode cX5_isColumn 40 = .ok (.goto 4, 3) := dc_at dkX5_isColumn_b2 4 rfl
theorem dX5_isColumn_43 : decode cX5_isColumn 43 = .ok (.iconst 0, 1) := dc_at dkX5_isColumn_b2 5 rfl
theorem dX5_isColumn_44 : decode cX5_isColumn 44 = .ok (.ireturn, 1) := dc_at dkX5_isColumn_b2 6 rfl
def drX5_spoil_b0 : List (Nat × (Instr × Nat)) := [(0, (.aload_n 0, 1)), (1, (.iload_n 1, 1)), (2, (.iload_n 2, 1)), (3, (.invokevirtual 202, 3)), (6, (.ifCond .eq 10, 3)), (9, (.iload_n 3, 1)), (10, (.invokestatic 206, 3)), (13, (.ifCond .ne 5, 3)), (16, (.iconst (-1), 1)), (17, (.ireturn, 1))]
theorem dkX5_spoil_b0 : ((drX5_spoil_b0).all fun r => decide (decode cX5_spoil r.1 = .ok r.2)) = true := by decide +kernel
theorem dX5_spoil_0 : decode cX5_spoil 0 = .ok (.aload_n 0, 1) := dc_at dkX5_spoil_b0 0 rfl
theorem dX5_spoil_1 : decode cX5_spoil 1 = .ok (.iload_n 1, 1) := dc_at dkX5_spoil_b0 1 rfl
theorem dX5_spoil_2 : decode cX5_spoil 2 = .ok (.iload_n 2, 1) := dc_at dkX5_spoil_b0 2 rfl
theorem dX5_spoil_3 : decode cX5_spoil 3 = .ok (.invokevirtual 202, 3) := dc_at dkX5_spoil_b0 3 rfl
theorem dX5_spoil_6 : decode cX5_spoil 6 = .ok (.ifCond .eq 10, 3) := dc_at dkX5_spoil_b0 4 rfl
theorem dX5_spoil_9 : decode cX5_spoil 9 = .ok (.iload_n 3, 1) := dc_at dkX5_spoil_b0 5 rfl
theorem dX5_spoil_10 : decode cX5_spoil 10 = .ok (.invokestatic 206, 3) := dc_at dkX5_spoil_b0 6 rfl
theorem dX5_spoil_13 : decode cX5_spoil 13 = .ok (.ifCond .ne 5, 3) := dc_at dkX5_spoil_b0 7 rfl
theorem dX5_spoil_16 : decode cX5_spoil 16 = .ok (.iconst (-1), 1) := dc_at dkX5_spoil_b0 8 rfl
theorem dX5_spoil_17 : decode cX5_spoil 17 = .ok (.ireturn, 1) := dc_at dkX5_spoil_b0 9 rfl
def drX5_spoil_b1 : List (Nat × (Instr × Nat)) := [(18, (.aload_n 0, 1)), (19, (.getfield 7, 3)), (22, (.bipush 25, 2)), (24, (.bipush 13, 2)), (26, (.iload_n 1, 1)), (27, (.imul, 1)), (28, (.iadd, 1)), (29, (.iload_n 2, 1)), (30, (.iadd, 1)), (31, (.dup2, 1))]
theorem dkX5_spoil_b1 : ((drX5_spoil_b1).all fun r => decide (decode cX5_spoil r.1 = .ok r.2)) = true := by decide +kernel
theorem dX5_spoil_18 : decode cX5_spoil 18 = .ok (.aload_n 0, 1) := dc_at dkX5_spoil_b1 0 rfl
theorem dX5_spoil_19 : decode cX5_spoil 19 = .ok (.getfield 7, 3) := dc_at dkX5_spoil_b1 1 rfl
theorem dX5_spoil_22 : decode cX5_spoil 22 = .ok (.bipush 25, 2) := dc_at dkX5_spoil_b1 2 rfl
theorem dX5_spoil_24 : decode cX5_spoil 24 = .ok (.bipush 13, 2) := dc_at dkX5_spoil_b1 3 rfl
theorem dX5_spoil_26 : decode cX5_spoil 26 = .ok (.iload_n 1, 1) := dc_at dkX5_spoil_b1 4 rfl
theorem dX5_spoil_27 : decode cX5_spoil 27 = .ok (.imul, 1) := dc_at dkX5_spoil_b1 5 rfl
theorem dX5_spoil_28 : decode cX5_spoil 28 = .ok (.iadd, 1) := dc_at dkX5_spoil_b1 6 rfl
theorem dX5_spoil_29 : decode cX5_spoil 29 = .ok (.iload_n 2, 1) := dc_at dkX5_spoil_b1 7 rfl
theorem dX5_spoil_30 : decode cX5_spoil 30 = .ok (.iadd, 1) := dc_at dkX5_spoil_b1 8 rfl
theorem dX5_spoil_31 : decode cX5_spoil 31 = .ok (.dup2, 1) := dc_at dkX5_spoil_b1 9 rfl
def drX5_spoil_b2 : List (Nat × (Instr × Nat)) := [(32, (.iaload, 1)), (33, (.iconst 1, 1)), (34, (.iload_n 3, 1)), (35, (.ishl, 1)), (36, (.ixor, 1)), (37, (.iastore, 1)), (38, (.aload_n 0, 1)), (39, (.iload_n 1, 1)), (40, (.iload_n 2, 1)), (41, (.invokevirtual 196, 3))]
theorem dkX5_spoil_b2 : ((drX5_spoil_b2).all fun r => decide (decode cX5_spoil r.1 = .ok r.2)) = true := by decide +kernel
theorem dX5_spoil_32 : decode cX5_spoil 32 = .ok (.iaload, 1) := dc_at dkX5_spoil_b2 0 rfl
theorem dX5_spoil_33 : decode cX5_spoil 33 = .ok (.iconst 1, 1) := dc_at dkX5_spoil_b2 1 rfl
theorem dX5_spoil_34 : decode cX5_spoil 34 = .ok (.iload_n 3, 1) := dc_at dkX5_spoil_b2 2 rfl
theorem dX5_spoil_35 : decode cX5_spoil 35 = .ok (.ishl, 1) := dc_at dkX5_spoil_b2 3 rfl
theorem dX5_spoil_36 : decode cX5_spoil 36 = .ok (.ixor, 1) := dc_at dkX5_spoil_b2 4 rfl
theorem dX5_spoil_37 : decode cX5_spoil 37 = .ok (.iastore, 1) := dc_at dkX5_spoil_b2 5 rfl
theorem dX5_spoil_38 : decode cX5_spoil 38 = .ok (.aload_n 0, 1) := dc_at dkX5_spoil_b2 6 rfl
theorem dX5_spoil_39 : decode cX5_spoil 39 = .ok (.iload_n 1, 1) := dc_at dkX5_spoil_b2 7 rfl
theorem dX5_spoil_40 : decode cX5_spoil 40 = .ok (.iload_n 2, 1) := dc_at dkX5_spoil_b2 8 rfl
theorem dX5_spoil_41 : decode cX5_spoil 41 = .ok (.invokevirtual 196, 3) := dc_at dkX5_spoil_b2 9 rfl
def drX5_spoil_b3 : List (Nat × (Instr × Nat)) := [(44, (.ireturn, 1))]
theorem dkX5_spoil_b3 : ((drX5_spoil_b3).all fun r => decide (decode cX5_spoil r.1 = .ok r.2)) = true := by decide +kernel
theorem dX5_spoil_44 : decode cX5_spoil 44 = .ok (.ireturn, 1) := dc_at dkX5_spoil_b3 0 rfl
def drX5_dead_b0 : List (Nat × (Instr × Nat)) := [(0, (.iload_n 1, 1)), (1, (.bipush (-4), 2)), (3, (.if_icmp .eq 12, 3)), (6, (.iload_n 1, 1)), (7, (.invokestatic 206, 3)), (10, (.ifCond .ne 5, 3)), (13, (.iconst (-1), 1)), (14, (.ireturn, 1)), (15, (.aload_n 0, 1)), (16, (.getfield 7, 3))]
theorem dkX5_dead_b0 : ((drX5_dead_b0).all fun r => decide (decode cX5_dead r.1 = .ok r.2)) = true := by decide +kernel
theorem dX5_dead_0 : decode cX5_dead 0 = .ok (.iload_n 1, 1) := dc_at dkX5_dead_b0 0 rfl
theorem dX5_dead_1 : decode cX5_dead 1 = .ok (.bipush (-4), 2) := dc_at dkX5_dead_b0 1 rfl
theorem dX5_dead_3 : decode cX5_dead 3 = .ok (.if_icmp .eq 12, 3) := dc_at dkX5_dead_b0 2 rfl
theorem dX5_dead_6 : decode cX5_dead 6 = .ok (.iload_n 1, 1) := dc_at dkX5_dead_b0 3 rfl
theorem dX5_dead_7 : decode cX5_dead 7 = .ok (.invokestatic 206, 3) := dc_at dkX5_dead_b0 4 rfl
theorem dX5_dead_10 : decode cX5_dead 10 = .ok (.ifCond .ne 5, 3) := dc_at dkX5_dead_b0 5 rfl
theorem dX5_dead_13 : decode cX5_dead 13 = .ok (.iconst (-1), 1) := dc_at dkX5_dead_b0 6 rfl
theorem dX5_dead_14 : decode cX5_dead 14 = .ok (.ireturn, 1) := dc_at dkX5_dead_b0 7 rfl
theorem dX5_dead_15 : decode cX5_dead 15 = .ok (.aload_n 0, 1) := dc_at dkX5_dead_b0 8 rfl
theorem dX5_dead_16 : decode cX5_dead 16 = .ok (.getfield 7, 3) := dc_at dkX5_dead_b0 9 rfl
def drX5_dead_b1 : List (Nat × (Instr × Nat)) := [(19, (.sipush 340, 3)), (22, (.iaload, 1)), (23, (.istore_n 2, 1)), (24, (.aload_n 0, 1)), (25, (.getfield 7, 3)), (28, (.sipush 340, 3)), (31, (.iload_n 1, 1)), (32, (.iastore, 1)), (33, (.iload_n 2, 1)), (34, (.ireturn, 1))]
theorem dkX5_dead_b1 : ((drX5_dead_b1).all fun r => decide (decode cX5_dead r.1 = .ok r.2)) = true := by decide +kernel
theorem dX5_dead_19 : decode cX5_dead 19 = .ok (.sipush 340, 3) := dc_at dkX5_dead_b1 0 rfl
theorem dX5_dead_22 : decode cX5_dead 22 = .ok (.iaload, 1) := dc_at dkX5_dead_b1 1 rfl
theorem dX5_dead_23 : decode cX5_dead 23 = .ok (.istore_n 2, 1) := dc_at dkX5_dead_b1 2 rfl
theorem dX5_dead_24 : decode cX5_dead 24 = .ok (.aload_n 0, 1) := dc_at dkX5_dead_b1 3 rfl
theorem dX5_dead_25 : decode cX5_dead 25 = .ok (.getfield 7, 3) := dc_at dkX5_dead_b1 4 rfl
theorem dX5_dead_28 : decode cX5_dead 28 = .ok (.sipush 340, 3) := dc_at dkX5_dead_b1 5 rfl
theorem dX5_dead_31 : decode cX5_dead 31 = .ok (.iload_n 1, 1) := dc_at dkX5_dead_b1 6 rfl
theorem dX5_dead_32 : decode cX5_dead 32 = .ok (.iastore, 1) := dc_at dkX5_dead_b1 7 rfl
theorem dX5_dead_33 : decode cX5_dead 33 = .ok (.iload_n 2, 1) := dc_at dkX5_dead_b1 8 rfl
theorem dX5_dead_34 : decode cX5_dead 34 = .ok (.ireturn, 1) := dc_at dkX5_dead_b1 9 rfl
def drX5_across_b0 : List (Nat × (Instr × Nat)) := [(0, (.iconst 0, 1)), (1, (.istore_n 2, 1)), (2, (.iconst 0, 1)), (3, (.istore_n 3, 1)), (4, (.iload_n 3, 1)), (5, (.aload_n 0, 1)), (6, (.getfield 7, 3)), (9, (.bipush 13, 2)), (11, (.iload_n 1, 1)), (12, (.iadd, 1))]
theorem dkX5_across_b0 : ((drX5_across_b0).all fun r => decide (decode cX5_across r.1 = .ok r.2)) = true := by decide +kernel
theorem dX5_across_0 : decode cX5_across 0 = .ok (.iconst 0, 1) := dc_at dkX5_across_b0 0 rfl
theorem dX5_across_1 : decode cX5_across 1 = .ok (.istore_n 2, 1) := dc_at dkX5_across_b0 1 rfl
theorem dX5_across_2 : decode cX5_across 2 = .ok (.iconst 0, 1) := dc_at dkX5_across_b0 2 rfl
theorem dX5_across_3 : decode cX5_across 3 = .ok (.istore_n 3, 1) := dc_at dkX5_across_b0 3 rfl
theorem dX5_across_4 : decode cX5_across 4 = .ok (.iload_n 3, 1) := dc_at dkX5_across_b0 4 rfl
theorem dX5_across_5 : decode cX5_across 5 = .ok (.aload_n 0, 1) := dc_at dkX5_across_b0 5 rfl
theorem dX5_across_6 : decode cX5_across 6 = .ok (.getfield 7, 3) := dc_at dkX5_across_b0 6 rfl
theorem dX5_across_9 : decode cX5_across 9 = .ok (.bipush 13, 2) := dc_at dkX5_across_b0 7 rfl
theorem dX5_across_11 : decode cX5_across 11 = .ok (.iload_n 1, 1) := dc_at dkX5_across_b0 8 rfl
theorem dX5_across_12 : decode cX5_across 12 = .ok (.iadd, 1) := dc_at dkX5_across_b0 9 rfl
def drX5_across_b1 : List (Nat × (Instr × Nat)) := [(13, (.iaload, 1)), (14, (.if_icmp .gt 18, 3)), (17, (.iload_n 2, 1)), (18, (.aload_n 0, 1)), (19, (.iload_n 1, 1)), (20, (.iload_n 3, 1)), (21, (.invokevirtual 196, 3)), (24, (.ixor, 1)), (25, (.istore_n 2, 1)), (26, (.iinc 3 1, 3))]
theorem dkX5_across_b1 : ((drX5_across_b1).all fun r => decide (decode cX5_across r.1 = .ok r.2)) = true := by decide +kernel
theorem dX5_across_13 : decode cX5_across 13 = .ok (.iaload, 1) := dc_at dkX5_across_b1 0 rfl
theorem dX5_across_14 : decode cX5_across 14 = .ok (.if_icmp .gt 18, 3) := dc_at dkX5_across_b1 1 rfl
theorem dX5_across_17 : decode cX5_across 17 = .ok (.iload_n 2, 1) := dc_at dkX5_across_b1 2 rfl
theorem dX5_across_18 : decode cX5_across 18 = .ok (.aload_n 0, 1) := dc_at dkX5_across_b1 3 rfl
theorem dX5_across_19 : decode cX5_across 19 = .ok (.iload_n 1, 1) := dc_at dkX5_across_b1 4 rfl
theorem dX5_across_20 : decode cX5_across 20 = .ok (.iload_n 3, 1) := dc_at dkX5_across_b1 5 rfl
theorem dX5_across_21 : decode cX5_across 21 = .ok (.invokevirtual 196, 3) := dc_at dkX5_across_b1 6 rfl
theorem dX5_across_24 : decode cX5_across 24 = .ok (.ixor, 1) := dc_at dkX5_across_b1 7 rfl
theorem dX5_across_25 : decode cX5_across 25 = .ok (.istore_n 2, 1) := dc_at dkX5_across_b1 8 rfl
theorem dX5_across_26 : decode cX5_across 26 = .ok (.iinc 3 1, 3) := dc_at dkX5_across_b1 9 rfl
def drX5_across_b2 : List (Nat × (Instr × Nat)) := [(29, (.goto (-25), 3)), (32, (.iload_n 2, 1)), (33, (.ireturn, 1))]
theorem dkX5_across_b2 : ((drX5_across_b2).all fun r => decide (decode cX5_across r.1 = .ok r.2)) = true := by decide +kernel
theorem dX5_across_29 : decode cX5_across 29 = .ok (.goto (-25), 3) := dc_at dkX5_across_b2 0 rfl
theorem dX5_across_32 : decode cX5_across 32 = .ok (.iload_n 2, 1) := dc_at dkX5_across_b2 1 rfl
theorem dX5_across_33 : decode cX5_across 33 = .ok (.ireturn, 1) := dc_at dkX5_across_b2 2 rfl
def drX5_onesOf_b0 : List (Nat × (Instr × Nat)) := [(0, (.iconst 0, 1)), (1, (.istore_n 1, 1)), (2, (.iconst 0, 1)), (3, (.istore_n 2, 1)), (4, (.iload_n 2, 1)), (5, (.bipush 9, 2)), (7, (.if_icmp .ge 17, 3)), (10, (.iload_n 1, 1)), (11, (.iload_n 0, 1)), (12, (.iload_n 2, 1))]
theorem dkX5_onesOf_b0 : ((drX5_onesOf_b0).all fun r => decide (decode cX5_onesOf r.1 = .ok r.2)) = true := by decide +kernel
theorem dX5_onesOf_0 : decode cX5_onesOf 0 = .ok (.iconst 0, 1) := dc_at dkX5_onesOf_b0 0 rfl
theorem dX5_onesOf_1 : decode cX5_onesOf 1 = .ok (.istore_n 1, 1) := dc_at dkX5_onesOf_b0 1 rfl
theorem dX5_onesOf_2 : decode cX5_onesOf 2 = .ok (.iconst 0, 1) := dc_at dkX5_onesOf_b0 2 rfl
theorem dX5_onesOf_3 : decode cX5_onesOf 3 = .ok (.istore_n 2, 1) := dc_at dkX5_onesOf_b0 3 rfl
theorem dX5_onesOf_4 : decode cX5_onesOf 4 = .ok (.iload_n 2, 1) := dc_at dkX5_onesOf_b0 4 rfl
theorem dX5_onesOf_5 : decode cX5_onesOf 5 = .ok (.bipush 9, 2) := dc_at dkX5_onesOf_b0 5 rfl
theorem dX5_onesOf_7 : decode cX5_onesOf 7 = .ok (.if_icmp .ge 17, 3) := dc_at dkX5_onesOf_b0 6 rfl
theorem dX5_onesOf_10 : decode cX5_onesOf 10 = .ok (.iload_n 1, 1) := dc_at dkX5_onesOf_b0 7 rfl
theorem dX5_onesOf_11 : decode cX5_onesOf 11 = .ok (.iload_n 0, 1) := dc_at dkX5_onesOf_b0 8 rfl
theorem dX5_onesOf_12 : decode cX5_onesOf 12 = .ok (.iload_n 2, 1) := dc_at dkX5_onesOf_b0 9 rfl
def drX5_onesOf_b1 : List (Nat × (Instr × Nat)) := [(13, (.ishr, 1)), (14, (.iconst 1, 1)), (15, (.iand, 1)), (16, (.iadd, 1)), (17, (.istore_n 1, 1)), (18, (.iinc 2 1, 3)), (21, (.goto (-17), 3)), (24, (.iload_n 1, 1)), (25, (.ireturn, 1))]
theorem dkX5_onesOf_b1 : ((drX5_onesOf_b1).all fun r => decide (decode cX5_onesOf r.1 = .ok r.2)) = true := by decide +kernel
theorem dX5_onesOf_13 : decode cX5_onesOf 13 = .ok (.ishr, 1) := dc_at dkX5_onesOf_b1 0 rfl
theorem dX5_onesOf_14 : decode cX5_onesOf 14 = .ok (.iconst 1, 1) := dc_at dkX5_onesOf_b1 1 rfl
theorem dX5_onesOf_15 : decode cX5_onesOf 15 = .ok (.iand, 1) := dc_at dkX5_onesOf_b1 2 rfl
theorem dX5_onesOf_16 : decode cX5_onesOf 16 = .ok (.iadd, 1) := dc_at dkX5_onesOf_b1 3 rfl
theorem dX5_onesOf_17 : decode cX5_onesOf 17 = .ok (.istore_n 1, 1) := dc_at dkX5_onesOf_b1 4 rfl
theorem dX5_onesOf_18 : decode cX5_onesOf 18 = .ok (.iinc 2 1, 3) := dc_at dkX5_onesOf_b1 5 rfl
theorem dX5_onesOf_21 : decode cX5_onesOf 21 = .ok (.goto (-17), 3) := dc_at dkX5_onesOf_b1 6 rfl
theorem dX5_onesOf_24 : decode cX5_onesOf 24 = .ok (.iload_n 1, 1) := dc_at dkX5_onesOf_b1 7 rfl
theorem dX5_onesOf_25 : decode cX5_onesOf 25 = .ok (.ireturn, 1) := dc_at dkX5_onesOf_b1 8 rfl
def drX5_reading_b0 : List (Nat × (Instr × Nat)) := [(0, (.aload_n 0, 1)), (1, (.getfield 7, 3)), (4, (.bipush 13, 2)), (6, (.iload_n 1, 1)), (7, (.iadd, 1)), (8, (.iaload, 1)), (9, (.istore_n 3, 1)), (10, (.iload_n 3, 1)), (11, (.ifCond .ne 7, 3)), (14, (.iconst 0, 1))]
theorem dkX5_reading_b0 : ((drX5_reading_b0).all fun r => decide (decode cX5_reading r.1 = .ok r.2)) = true := by decide +kernel
theorem dX5_reading_0 : decode cX5_reading 0 = .ok (.aload_n 0, 1) := dc_at dkX5_reading_b0 0 rfl
theorem dX5_reading_1 : decode cX5_reading 1 = .ok (.getfield 7, 3) := dc_at dkX5_reading_b0 1 rfl
theorem dX5_reading_4 : decode cX5_reading 4 = .ok (.bipush 13, 2) := dc_at dkX5_reading_b0 2 rfl
theorem dX5_reading_6 : decode cX5_reading 6 = .ok (.iload_n 1, 1) := dc_at dkX5_reading_b0 3 rfl
theorem dX5_reading_7 : decode cX5_reading 7 = .ok (.iadd, 1) := dc_at dkX5_reading_b0 4 rfl
theorem dX5_reading_8 : decode cX5_reading 8 = .ok (.iaload, 1) := dc_at dkX5_reading_b0 5 rfl
theorem dX5_reading_9 : decode cX5_reading 9 = .ok (.istore_n 3, 1) := dc_at dkX5_reading_b0 6 rfl
theorem dX5_reading_10 : decode cX5_reading 10 = .ok (.iload_n 3, 1) := dc_at dkX5_reading_b0 7 rfl
theorem dX5_reading_11 : decode cX5_reading 11 = .ok (.ifCond .ne 7, 3) := dc_at dkX5_reading_b0 8 rfl
theorem dX5_reading_14 : decode cX5_reading 14 = .ok (.iconst 0, 1) := dc_at dkX5_reading_b0 9 rfl
def drX5_reading_b1 : List (Nat × (Instr × Nat)) := [(15, (.goto 8, 3)), (18, (.aload_n 0, 1)), (19, (.iload_n 1, 1)), (20, (.invokevirtual 209, 3)), (23, (.istore 4, 2)), (25, (.iconst 0, 1)), (26, (.istore 5, 2)), (28, (.bipush (-4), 2)), (30, (.istore 6, 2)), (32, (.iconst 0, 1))]
theorem dkX5_reading_b1 : ((drX5_reading_b1).all fun r => decide (decode cX5_reading r.1 = .ok r.2)) = true := by decide +kernel
theorem dX5_reading_15 : decode cX5_reading 15 = .ok (.goto 8, 3) := dc_at dkX5_reading_b1 0 rfl
theorem dX5_reading_18 : decode cX5_reading 18 = .ok (.aload_n 0, 1) := dc_at dkX5_reading_b1 1 rfl
theorem dX5_reading_19 : decode cX5_reading 19 = .ok (.iload_n 1, 1) := dc_at dkX5_reading_b1 2 rfl
theorem dX5_reading_20 : decode cX5_reading 20 = .ok (.invokevirtual 209, 3) := dc_at dkX5_reading_b1 3 rfl
theorem dX5_reading_23 : decode cX5_reading 23 = .ok (.istore 4, 2) := dc_at dkX5_reading_b1 4 rfl
theorem dX5_reading_25 : decode cX5_reading 25 = .ok (.iconst 0, 1) := dc_at dkX5_reading_b1 5 rfl
theorem dX5_reading_26 : decode cX5_reading 26 = .ok (.istore 5, 2) := dc_at dkX5_reading_b1 6 rfl
theorem dX5_reading_28 : decode cX5_reading 28 = .ok (.bipush (-4), 2) := dc_at dkX5_reading_b1 7 rfl
theorem dX5_reading_30 : decode cX5_reading 30 = .ok (.istore 6, 2) := dc_at dkX5_reading_b1 8 rfl
theorem dX5_reading_32 : decode cX5_reading 32 = .ok (.iconst 0, 1) := dc_at dkX5_reading_b1 9 rfl
def drX5_reading_b2 : List (Nat × (Instr × Nat)) := [(33, (.istore 7, 2)), (35, (.iload 7, 2)), (37, (.iload_n 3, 1)), (38, (.if_icmp .ge 43, 3)), (41, (.aload_n 0, 1)), (42, (.getfield 35, 3)), (45, (.iload 7, 2)), (47, (.aload_n 0, 1)), (48, (.iload_n 1, 1)), (49, (.iload 7, 2))]
theorem dkX5_reading_b2 : ((drX5_reading_b2).all fun r => decide (decode cX5_reading r.1 = .ok r.2)) = true := by decide +kernel
theorem dX5_reading_33 : decode cX5_reading 33 = .ok (.istore 7, 2) := dc_at dkX5_reading_b2 0 rfl
theorem dX5_reading_35 : decode cX5_reading 35 = .ok (.iload 7, 2) := dc_at dkX5_reading_b2 1 rfl
theorem dX5_reading_37 : decode cX5_reading 37 = .ok (.iload_n 3, 1) := dc_at dkX5_reading_b2 2 rfl
theorem dX5_reading_38 : decode cX5_reading 38 = .ok (.if_icmp .ge 43, 3) := dc_at dkX5_reading_b2 3 rfl
theorem dX5_reading_41 : decode cX5_reading 41 = .ok (.aload_n 0, 1) := dc_at dkX5_reading_b2 4 rfl
theorem dX5_reading_42 : decode cX5_reading 42 = .ok (.getfield 35, 3) := dc_at dkX5_reading_b2 5 rfl
theorem dX5_reading_45 : decode cX5_reading 45 = .ok (.iload 7, 2) := dc_at dkX5_reading_b2 6 rfl
theorem dX5_reading_47 : decode cX5_reading 47 = .ok (.aload_n 0, 1) := dc_at dkX5_reading_b2 7 rfl
theorem dX5_reading_48 : decode cX5_reading 48 = .ok (.iload_n 1, 1) := dc_at dkX5_reading_b2 8 rfl
theorem dX5_reading_49 : decode cX5_reading 49 = .ok (.iload 7, 2) := dc_at dkX5_reading_b2 9 rfl
def drX5_reading_b3 : List (Nat × (Instr × Nat)) := [(51, (.invokevirtual 196, 3)), (54, (.iastore, 1)), (55, (.aload_n 0, 1)), (56, (.getfield 35, 3)), (59, (.iload 7, 2)), (61, (.iaload, 1)), (62, (.invokestatic 190, 3)), (65, (.ifCond .ne 10, 3)), (68, (.iinc 5 1, 3)), (71, (.iload 7, 2))]
theorem dkX5_reading_b3 : ((drX5_reading_b3).all fun r => decide (decode cX5_reading r.1 = .ok r.2)) = true := by decide +kernel
theorem dX5_reading_51 : decode cX5_reading 51 = .ok (.invokevirtual 196, 3) := dc_at dkX5_reading_b3 0 rfl
theorem dX5_reading_54 : decode cX5_reading 54 = .ok (.iastore, 1) := dc_at dkX5_reading_b3 1 rfl
theorem dX5_reading_55 : decode cX5_reading 55 = .ok (.aload_n 0, 1) := dc_at dkX5_reading_b3 2 rfl
theorem dX5_reading_56 : decode cX5_reading 56 = .ok (.getfield 35, 3) := dc_at dkX5_reading_b3 3 rfl
theorem dX5_reading_59 : decode cX5_reading 59 = .ok (.iload 7, 2) := dc_at dkX5_reading_b3 4 rfl
theorem dX5_reading_61 : decode cX5_reading 61 = .ok (.iaload, 1) := dc_at dkX5_reading_b3 5 rfl
theorem dX5_reading_62 : decode cX5_reading 62 = .ok (.invokestatic 190, 3) := dc_at dkX5_reading_b3 6 rfl
theorem dX5_reading_65 : decode cX5_reading 65 = .ok (.ifCond .ne 10, 3) := dc_at dkX5_reading_b3 7 rfl
theorem dX5_reading_68 : decode cX5_reading 68 = .ok (.iinc 5 1, 3) := dc_at dkX5_reading_b3 8 rfl
theorem dX5_reading_71 : decode cX5_reading 71 = .ok (.iload 7, 2) := dc_at dkX5_reading_b3 9 rfl
def drX5_reading_b4 : List (Nat × (Instr × Nat)) := [(73, (.istore 6, 2)), (75, (.iinc 7 1, 3)), (78, (.goto (-43), 3)), (81, (.iload 5, 2)), (83, (.ifCond .ne 10, 3)), (86, (.iload 4, 2)), (88, (.ifCond .ne 5, 3)), (91, (.iconst 0, 1)), (92, (.ireturn, 1)), (93, (.iload_n 2, 1))]
theorem dkX5_reading_b4 : ((drX5_reading_b4).all fun r => decide (decode cX5_reading r.1 = .ok r.2)) = true := by decide +kernel
theorem dX5_reading_73 : decode cX5_reading 73 = .ok (.istore 6, 2) := dc_at dkX5_reading_b4 0 rfl
theorem dX5_reading_75 : decode cX5_reading 75 = .ok (.iinc 7 1, 3) := dc_at dkX5_reading_b4 1 rfl
theorem dX5_reading_78 : decode cX5_reading 78 = .ok (.goto (-43), 3) := dc_at dkX5_reading_b4 2 rfl
theorem dX5_reading_81 : decode cX5_reading 81 = .ok (.iload 5, 2) := dc_at dkX5_reading_b4 3 rfl
theorem dX5_reading_83 : decode cX5_reading 83 = .ok (.ifCond .ne 10, 3) := dc_at dkX5_reading_b4 4 rfl
theorem dX5_reading_86 : decode cX5_reading 86 = .ok (.iload 4, 2) := dc_at dkX5_reading_b4 5 rfl
theorem dX5_reading_88 : decode cX5_reading 88 = .ok (.ifCond .ne 5, 3) := dc_at dkX5_reading_b4 6 rfl
theorem dX5_reading_91 : decode cX5_reading 91 = .ok (.iconst 0, 1) := dc_at dkX5_reading_b4 7 rfl
theorem dX5_reading_92 : decode cX5_reading 92 = .ok (.ireturn, 1) := dc_at dkX5_reading_b4 8 rfl
theorem dX5_reading_93 : decode cX5_reading 93 = .ok (.iload_n 2, 1) := dc_at dkX5_reading_b4 9 rfl
def drX5_reading_b5 : List (Nat × (Instr × Nat)) := [(94, (.bipush (-4), 2)), (96, (.if_icmp .eq 74, 3)), (99, (.iconst 0, 1)), (100, (.istore 7, 2)), (102, (.iload 7, 2)), (104, (.iload_n 3, 1)), (105, (.if_icmp .ge 39, 3)), (108, (.aload_n 0, 1)), (109, (.getfield 35, 3)), (112, (.iload 7, 2))]
theorem dkX5_reading_b5 : ((drX5_reading_b5).all fun r => decide (decode cX5_reading r.1 = .ok r.2)) = true := by decide +kernel
theorem dX5_reading_94 : decode cX5_reading 94 = .ok (.bipush (-4), 2) := dc_at dkX5_reading_b5 0 rfl
theorem dX5_reading_96 : decode cX5_reading 96 = .ok (.if_icmp .eq 74, 3) := dc_at dkX5_reading_b5 1 rfl
theorem dX5_reading_99 : decode cX5_reading 99 = .ok (.iconst 0, 1) := dc_at dkX5_reading_b5 2 rfl
theorem dX5_reading_100 : decode cX5_reading 100 = .ok (.istore 7, 2) := dc_at dkX5_reading_b5 3 rfl
theorem dX5_reading_102 : decode cX5_reading 102 = .ok (.iload 7, 2) := dc_at dkX5_reading_b5 4 rfl
theorem dX5_reading_104 : decode cX5_reading 104 = .ok (.iload_n 3, 1) := dc_at dkX5_reading_b5 5 rfl
theorem dX5_reading_105 : decode cX5_reading 105 = .ok (.if_icmp .ge 39, 3) := dc_at dkX5_reading_b5 6 rfl
theorem dX5_reading_108 : decode cX5_reading 108 = .ok (.aload_n 0, 1) := dc_at dkX5_reading_b5 7 rfl
theorem dX5_reading_109 : decode cX5_reading 109 = .ok (.getfield 35, 3) := dc_at dkX5_reading_b5 8 rfl
theorem dX5_reading_112 : decode cX5_reading 112 = .ok (.iload 7, 2) := dc_at dkX5_reading_b5 9 rfl
def drX5_reading_b6 : List (Nat × (Instr × Nat)) := [(114, (.dup2, 1)), (115, (.iaload, 1)), (116, (.aload_n 0, 1)), (117, (.getfield 35, 3)), (120, (.iload 7, 2)), (122, (.iaload, 1)), (123, (.invokestatic 190, 3)), (126, (.ifCond .ne 9, 3)), (129, (.iconst 1, 1)), (130, (.iload_n 2, 1))]
theorem dkX5_reading_b6 : ((drX5_reading_b6).all fun r => decide (decode cX5_reading r.1 = .ok r.2)) = true := by decide +kernel
theorem dX5_reading_114 : decode cX5_reading 114 = .ok (.dup2, 1) := dc_at dkX5_reading_b6 0 rfl
theorem dX5_reading_115 : decode cX5_reading 115 = .ok (.iaload, 1) := dc_at dkX5_reading_b6 1 rfl
theorem dX5_reading_116 : decode cX5_reading 116 = .ok (.aload_n 0, 1) := dc_at dkX5_reading_b6 2 rfl
theorem dX5_reading_117 : decode cX5_reading 117 = .ok (.getfield 35, 3) := dc_at dkX5_reading_b6 3 rfl
theorem dX5_reading_120 : decode cX5_reading 120 = .ok (.iload 7, 2) := dc_at dkX5_reading_b6 4 rfl
theorem dX5_reading_122 : decode cX5_reading 122 = .ok (.iaload, 1) := dc_at dkX5_reading_b6 5 rfl
theorem dX5_reading_123 : decode cX5_reading 123 = .ok (.invokestatic 190, 3) := dc_at dkX5_reading_b6 6 rfl
theorem dX5_reading_126 : decode cX5_reading 126 = .ok (.ifCond .ne 9, 3) := dc_at dkX5_reading_b6 7 rfl
theorem dX5_reading_129 : decode cX5_reading 129 = .ok (.iconst 1, 1) := dc_at dkX5_reading_b6 8 rfl
theorem dX5_reading_130 : decode cX5_reading 130 = .ok (.iload_n 2, 1) := dc_at dkX5_reading_b6 9 rfl
def drX5_reading_b7 : List (Nat × (Instr × Nat)) := [(131, (.ishl, 1)), (132, (.goto 4, 3)), (135, (.iconst 0, 1)), (136, (.ixor, 1)), (137, (.iastore, 1)), (138, (.iinc 7 1, 3)), (141, (.goto (-39), 3)), (144, (.iload 4, 2)), (146, (.iload 5, 2)), (148, (.iconst 2, 1))]
theorem dkX5_reading_b7 : ((drX5_reading_b7).all fun r => decide (decode cX5_reading r.1 = .ok r.2)) = true := by decide +kernel
theorem dX5_reading_131 : decode cX5_reading 131 = .ok (.ishl, 1) := dc_at dkX5_reading_b7 0 rfl
theorem dX5_reading_132 : decode cX5_reading 132 = .ok (.goto 4, 3) := dc_at dkX5_reading_b7 1 rfl
theorem dX5_reading_135 : decode cX5_reading 135 = .ok (.iconst 0, 1) := dc_at dkX5_reading_b7 2 rfl
theorem dX5_reading_136 : decode cX5_reading 136 = .ok (.ixor, 1) := dc_at dkX5_reading_b7 3 rfl
theorem dX5_reading_137 : decode cX5_reading 137 = .ok (.iastore, 1) := dc_at dkX5_reading_b7 4 rfl
theorem dX5_reading_138 : decode cX5_reading 138 = .ok (.iinc 7 1, 3) := dc_at dkX5_reading_b7 5 rfl
theorem dX5_reading_141 : decode cX5_reading 141 = .ok (.goto (-39), 3) := dc_at dkX5_reading_b7 6 rfl
theorem dX5_reading_144 : decode cX5_reading 144 = .ok (.iload 4, 2) := dc_at dkX5_reading_b7 7 rfl
theorem dX5_reading_146 : decode cX5_reading 146 = .ok (.iload 5, 2) := dc_at dkX5_reading_b7 8 rfl
theorem dX5_reading_148 : decode cX5_reading 148 = .ok (.iconst 2, 1) := dc_at dkX5_reading_b7 9 rfl
def drX5_reading_b8 : List (Nat × (Instr × Nat)) := [(149, (.irem, 1)), (150, (.iconst 1, 1)), (151, (.if_icmp .ne 9, 3)), (154, (.iconst 1, 1)), (155, (.iload_n 2, 1)), (156, (.ishl, 1)), (157, (.goto 4, 3)), (160, (.iconst 0, 1)), (161, (.if_icmp .ne 7, 3)), (164, (.iconst 2, 1))]
theorem dkX5_reading_b8 : ((drX5_reading_b8).all fun r => decide (decode cX5_reading r.1 = .ok r.2)) = true := by decide +kernel
theorem dX5_reading_149 : decode cX5_reading 149 = .ok (.irem, 1) := dc_at dkX5_reading_b8 0 rfl
theorem dX5_reading_150 : decode cX5_reading 150 = .ok (.iconst 1, 1) := dc_at dkX5_reading_b8 1 rfl
theorem dX5_reading_151 : decode cX5_reading 151 = .ok (.if_icmp .ne 9, 3) := dc_at dkX5_reading_b8 2 rfl
theorem dX5_reading_154 : decode cX5_reading 154 = .ok (.iconst 1, 1) := dc_at dkX5_reading_b8 3 rfl
theorem dX5_reading_155 : decode cX5_reading 155 = .ok (.iload_n 2, 1) := dc_at dkX5_reading_b8 4 rfl
theorem dX5_reading_156 : decode cX5_reading 156 = .ok (.ishl, 1) := dc_at dkX5_reading_b8 5 rfl
theorem dX5_reading_157 : decode cX5_reading 157 = .ok (.goto 4, 3) := dc_at dkX5_reading_b8 6 rfl
theorem dX5_reading_160 : decode cX5_reading 160 = .ok (.iconst 0, 1) := dc_at dkX5_reading_b8 7 rfl
theorem dX5_reading_161 : decode cX5_reading 161 = .ok (.if_icmp .ne 7, 3) := dc_at dkX5_reading_b8 8 rfl
theorem dX5_reading_164 : decode cX5_reading 164 = .ok (.iconst 2, 1) := dc_at dkX5_reading_b8 9 rfl
def drX5_reading_b9 : List (Nat × (Instr × Nat)) := [(165, (.goto 4, 3)), (168, (.iconst 3, 1)), (169, (.ireturn, 1)), (170, (.iload 4, 2)), (172, (.invokestatic 212, 3)), (175, (.iconst 1, 1)), (176, (.if_icmp .ne 9, 3)), (179, (.iload 5, 2)), (181, (.iconst 1, 1)), (182, (.if_icmp .le 5, 3))]
theorem dkX5_reading_b9 : ((drX5_reading_b9).all fun r => decide (decode cX5_reading r.1 = .ok r.2)) = true := by decide +kernel
theorem dX5_reading_165 : decode cX5_reading 165 = .ok (.goto 4, 3) := dc_at dkX5_reading_b9 0 rfl
theorem dX5_reading_168 : decode cX5_reading 168 = .ok (.iconst 3, 1) := dc_at dkX5_reading_b9 1 rfl
theorem dX5_reading_169 : decode cX5_reading 169 = .ok (.ireturn, 1) := dc_at dkX5_reading_b9 2 rfl
theorem dX5_reading_170 : decode cX5_reading 170 = .ok (.iload 4, 2) := dc_at dkX5_reading_b9 3 rfl
theorem dX5_reading_172 : decode cX5_reading 172 = .ok (.invokestatic 212, 3) := dc_at dkX5_reading_b9 4 rfl
theorem dX5_reading_175 : decode cX5_reading 175 = .ok (.iconst 1, 1) := dc_at dkX5_reading_b9 5 rfl
theorem dX5_reading_176 : decode cX5_reading 176 = .ok (.if_icmp .ne 9, 3) := dc_at dkX5_reading_b9 6 rfl
theorem dX5_reading_179 : decode cX5_reading 179 = .ok (.iload 5, 2) := dc_at dkX5_reading_b9 7 rfl
theorem dX5_reading_181 : decode cX5_reading 181 = .ok (.iconst 1, 1) := dc_at dkX5_reading_b9 8 rfl
theorem dX5_reading_182 : decode cX5_reading 182 = .ok (.if_icmp .le 5, 3) := dc_at dkX5_reading_b9 9 rfl
def drX5_reading_b10 : List (Nat × (Instr × Nat)) := [(185, (.iconst 3, 1)), (186, (.ireturn, 1)), (187, (.iload 5, 2)), (189, (.iconst 1, 1)), (190, (.if_icmp .ne 15, 3)), (193, (.aload_n 0, 1)), (194, (.getfield 35, 3)), (197, (.iload 6, 2)), (199, (.dup2, 1)), (200, (.iaload, 1))]
theorem dkX5_reading_b10 : ((drX5_reading_b10).all fun r => decide (decode cX5_reading r.1 = .ok r.2)) = true := by decide +kernel
theorem dX5_reading_185 : decode cX5_reading 185 = .ok (.iconst 3, 1) := dc_at dkX5_reading_b10 0 rfl
theorem dX5_reading_186 : decode cX5_reading 186 = .ok (.ireturn, 1) := dc_at dkX5_reading_b10 1 rfl
theorem dX5_reading_187 : decode cX5_reading 187 = .ok (.iload 5, 2) := dc_at dkX5_reading_b10 2 rfl
theorem dX5_reading_189 : decode cX5_reading 189 = .ok (.iconst 1, 1) := dc_at dkX5_reading_b10 3 rfl
theorem dX5_reading_190 : decode cX5_reading 190 = .ok (.if_icmp .ne 15, 3) := dc_at dkX5_reading_b10 4 rfl
theorem dX5_reading_193 : decode cX5_reading 193 = .ok (.aload_n 0, 1) := dc_at dkX5_reading_b10 5 rfl
theorem dX5_reading_194 : decode cX5_reading 194 = .ok (.getfield 35, 3) := dc_at dkX5_reading_b10 6 rfl
theorem dX5_reading_197 : decode cX5_reading 197 = .ok (.iload 6, 2) := dc_at dkX5_reading_b10 7 rfl
theorem dX5_reading_199 : decode cX5_reading 199 = .ok (.dup2, 1) := dc_at dkX5_reading_b10 8 rfl
theorem dX5_reading_200 : decode cX5_reading 200 = .ok (.iaload, 1) := dc_at dkX5_reading_b10 9 rfl
def drX5_reading_b11 : List (Nat × (Instr × Nat)) := [(201, (.iload 4, 2)), (203, (.ixor, 1)), (204, (.iastore, 1)), (205, (.iconst 1, 1)), (206, (.ireturn, 1))]
theorem dkX5_reading_b11 : ((drX5_reading_b11).all fun r => decide (decode cX5_reading r.1 = .ok r.2)) = true := by decide +kernel
theorem dX5_reading_201 : decode cX5_reading 201 = .ok (.iload 4, 2) := dc_at dkX5_reading_b11 0 rfl
theorem dX5_reading_203 : decode cX5_reading 203 = .ok (.ixor, 1) := dc_at dkX5_reading_b11 1 rfl
theorem dX5_reading_204 : decode cX5_reading 204 = .ok (.iastore, 1) := dc_at dkX5_reading_b11 2 rfl
theorem dX5_reading_205 : decode cX5_reading 205 = .ok (.iconst 1, 1) := dc_at dkX5_reading_b11 3 rfl
theorem dX5_reading_206 : decode cX5_reading 206 = .ok (.ireturn, 1) := dc_at dkX5_reading_b11 4 rfl
def drX5_check_b0 : List (Nat × (Instr × Nat)) := [(0, (.aload_n 0, 1)), (1, (.iload_n 1, 1)), (2, (.invokevirtual 193, 3)), (5, (.ifCond .eq 19, 3)), (8, (.aload_n 0, 1)), (9, (.iload_n 1, 1)), (10, (.aload_n 0, 1)), (11, (.getfield 7, 3)), (14, (.sipush 340, 3)), (17, (.iaload, 1))]
theorem dkX5_check_b0 : ((drX5_check_b0).all fun r => decide (decode cX5_check r.1 = .ok r.2)) = true := by decide +kernel
theorem dX5_check_0 : decode cX5_check 0 = .ok (.aload_n 0, 1) := dc_at dkX5_check_b0 0 rfl
theorem dX5_check_1 : decode cX5_check 1 = .ok (.iload_n 1, 1) := dc_at dkX5_check_b0 1 rfl
theorem dX5_check_2 : decode cX5_check 2 = .ok (.invokevirtual 193, 3) := dc_at dkX5_check_b0 2 rfl
theorem dX5_check_5 : decode cX5_check 5 = .ok (.ifCond .eq 19, 3) := dc_at dkX5_check_b0 3 rfl
theorem dX5_check_8 : decode cX5_check 8 = .ok (.aload_n 0, 1) := dc_at dkX5_check_b0 4 rfl
theorem dX5_check_9 : decode cX5_check 9 = .ok (.iload_n 1, 1) := dc_at dkX5_check_b0 5 rfl
theorem dX5_check_10 : decode cX5_check 10 = .ok (.aload_n 0, 1) := dc_at dkX5_check_b0 6 rfl
theorem dX5_check_11 : decode cX5_check 11 = .ok (.getfield 7, 3) := dc_at dkX5_check_b0 7 rfl
theorem dX5_check_14 : decode cX5_check 14 = .ok (.sipush 340, 3) := dc_at dkX5_check_b0 8 rfl
theorem dX5_check_17 : decode cX5_check 17 = .ok (.iaload, 1) := dc_at dkX5_check_b0 9 rfl
def drX5_check_b1 : List (Nat × (Instr × Nat)) := [(18, (.invokevirtual 215, 3)), (21, (.goto 4, 3)), (24, (.iconst (-1), 1)), (25, (.ireturn, 1))]
theorem dkX5_check_b1 : ((drX5_check_b1).all fun r => decide (decode cX5_check r.1 = .ok r.2)) = true := by decide +kernel
theorem dX5_check_18 : decode cX5_check 18 = .ok (.invokevirtual 215, 3) := dc_at dkX5_check_b1 0 rfl
theorem dX5_check_21 : decode cX5_check 21 = .ok (.goto 4, 3) := dc_at dkX5_check_b1 1 rfl
theorem dX5_check_24 : decode cX5_check 24 = .ok (.iconst (-1), 1) := dc_at dkX5_check_b1 2 rfl
theorem dX5_check_25 : decode cX5_check 25 = .ok (.ireturn, 1) := dc_at dkX5_check_b1 3 rfl
def drX5_got_b0 : List (Nat × (Instr × Nat)) := [(0, (.aload_n 0, 1)), (1, (.iload_n 1, 1)), (2, (.invokevirtual 193, 3)), (5, (.ifCond .eq 24, 3)), (8, (.iload_n 2, 1)), (9, (.i2l, 1)), (10, (.lconst 0, 1)), (11, (.aload_n 0, 1)), (12, (.getfield 7, 3)), (15, (.bipush 13, 2))]
theorem dkX5_got_b0 : ((drX5_got_b0).all fun r => decide (decode cX5_got r.1 = .ok r.2)) = true := by decide +kernel
theorem dX5_got_0 : decode cX5_got 0 = .ok (.aload_n 0, 1) := dc_at dkX5_got_b0 0 rfl
theorem dX5_got_1 : decode cX5_got 1 = .ok (.iload_n 1, 1) := dc_at dkX5_got_b0 1 rfl
theorem dX5_got_2 : decode cX5_got 2 = .ok (.invokevirtual 193, 3) := dc_at dkX5_got_b0 2 rfl
theorem dX5_got_5 : decode cX5_got 5 = .ok (.ifCond .eq 24, 3) := dc_at dkX5_got_b0 3 rfl
theorem dX5_got_8 : decode cX5_got 8 = .ok (.iload_n 2, 1) := dc_at dkX5_got_b0 4 rfl
theorem dX5_got_9 : decode cX5_got 9 = .ok (.i2l, 1) := dc_at dkX5_got_b0 5 rfl
theorem dX5_got_10 : decode cX5_got 10 = .ok (.lconst 0, 1) := dc_at dkX5_got_b0 6 rfl
theorem dX5_got_11 : decode cX5_got 11 = .ok (.aload_n 0, 1) := dc_at dkX5_got_b0 7 rfl
theorem dX5_got_12 : decode cX5_got 12 = .ok (.getfield 7, 3) := dc_at dkX5_got_b0 8 rfl
theorem dX5_got_15 : decode cX5_got 15 = .ok (.bipush 13, 2) := dc_at dkX5_got_b0 9 rfl
def drX5_got_b1 : List (Nat × (Instr × Nat)) := [(17, (.iload_n 1, 1)), (18, (.iadd, 1)), (19, (.iaload, 1)), (20, (.iconst 1, 1)), (21, (.isub, 1)), (22, (.i2l, 1)), (23, (.invokestatic 75, 3)), (26, (.ifCond .ne 5, 3)), (29, (.iconst (-1), 1)), (30, (.ireturn, 1))]
theorem dkX5_got_b1 : ((drX5_got_b1).all fun r => decide (decode cX5_got r.1 = .ok r.2)) = true := by decide +kernel
theorem dX5_got_17 : decode cX5_got 17 = .ok (.iload_n 1, 1) := dc_at dkX5_got_b1 0 rfl
theorem dX5_got_18 : decode cX5_got 18 = .ok (.iadd, 1) := dc_at dkX5_got_b1 1 rfl
theorem dX5_got_19 : decode cX5_got 19 = .ok (.iaload, 1) := dc_at dkX5_got_b1 2 rfl
theorem dX5_got_20 : decode cX5_got 20 = .ok (.iconst 1, 1) := dc_at dkX5_got_b1 3 rfl
theorem dX5_got_21 : decode cX5_got 21 = .ok (.isub, 1) := dc_at dkX5_got_b1 4 rfl
theorem dX5_got_22 : decode cX5_got 22 = .ok (.i2l, 1) := dc_at dkX5_got_b1 5 rfl
theorem dX5_got_23 : decode cX5_got 23 = .ok (.invokestatic 75, 3) := dc_at dkX5_got_b1 6 rfl
theorem dX5_got_26 : decode cX5_got 26 = .ok (.ifCond .ne 5, 3) := dc_at dkX5_got_b1 7 rfl
theorem dX5_got_29 : decode cX5_got 29 = .ok (.iconst (-1), 1) := dc_at dkX5_got_b1 8 rfl
theorem dX5_got_30 : decode cX5_got 30 = .ok (.ireturn, 1) := dc_at dkX5_got_b1 9 rfl
def drX5_got_b2 : List (Nat × (Instr × Nat)) := [(31, (.aload_n 0, 1)), (32, (.iload_n 1, 1)), (33, (.aload_n 0, 1)), (34, (.getfield 7, 3)), (37, (.sipush 340, 3)), (40, (.iaload, 1)), (41, (.invokevirtual 215, 3)), (44, (.iconst 3, 1)), (45, (.if_icmp .ne 8, 3)), (48, (.bipush (-4), 2))]
theorem dkX5_got_b2 : ((drX5_got_b2).all fun r => decide (decode cX5_got r.1 = .ok r.2)) = true := by decide +kernel
theorem dX5_got_31 : decode cX5_got 31 = .ok (.aload_n 0, 1) := dc_at dkX5_got_b2 0 rfl
theorem dX5_got_32 : decode cX5_got 32 = .ok (.iload_n 1, 1) := dc_at dkX5_got_b2 1 rfl
theorem dX5_got_33 : decode cX5_got 33 = .ok (.aload_n 0, 1) := dc_at dkX5_got_b2 2 rfl
theorem dX5_got_34 : decode cX5_got 34 = .ok (.getfield 7, 3) := dc_at dkX5_got_b2 3 rfl
theorem dX5_got_37 : decode cX5_got 37 = .ok (.sipush 340, 3) := dc_at dkX5_got_b2 4 rfl
theorem dX5_got_40 : decode cX5_got 40 = .ok (.iaload, 1) := dc_at dkX5_got_b2 5 rfl
theorem dX5_got_41 : decode cX5_got 41 = .ok (.invokevirtual 215, 3) := dc_at dkX5_got_b2 6 rfl
theorem dX5_got_44 : decode cX5_got 44 = .ok (.iconst 3, 1) := dc_at dkX5_got_b2 7 rfl
theorem dX5_got_45 : decode cX5_got 45 = .ok (.if_icmp .ne 8, 3) := dc_at dkX5_got_b2 8 rfl
theorem dX5_got_48 : decode cX5_got 48 = .ok (.bipush (-4), 2) := dc_at dkX5_got_b2 9 rfl
def drX5_got_b3 : List (Nat × (Instr × Nat)) := [(50, (.goto 13, 3)), (53, (.aload_n 0, 1)), (54, (.getfield 35, 3)), (57, (.iload_n 2, 1)), (58, (.iaload, 1)), (59, (.sipush 255, 3)), (62, (.iand, 1)), (63, (.ireturn, 1))]
theorem dkX5_got_b3 : ((drX5_got_b3).all fun r => decide (decode cX5_got r.1 = .ok r.2)) = true := by decide +kernel
theorem dX5_got_50 : decode cX5_got 50 = .ok (.goto 13, 3) := dc_at dkX5_got_b3 0 rfl
theorem dX5_got_53 : decode cX5_got 53 = .ok (.aload_n 0, 1) := dc_at dkX5_got_b3 1 rfl
theorem dX5_got_54 : decode cX5_got 54 = .ok (.getfield 35, 3) := dc_at dkX5_got_b3 2 rfl
theorem dX5_got_57 : decode cX5_got 57 = .ok (.iload_n 2, 1) := dc_at dkX5_got_b3 3 rfl
theorem dX5_got_58 : decode cX5_got 58 = .ok (.iaload, 1) := dc_at dkX5_got_b3 4 rfl
theorem dX5_got_59 : decode cX5_got 59 = .ok (.sipush 255, 3) := dc_at dkX5_got_b3 5 rfl
theorem dX5_got_62 : decode cX5_got 62 = .ok (.iand, 1) := dc_at dkX5_got_b3 6 rfl
theorem dX5_got_63 : decode cX5_got 63 = .ok (.ireturn, 1) := dc_at dkX5_got_b3 7 rfl
def drX5_column_b0 : List (Nat × (Instr × Nat)) := [(0, (.aload_n 0, 1)), (1, (.iload_n 1, 1)), (2, (.iload_n 2, 1)), (3, (.invokevirtual 202, 3)), (6, (.ifCond .eq 12, 3)), (9, (.aload_n 0, 1)), (10, (.iload_n 1, 1)), (11, (.iload_n 2, 1)), (12, (.invokevirtual 196, 3)), (15, (.goto 4, 3))]
theorem dkX5_column_b0 : ((drX5_column_b0).all fun r => decide (decode cX5_column r.1 = .ok r.2)) = true := by decide +kernel
theorem dX5_column_0 : decode cX5_column 0 = .ok (.aload_n 0, 1) := dc_at dkX5_column_b0 0 rfl
theorem dX5_column_1 : decode cX5_column 1 = .ok (.iload_n 1, 1) := dc_at dkX5_column_b0 1 rfl
theorem dX5_column_2 : decode cX5_column 2 = .ok (.iload_n 2, 1) := dc_at dkX5_column_b0 2 rfl
theorem dX5_column_3 : decode cX5_column 3 = .ok (.invokevirtual 202, 3) := dc_at dkX5_column_b0 3 rfl
theorem dX5_column_6 : decode cX5_column 6 = .ok (.ifCond .eq 12, 3) := dc_at dkX5_column_b0 4 rfl
theorem dX5_column_9 : decode cX5_column 9 = .ok (.aload_n 0, 1) := dc_at dkX5_column_b0 5 rfl
theorem dX5_column_10 : decode cX5_column 10 = .ok (.iload_n 1, 1) := dc_at dkX5_column_b0 6 rfl
theorem dX5_column_11 : decode cX5_column 11 = .ok (.iload_n 2, 1) := dc_at dkX5_column_b0 7 rfl
theorem dX5_column_12 : decode cX5_column 12 = .ok (.invokevirtual 196, 3) := dc_at dkX5_column_b0 8 rfl
theorem dX5_column_15 : decode cX5_column 15 = .ok (.goto 4, 3) := dc_at dkX5_column_b0 9 rfl
def drX5_column_b1 : List (Nat × (Instr × Nat)) := [(18, (.iconst (-1), 1)), (19, (.ireturn, 1))]
theorem dkX5_column_b1 : ((drX5_column_b1).all fun r => decide (decode cX5_column r.1 = .ok r.2)) = true := by decide +kernel
theorem dX5_column_18 : decode cX5_column 18 = .ok (.iconst (-1), 1) := dc_at dkX5_column_b1 0 rfl
theorem dX5_column_19 : decode cX5_column 19 = .ok (.ireturn, 1) := dc_at dkX5_column_b1 1 rfl
def drX5_isFooled_b0 : List (Nat × (Instr × Nat)) := [(0, (.iconst 0, 1)), (1, (.istore_n 2, 1)), (2, (.aload_n 0, 1)), (3, (.iload_n 1, 1)), (4, (.aload_n 0, 1)), (5, (.getfield 7, 3)), (8, (.sipush 340, 3)), (11, (.iaload, 1)), (12, (.invokevirtual 215, 3)), (15, (.iconst 3, 1))]
theorem dkX5_isFooled_b0 : ((drX5_isFooled_b0).all fun r => decide (decode cX5_isFooled r.1 = .ok r.2)) = true := by decide +kernel
theorem dX5_isFooled_0 : decode cX5_isFooled 0 = .ok (.iconst 0, 1) := dc_at dkX5_isFooled_b0 0 rfl
theorem dX5_isFooled_1 : decode cX5_isFooled 1 = .ok (.istore_n 2, 1) := dc_at dkX5_isFooled_b0 1 rfl
theorem dX5_isFooled_2 : decode cX5_isFooled 2 = .ok (.aload_n 0, 1) := dc_at dkX5_isFooled_b0 2 rfl
theorem dX5_isFooled_3 : decode cX5_isFooled 3 = .ok (.iload_n 1, 1) := dc_at dkX5_isFooled_b0 3 rfl
theorem dX5_isFooled_4 : decode cX5_isFooled 4 = .ok (.aload_n 0, 1) := dc_at dkX5_isFooled_b0 4 rfl
theorem dX5_isFooled_5 : decode cX5_isFooled 5 = .ok (.getfield 7, 3) := dc_at dkX5_isFooled_b0 5 rfl
theorem dX5_isFooled_8 : decode cX5_isFooled 8 = .ok (.sipush 340, 3) := dc_at dkX5_isFooled_b0 6 rfl
theorem dX5_isFooled_11 : decode cX5_isFooled 11 = .ok (.iaload, 1) := dc_at dkX5_isFooled_b0 7 rfl
theorem dX5_isFooled_12 : decode cX5_isFooled 12 = .ok (.invokevirtual 215, 3) := dc_at dkX5_isFooled_b0 8 rfl
theorem dX5_isFooled_15 : decode cX5_isFooled 15 = .ok (.iconst 3, 1) := dc_at dkX5_isFooled_b0 9 rfl
def drX5_isFooled_b1 : List (Nat × (Instr × Nat)) := [(16, (.if_icmp .ne 7, 3)), (19, (.iconst 1, 1)), (20, (.goto 4, 3)), (23, (.iconst 0, 1)), (24, (.istore_n 3, 1)), (25, (.iconst 0, 1)), (26, (.istore 4, 2)), (28, (.iload 4, 2)), (30, (.aload_n 0, 1)), (31, (.getfield 7, 3))]
theorem dkX5_isFooled_b1 : ((drX5_isFooled_b1).all fun r => decide (decode cX5_isFooled r.1 = .ok r.2)) = true := by decide +kernel
theorem dX5_isFooled_16 : decode cX5_isFooled 16 = .ok (.if_icmp .ne 7, 3) := dc_at dkX5_isFooled_b1 0 rfl
theorem dX5_isFooled_19 : decode cX5_isFooled 19 = .ok (.iconst 1, 1) := dc_at dkX5_isFooled_b1 1 rfl
theorem dX5_isFooled_20 : decode cX5_isFooled 20 = .ok (.goto 4, 3) := dc_at dkX5_isFooled_b1 2 rfl
theorem dX5_isFooled_23 : decode cX5_isFooled 23 = .ok (.iconst 0, 1) := dc_at dkX5_isFooled_b1 3 rfl
theorem dX5_isFooled_24 : decode cX5_isFooled 24 = .ok (.istore_n 3, 1) := dc_at dkX5_isFooled_b1 4 rfl
theorem dX5_isFooled_25 : decode cX5_isFooled 25 = .ok (.iconst 0, 1) := dc_at dkX5_isFooled_b1 5 rfl
theorem dX5_isFooled_26 : decode cX5_isFooled 26 = .ok (.istore 4, 2) := dc_at dkX5_isFooled_b1 6 rfl
theorem dX5_isFooled_28 : decode cX5_isFooled 28 = .ok (.iload 4, 2) := dc_at dkX5_isFooled_b1 7 rfl
theorem dX5_isFooled_30 : decode cX5_isFooled 30 = .ok (.aload_n 0, 1) := dc_at dkX5_isFooled_b1 8 rfl
theorem dX5_isFooled_31 : decode cX5_isFooled 31 = .ok (.getfield 7, 3) := dc_at dkX5_isFooled_b1 9 rfl
def drX5_isFooled_b2 : List (Nat × (Instr × Nat)) := [(34, (.bipush 13, 2)), (36, (.iload_n 1, 1)), (37, (.iadd, 1)), (38, (.iaload, 1)), (39, (.if_icmp .ge 49, 3)), (42, (.iload_n 2, 1)), (43, (.ifCond .ne 33, 3)), (46, (.aload_n 0, 1)), (47, (.getfield 35, 3)), (50, (.iload 4, 2))]
theorem dkX5_isFooled_b2 : ((drX5_isFooled_b2).all fun r => decide (decode cX5_isFooled r.1 = .ok r.2)) = true := by decide +kernel
theorem dX5_isFooled_34 : decode cX5_isFooled 34 = .ok (.bipush 13, 2) := dc_at dkX5_isFooled_b2 0 rfl
theorem dX5_isFooled_36 : decode cX5_isFooled 36 = .ok (.iload_n 1, 1) := dc_at dkX5_isFooled_b2 1 rfl
theorem dX5_isFooled_37 : decode cX5_isFooled 37 = .ok (.iadd, 1) := dc_at dkX5_isFooled_b2 2 rfl
theorem dX5_isFooled_38 : decode cX5_isFooled 38 = .ok (.iaload, 1) := dc_at dkX5_isFooled_b2 3 rfl
theorem dX5_isFooled_39 : decode cX5_isFooled 39 = .ok (.if_icmp .ge 49, 3) := dc_at dkX5_isFooled_b2 4 rfl
theorem dX5_isFooled_42 : decode cX5_isFooled 42 = .ok (.iload_n 2, 1) := dc_at dkX5_isFooled_b2 5 rfl
theorem dX5_isFooled_43 : decode cX5_isFooled 43 = .ok (.ifCond .ne 33, 3) := dc_at dkX5_isFooled_b2 6 rfl
theorem dX5_isFooled_46 : decode cX5_isFooled 46 = .ok (.aload_n 0, 1) := dc_at dkX5_isFooled_b2 7 rfl
theorem dX5_isFooled_47 : decode cX5_isFooled 47 = .ok (.getfield 35, 3) := dc_at dkX5_isFooled_b2 8 rfl
theorem dX5_isFooled_50 : decode cX5_isFooled 50 = .ok (.iload 4, 2) := dc_at dkX5_isFooled_b2 9 rfl
def drX5_isFooled_b3 : List (Nat × (Instr × Nat)) := [(52, (.iaload, 1)), (53, (.sipush 255, 3)), (56, (.iand, 1)), (57, (.aload_n 0, 1)), (58, (.getfield 7, 3)), (61, (.sipush 181, 3)), (64, (.bipush 12, 2)), (66, (.iload_n 1, 1)), (67, (.imul, 1)), (68, (.iadd, 1))]
theorem dkX5_isFooled_b3 : ((drX5_isFooled_b3).all fun r => decide (decode cX5_isFooled r.1 = .ok r.2)) = true := by decide +kernel
theorem dX5_isFooled_52 : decode cX5_isFooled 52 = .ok (.iaload, 1) := dc_at dkX5_isFooled_b3 0 rfl
theorem dX5_isFooled_53 : decode cX5_isFooled 53 = .ok (.sipush 255, 3) := dc_at dkX5_isFooled_b3 1 rfl
theorem dX5_isFooled_56 : decode cX5_isFooled 56 = .ok (.iand, 1) := dc_at dkX5_isFooled_b3 2 rfl
theorem dX5_isFooled_57 : decode cX5_isFooled 57 = .ok (.aload_n 0, 1) := dc_at dkX5_isFooled_b3 3 rfl
theorem dX5_isFooled_58 : decode cX5_isFooled 58 = .ok (.getfield 7, 3) := dc_at dkX5_isFooled_b3 4 rfl
theorem dX5_isFooled_61 : decode cX5_isFooled 61 = .ok (.sipush 181, 3) := dc_at dkX5_isFooled_b3 5 rfl
theorem dX5_isFooled_64 : decode cX5_isFooled 64 = .ok (.bipush 12, 2) := dc_at dkX5_isFooled_b3 6 rfl
theorem dX5_isFooled_66 : decode cX5_isFooled 66 = .ok (.iload_n 1, 1) := dc_at dkX5_isFooled_b3 7 rfl
theorem dX5_isFooled_67 : decode cX5_isFooled 67 = .ok (.imul, 1) := dc_at dkX5_isFooled_b3 8 rfl
theorem dX5_isFooled_68 : decode cX5_isFooled 68 = .ok (.iadd, 1) := dc_at dkX5_isFooled_b3 9 rfl
def drX5_isFooled_b4 : List (Nat × (Instr × Nat)) := [(69, (.iload 4, 2)), (71, (.iadd, 1)), (72, (.iaload, 1)), (73, (.if_icmp .eq 7, 3)), (76, (.iconst 1, 1)), (77, (.goto 4, 3)), (80, (.iconst 0, 1)), (81, (.istore_n 2, 1)), (82, (.iinc 4 1, 3)), (85, (.goto (-57), 3))]
theorem dkX5_isFooled_b4 : ((drX5_isFooled_b4).all fun r => decide (decode cX5_isFooled r.1 = .ok r.2)) = true := by decide +kernel
theorem dX5_isFooled_69 : decode cX5_isFooled 69 = .ok (.iload 4, 2) := dc_at dkX5_isFooled_b4 0 rfl
theorem dX5_isFooled_71 : decode cX5_isFooled 71 = .ok (.iadd, 1) := dc_at dkX5_isFooled_b4 1 rfl
theorem dX5_isFooled_72 : decode cX5_isFooled 72 = .ok (.iaload, 1) := dc_at dkX5_isFooled_b4 2 rfl
theorem dX5_isFooled_73 : decode cX5_isFooled 73 = .ok (.if_icmp .eq 7, 3) := dc_at dkX5_isFooled_b4 3 rfl
theorem dX5_isFooled_76 : decode cX5_isFooled 76 = .ok (.iconst 1, 1) := dc_at dkX5_isFooled_b4 4 rfl
theorem dX5_isFooled_77 : decode cX5_isFooled 77 = .ok (.goto 4, 3) := dc_at dkX5_isFooled_b4 5 rfl
theorem dX5_isFooled_80 : decode cX5_isFooled 80 = .ok (.iconst 0, 1) := dc_at dkX5_isFooled_b4 6 rfl
theorem dX5_isFooled_81 : decode cX5_isFooled 81 = .ok (.istore_n 2, 1) := dc_at dkX5_isFooled_b4 7 rfl
theorem dX5_isFooled_82 : decode cX5_isFooled 82 = .ok (.iinc 4 1, 3) := dc_at dkX5_isFooled_b4 8 rfl
theorem dX5_isFooled_85 : decode cX5_isFooled 85 = .ok (.goto (-57), 3) := dc_at dkX5_isFooled_b4 9 rfl
def drX5_isFooled_b5 : List (Nat × (Instr × Nat)) := [(88, (.iload_n 2, 1)), (89, (.ifCond .eq 11, 3)), (92, (.iload_n 3, 1)), (93, (.ifCond .ne 7, 3)), (96, (.iconst 1, 1)), (97, (.goto 4, 3)), (100, (.iconst 0, 1)), (101, (.ireturn, 1))]
theorem dkX5_isFooled_b5 : ((drX5_isFooled_b5).all fun r => decide (decode cX5_isFooled r.1 = .ok r.2)) = true := by decide +kernel
theorem dX5_isFooled_88 : decode cX5_isFooled 88 = .ok (.iload_n 2, 1) := dc_at dkX5_isFooled_b5 0 rfl
theorem dX5_isFooled_89 : decode cX5_isFooled 89 = .ok (.ifCond .eq 11, 3) := dc_at dkX5_isFooled_b5 1 rfl
theorem dX5_isFooled_92 : decode cX5_isFooled 92 = .ok (.iload_n 3, 1) := dc_at dkX5_isFooled_b5 2 rfl
theorem dX5_isFooled_93 : decode cX5_isFooled 93 = .ok (.ifCond .ne 7, 3) := dc_at dkX5_isFooled_b5 3 rfl
theorem dX5_isFooled_96 : decode cX5_isFooled 96 = .ok (.iconst 1, 1) := dc_at dkX5_isFooled_b5 4 rfl
theorem dX5_isFooled_97 : decode cX5_isFooled 97 = .ok (.goto 4, 3) := dc_at dkX5_isFooled_b5 5 rfl
theorem dX5_isFooled_100 : decode cX5_isFooled 100 = .ok (.iconst 0, 1) := dc_at dkX5_isFooled_b5 6 rfl
theorem dX5_isFooled_101 : decode cX5_isFooled 101 = .ok (.ireturn, 1) := dc_at dkX5_isFooled_b5 7 rfl
def drX5_state_b0 : List (Nat × (Instr × Nat)) := [(0, (.iload_n 1, 1)), (1, (.i2l, 1)), (2, (.lconst 0, 1)), (3, (.ldc2_w 168, 3)), (6, (.invokestatic 75, 3)), (9, (.ifCond .ne 5, 3)), (12, (.iconst (-1), 1)), (13, (.ireturn, 1)), (14, (.iconst 0, 1)), (15, (.istore_n 2, 1))]
theorem dkX5_state_b0 : ((drX5_state_b0).all fun r => decide (decode cX5_state r.1 = .ok r.2)) = true := by decide +kernel
theorem dX5_state_0 : decode cX5_state 0 = .ok (.iload_n 1, 1) := dc_at dkX5_state_b0 0 rfl
theorem dX5_state_1 : decode cX5_state 1 = .ok (.i2l, 1) := dc_at dkX5_state_b0 1 rfl
theorem dX5_state_2 : decode cX5_state 2 = .ok (.lconst 0, 1) := dc_at dkX5_state_b0 2 rfl
theorem dX5_state_3 : decode cX5_state 3 = .ok (.ldc2_w 168, 3) := dc_at dkX5_state_b0 3 rfl
theorem dX5_state_6 : decode cX5_state 6 = .ok (.invokestatic 75, 3) := dc_at dkX5_state_b0 4 rfl
theorem dX5_state_9 : decode cX5_state 9 = .ok (.ifCond .ne 5, 3) := dc_at dkX5_state_b0 5 rfl
theorem dX5_state_12 : decode cX5_state 12 = .ok (.iconst (-1), 1) := dc_at dkX5_state_b0 6 rfl
theorem dX5_state_13 : decode cX5_state 13 = .ok (.ireturn, 1) := dc_at dkX5_state_b0 7 rfl
theorem dX5_state_14 : decode cX5_state 14 = .ok (.iconst 0, 1) := dc_at dkX5_state_b0 8 rfl
theorem dX5_state_15 : decode cX5_state 15 = .ok (.istore_n 2, 1) := dc_at dkX5_state_b0 9 rfl
def drX5_state_b1 : List (Nat × (Instr × Nat)) := [(16, (.iconst 0, 1)), (17, (.istore_n 3, 1)), (18, (.iload_n 3, 1)), (19, (.aload_n 0, 1)), (20, (.getfield 7, 3)), (23, (.iconst 0, 1)), (24, (.iaload, 1)), (25, (.if_icmp .ge 89, 3)), (28, (.aload_n 0, 1)), (29, (.iload_n 3, 1))]
theorem dkX5_state_b1 : ((drX5_state_b1).all fun r => decide (decode cX5_state r.1 = .ok r.2)) = true := by decide +kernel
theorem dX5_state_16 : decode cX5_state 16 = .ok (.iconst 0, 1) := dc_at dkX5_state_b1 0 rfl
theorem dX5_state_17 : decode cX5_state 17 = .ok (.istore_n 3, 1) := dc_at dkX5_state_b1 1 rfl
theorem dX5_state_18 : decode cX5_state 18 = .ok (.iload_n 3, 1) := dc_at dkX5_state_b1 2 rfl
theorem dX5_state_19 : decode cX5_state 19 = .ok (.aload_n 0, 1) := dc_at dkX5_state_b1 3 rfl
theorem dX5_state_20 : decode cX5_state 20 = .ok (.getfield 7, 3) := dc_at dkX5_state_b1 4 rfl
theorem dX5_state_23 : decode cX5_state 23 = .ok (.iconst 0, 1) := dc_at dkX5_state_b1 5 rfl
theorem dX5_state_24 : decode cX5_state 24 = .ok (.iaload, 1) := dc_at dkX5_state_b1 6 rfl
theorem dX5_state_25 : decode cX5_state 25 = .ok (.if_icmp .ge 89, 3) := dc_at dkX5_state_b1 7 rfl
theorem dX5_state_28 : decode cX5_state 28 = .ok (.aload_n 0, 1) := dc_at dkX5_state_b1 8 rfl
theorem dX5_state_29 : decode cX5_state 29 = .ok (.iload_n 3, 1) := dc_at dkX5_state_b1 9 rfl
def drX5_state_b2 : List (Nat × (Instr × Nat)) := [(30, (.aload_n 0, 1)), (31, (.getfield 7, 3)), (34, (.sipush 340, 3)), (37, (.iaload, 1)), (38, (.invokevirtual 215, 3)), (41, (.istore 4, 2)), (43, (.iload_n 1, 1)), (44, (.ifCond .ne 17, 3)), (47, (.iload 4, 2)), (49, (.iconst 3, 1))]
theorem dkX5_state_b2 : ((drX5_state_b2).all fun r => decide (decode cX5_state r.1 = .ok r.2)) = true := by decide +kernel
theorem dX5_state_30 : decode cX5_state 30 = .ok (.aload_n 0, 1) := dc_at dkX5_state_b2 0 rfl
theorem dX5_state_31 : decode cX5_state 31 = .ok (.getfield 7, 3) := dc_at dkX5_state_b2 1 rfl
theorem dX5_state_34 : decode cX5_state 34 = .ok (.sipush 340, 3) := dc_at dkX5_state_b2 2 rfl
theorem dX5_state_37 : decode cX5_state 37 = .ok (.iaload, 1) := dc_at dkX5_state_b2 3 rfl
theorem dX5_state_38 : decode cX5_state 38 = .ok (.invokevirtual 215, 3) := dc_at dkX5_state_b2 4 rfl
theorem dX5_state_41 : decode cX5_state 41 = .ok (.istore 4, 2) := dc_at dkX5_state_b2 5 rfl
theorem dX5_state_43 : decode cX5_state 43 = .ok (.iload_n 1, 1) := dc_at dkX5_state_b2 6 rfl
theorem dX5_state_44 : decode cX5_state 44 = .ok (.ifCond .ne 17, 3) := dc_at dkX5_state_b2 7 rfl
theorem dX5_state_47 : decode cX5_state 47 = .ok (.iload 4, 2) := dc_at dkX5_state_b2 8 rfl
theorem dX5_state_49 : decode cX5_state 49 = .ok (.iconst 3, 1) := dc_at dkX5_state_b2 9 rfl
def drX5_state_b3 : List (Nat × (Instr × Nat)) := [(50, (.if_icmp .ne 7, 3)), (53, (.iconst 1, 1)), (54, (.goto 37, 3)), (57, (.iconst 0, 1)), (58, (.goto 33, 3)), (61, (.iload_n 1, 1)), (62, (.iconst 1, 1)), (63, (.if_icmp .ne 11, 3)), (66, (.aload_n 0, 1)), (67, (.iload_n 3, 1))]
theorem dkX5_state_b3 : ((drX5_state_b3).all fun r => decide (decode cX5_state r.1 = .ok r.2)) = true := by decide +kernel
theorem dX5_state_50 : decode cX5_state 50 = .ok (.if_icmp .ne 7, 3) := dc_at dkX5_state_b3 0 rfl
theorem dX5_state_53 : decode cX5_state 53 = .ok (.iconst 1, 1) := dc_at dkX5_state_b3 1 rfl
theorem dX5_state_54 : decode cX5_state 54 = .ok (.goto 37, 3) := dc_at dkX5_state_b3 2 rfl
theorem dX5_state_57 : decode cX5_state 57 = .ok (.iconst 0, 1) := dc_at dkX5_state_b3 3 rfl
theorem dX5_state_58 : decode cX5_state 58 = .ok (.goto 33, 3) := dc_at dkX5_state_b3 4 rfl
theorem dX5_state_61 : decode cX5_state 61 = .ok (.iload_n 1, 1) := dc_at dkX5_state_b3 5 rfl
theorem dX5_state_62 : decode cX5_state 62 = .ok (.iconst 1, 1) := dc_at dkX5_state_b3 6 rfl
theorem dX5_state_63 : decode cX5_state 63 = .ok (.if_icmp .ne 11, 3) := dc_at dkX5_state_b3 7 rfl
theorem dX5_state_66 : decode cX5_state 66 = .ok (.aload_n 0, 1) := dc_at dkX5_state_b3 8 rfl
theorem dX5_state_67 : decode cX5_state 67 = .ok (.iload_n 3, 1) := dc_at dkX5_state_b3 9 rfl
def drX5_state_b4 : List (Nat × (Instr × Nat)) := [(68, (.invokevirtual 218, 3)), (71, (.goto 20, 3)), (74, (.iload 4, 2)), (76, (.iconst 1, 1)), (77, (.if_icmp .eq 9, 3)), (80, (.iload 4, 2)), (82, (.iconst 2, 1)), (83, (.if_icmp .ne 7, 3)), (86, (.iconst 1, 1)), (87, (.goto 4, 3))]
theorem dkX5_state_b4 : ((drX5_state_b4).all fun r => decide (decode cX5_state r.1 = .ok r.2)) = true := by decide +kernel
theorem dX5_state_68 : decode cX5_state 68 = .ok (.invokevirtual 218, 3) := dc_at dkX5_state_b4 0 rfl
theorem dX5_state_71 : decode cX5_state 71 = .ok (.goto 20, 3) := dc_at dkX5_state_b4 1 rfl
theorem dX5_state_74 : decode cX5_state 74 = .ok (.iload 4, 2) := dc_at dkX5_state_b4 2 rfl
theorem dX5_state_76 : decode cX5_state 76 = .ok (.iconst 1, 1) := dc_at dkX5_state_b4 3 rfl
theorem dX5_state_77 : decode cX5_state 77 = .ok (.if_icmp .eq 9, 3) := dc_at dkX5_state_b4 4 rfl
theorem dX5_state_80 : decode cX5_state 80 = .ok (.iload 4, 2) := dc_at dkX5_state_b4 5 rfl
theorem dX5_state_82 : decode cX5_state 82 = .ok (.iconst 2, 1) := dc_at dkX5_state_b4 6 rfl
theorem dX5_state_83 : decode cX5_state 83 = .ok (.if_icmp .ne 7, 3) := dc_at dkX5_state_b4 7 rfl
theorem dX5_state_86 : decode cX5_state 86 = .ok (.iconst 1, 1) := dc_at dkX5_state_b4 8 rfl
theorem dX5_state_87 : decode cX5_state 87 = .ok (.goto 4, 3) := dc_at dkX5_state_b4 9 rfl
def drX5_state_b5 : List (Nat × (Instr × Nat)) := [(90, (.iconst 0, 1)), (91, (.istore 5, 2)), (93, (.iload_n 2, 1)), (94, (.iload 5, 2)), (96, (.ifCond .eq 9, 3)), (99, (.iconst 1, 1)), (100, (.iload_n 3, 1)), (101, (.ishl, 1)), (102, (.goto 4, 3)), (105, (.iconst 0, 1))]
theorem dkX5_state_b5 : ((drX5_state_b5).all fun r => decide (decode cX5_state r.1 = .ok r.2)) = true := by decide +kernel
theorem dX5_state_90 : decode cX5_state 90 = .ok (.iconst 0, 1) := dc_at dkX5_state_b5 0 rfl
theorem dX5_state_91 : decode cX5_state 91 = .ok (.istore 5, 2) := dc_at dkX5_state_b5 1 rfl
theorem dX5_state_93 : decode cX5_state 93 = .ok (.iload_n 2, 1) := dc_at dkX5_state_b5 2 rfl
theorem dX5_state_94 : decode cX5_state 94 = .ok (.iload 5, 2) := dc_at dkX5_state_b5 3 rfl
theorem dX5_state_96 : decode cX5_state 96 = .ok (.ifCond .eq 9, 3) := dc_at dkX5_state_b5 4 rfl
theorem dX5_state_99 : decode cX5_state 99 = .ok (.iconst 1, 1) := dc_at dkX5_state_b5 5 rfl
theorem dX5_state_100 : decode cX5_state 100 = .ok (.iload_n 3, 1) := dc_at dkX5_state_b5 6 rfl
theorem dX5_state_101 : decode cX5_state 101 = .ok (.ishl, 1) := dc_at dkX5_state_b5 7 rfl
theorem dX5_state_102 : decode cX5_state 102 = .ok (.goto 4, 3) := dc_at dkX5_state_b5 8 rfl
theorem dX5_state_105 : decode cX5_state 105 = .ok (.iconst 0, 1) := dc_at dkX5_state_b5 9 rfl
def drX5_state_b6 : List (Nat × (Instr × Nat)) := [(106, (.ior, 1)), (107, (.istore_n 2, 1)), (108, (.iinc 3 1, 3)), (111, (.goto (-93), 3)), (114, (.iload_n 2, 1)), (115, (.ireturn, 1))]
theorem dkX5_state_b6 : ((drX5_state_b6).all fun r => decide (decode cX5_state r.1 = .ok r.2)) = true := by decide +kernel
theorem dX5_state_106 : decode cX5_state 106 = .ok (.ior, 1) := dc_at dkX5_state_b6 0 rfl
theorem dX5_state_107 : decode cX5_state 107 = .ok (.istore_n 2, 1) := dc_at dkX5_state_b6 1 rfl
theorem dX5_state_108 : decode cX5_state 108 = .ok (.iinc 3 1, 3) := dc_at dkX5_state_b6 2 rfl
theorem dX5_state_111 : decode cX5_state 111 = .ok (.goto (-93), 3) := dc_at dkX5_state_b6 3 rfl
theorem dX5_state_114 : decode cX5_state 114 = .ok (.iload_n 2, 1) := dc_at dkX5_state_b6 4 rfl
theorem dX5_state_115 : decode cX5_state 115 = .ok (.ireturn, 1) := dc_at dkX5_state_b6 5 rfl
def drX5_best_b0 : List (Nat × (Instr × Nat)) := [(0, (.iload_n 1, 1)), (1, (.i2l, 1)), (2, (.lconst 0, 1)), (3, (.lconst 1, 1)), (4, (.invokestatic 75, 3)), (7, (.ifCond .ne 5, 3)), (10, (.iconst (-1), 1)), (11, (.ireturn, 1)), (12, (.bipush (-4), 2)), (14, (.istore_n 2, 1))]
theorem dkX5_best_b0 : ((drX5_best_b0).all fun r => decide (decode cX5_best r.1 = .ok r.2)) = true := by decide +kernel
theorem dX5_best_0 : decode cX5_best 0 = .ok (.iload_n 1, 1) := dc_at dkX5_best_b0 0 rfl
theorem dX5_best_1 : decode cX5_best 1 = .ok (.i2l, 1) := dc_at dkX5_best_b0 1 rfl
theorem dX5_best_2 : decode cX5_best 2 = .ok (.lconst 0, 1) := dc_at dkX5_best_b0 2 rfl
theorem dX5_best_3 : decode cX5_best 3 = .ok (.lconst 1, 1) := dc_at dkX5_best_b0 3 rfl
theorem dX5_best_4 : decode cX5_best 4 = .ok (.invokestatic 75, 3) := dc_at dkX5_best_b0 4 rfl
theorem dX5_best_7 : decode cX5_best 7 = .ok (.ifCond .ne 5, 3) := dc_at dkX5_best_b0 5 rfl
theorem dX5_best_10 : decode cX5_best 10 = .ok (.iconst (-1), 1) := dc_at dkX5_best_b0 6 rfl
theorem dX5_best_11 : decode cX5_best 11 = .ok (.ireturn, 1) := dc_at dkX5_best_b0 7 rfl
theorem dX5_best_12 : decode cX5_best 12 = .ok (.bipush (-4), 2) := dc_at dkX5_best_b0 8 rfl
theorem dX5_best_14 : decode cX5_best 14 = .ok (.istore_n 2, 1) := dc_at dkX5_best_b0 9 rfl
def drX5_best_b1 : List (Nat × (Instr × Nat)) := [(15, (.iconst 0, 1)), (16, (.istore_n 3, 1)), (17, (.iconst 0, 1)), (18, (.istore 4, 2)), (20, (.iload 4, 2)), (22, (.bipush 9, 2)), (24, (.if_icmp .ge 100, 3)), (27, (.iconst 0, 1)), (28, (.istore 5, 2)), (30, (.iconst 0, 1))]
theorem dkX5_best_b1 : ((drX5_best_b1).all fun r => decide (decode cX5_best r.1 = .ok r.2)) = true := by decide +kernel
theorem dX5_best_15 : decode cX5_best 15 = .ok (.iconst 0, 1) := dc_at dkX5_best_b1 0 rfl
theorem dX5_best_16 : decode cX5_best 16 = .ok (.istore_n 3, 1) := dc_at dkX5_best_b1 1 rfl
theorem dX5_best_17 : decode cX5_best 17 = .ok (.iconst 0, 1) := dc_at dkX5_best_b1 2 rfl
theorem dX5_best_18 : decode cX5_best 18 = .ok (.istore 4, 2) := dc_at dkX5_best_b1 3 rfl
theorem dX5_best_20 : decode cX5_best 20 = .ok (.iload 4, 2) := dc_at dkX5_best_b1 4 rfl
theorem dX5_best_22 : decode cX5_best 22 = .ok (.bipush 9, 2) := dc_at dkX5_best_b1 5 rfl
theorem dX5_best_24 : decode cX5_best 24 = .ok (.if_icmp .ge 100, 3) := dc_at dkX5_best_b1 6 rfl
theorem dX5_best_27 : decode cX5_best 27 = .ok (.iconst 0, 1) := dc_at dkX5_best_b1 7 rfl
theorem dX5_best_28 : decode cX5_best 28 = .ok (.istore 5, 2) := dc_at dkX5_best_b1 8 rfl
theorem dX5_best_30 : decode cX5_best 30 = .ok (.iconst 0, 1) := dc_at dkX5_best_b1 9 rfl
def drX5_best_b2 : List (Nat × (Instr × Nat)) := [(31, (.istore 6, 2)), (33, (.iload 6, 2)), (35, (.aload_n 0, 1)), (36, (.getfield 7, 3)), (39, (.iconst 0, 1)), (40, (.iaload, 1)), (41, (.if_icmp .ge 34, 3)), (44, (.iload 5, 2)), (46, (.aload_n 0, 1)), (47, (.iload 6, 2))]
theorem dkX5_best_b2 : ((drX5_best_b2).all fun r => decide (decode cX5_best r.1 = .ok r.2)) = true := by decide +kernel
theorem dX5_best_31 : decode cX5_best 31 = .ok (.istore 6, 2) := dc_at dkX5_best_b2 0 rfl
theorem dX5_best_33 : decode cX5_best 33 = .ok (.iload 6, 2) := dc_at dkX5_best_b2 1 rfl
theorem dX5_best_35 : decode cX5_best 35 = .ok (.aload_n 0, 1) := dc_at dkX5_best_b2 2 rfl
theorem dX5_best_36 : decode cX5_best 36 = .ok (.getfield 7, 3) := dc_at dkX5_best_b2 3 rfl
theorem dX5_best_39 : decode cX5_best 39 = .ok (.iconst 0, 1) := dc_at dkX5_best_b2 4 rfl
theorem dX5_best_40 : decode cX5_best 40 = .ok (.iaload, 1) := dc_at dkX5_best_b2 5 rfl
theorem dX5_best_41 : decode cX5_best 41 = .ok (.if_icmp .ge 34, 3) := dc_at dkX5_best_b2 6 rfl
theorem dX5_best_44 : decode cX5_best 44 = .ok (.iload 5, 2) := dc_at dkX5_best_b2 7 rfl
theorem dX5_best_46 : decode cX5_best 46 = .ok (.aload_n 0, 1) := dc_at dkX5_best_b2 8 rfl
theorem dX5_best_47 : decode cX5_best 47 = .ok (.iload 6, 2) := dc_at dkX5_best_b2 9 rfl
def drX5_best_b3 : List (Nat × (Instr × Nat)) := [(49, (.iload 4, 2)), (51, (.invokevirtual 215, 3)), (54, (.iconst 3, 1)), (55, (.if_icmp .ne 7, 3)), (58, (.iconst 1, 1)), (59, (.goto 4, 3)), (62, (.iconst 0, 1)), (63, (.invokestatic 221, 3)), (66, (.iadd, 1)), (67, (.istore 5, 2))]
theorem dkX5_best_b3 : ((drX5_best_b3).all fun r => decide (decode cX5_best r.1 = .ok r.2)) = true := by decide +kernel
theorem dX5_best_49 : decode cX5_best 49 = .ok (.iload 4, 2) := dc_at dkX5_best_b3 0 rfl
theorem dX5_best_51 : decode cX5_best 51 = .ok (.invokevirtual 215, 3) := dc_at dkX5_best_b3 1 rfl
theorem dX5_best_54 : decode cX5_best 54 = .ok (.iconst 3, 1) := dc_at dkX5_best_b3 2 rfl
theorem dX5_best_55 : decode cX5_best 55 = .ok (.if_icmp .ne 7, 3) := dc_at dkX5_best_b3 3 rfl
theorem dX5_best_58 : decode cX5_best 58 = .ok (.iconst 1, 1) := dc_at dkX5_best_b3 4 rfl
theorem dX5_best_59 : decode cX5_best 59 = .ok (.goto 4, 3) := dc_at dkX5_best_b3 5 rfl
theorem dX5_best_62 : decode cX5_best 62 = .ok (.iconst 0, 1) := dc_at dkX5_best_b3 6 rfl
theorem dX5_best_63 : decode cX5_best 63 = .ok (.invokestatic 221, 3) := dc_at dkX5_best_b3 7 rfl
theorem dX5_best_66 : decode cX5_best 66 = .ok (.iadd, 1) := dc_at dkX5_best_b3 8 rfl
theorem dX5_best_67 : decode cX5_best 67 = .ok (.istore 5, 2) := dc_at dkX5_best_b3 9 rfl
def drX5_best_b4 : List (Nat × (Instr × Nat)) := [(69, (.iinc 6 1, 3)), (72, (.goto (-39), 3)), (75, (.iload_n 2, 1)), (76, (.bipush (-4), 2)), (78, (.if_icmp .eq 9, 3)), (81, (.iload 5, 2)), (83, (.iload_n 3, 1)), (84, (.if_icmp .ge 7, 3)), (87, (.iconst 1, 1)), (88, (.goto 4, 3))]
theorem dkX5_best_b4 : ((drX5_best_b4).all fun r => decide (decode cX5_best r.1 = .ok r.2)) = true := by decide +kernel
theorem dX5_best_69 : decode cX5_best 69 = .ok (.iinc 6 1, 3) := dc_at dkX5_best_b4 0 rfl
theorem dX5_best_72 : decode cX5_best 72 = .ok (.goto (-39), 3) := dc_at dkX5_best_b4 1 rfl
theorem dX5_best_75 : decode cX5_best 75 = .ok (.iload_n 2, 1) := dc_at dkX5_best_b4 2 rfl
theorem dX5_best_76 : decode cX5_best 76 = .ok (.bipush (-4), 2) := dc_at dkX5_best_b4 3 rfl
theorem dX5_best_78 : decode cX5_best 78 = .ok (.if_icmp .eq 9, 3) := dc_at dkX5_best_b4 4 rfl
theorem dX5_best_81 : decode cX5_best 81 = .ok (.iload 5, 2) := dc_at dkX5_best_b4 5 rfl
theorem dX5_best_83 : decode cX5_best 83 = .ok (.iload_n 3, 1) := dc_at dkX5_best_b4 6 rfl
theorem dX5_best_84 : decode cX5_best 84 = .ok (.if_icmp .ge 7, 3) := dc_at dkX5_best_b4 7 rfl
theorem dX5_best_87 : decode cX5_best 87 = .ok (.iconst 1, 1) := dc_at dkX5_best_b4 8 rfl
theorem dX5_best_88 : decode cX5_best 88 = .ok (.goto 4, 3) := dc_at dkX5_best_b4 9 rfl
def drX5_best_b5 : List (Nat × (Instr × Nat)) := [(91, (.iconst 0, 1)), (92, (.istore 6, 2)), (94, (.iload 6, 2)), (96, (.ifCond .eq 8, 3)), (99, (.iload 4, 2)), (101, (.goto 4, 3)), (104, (.iload_n 2, 1)), (105, (.istore_n 2, 1)), (106, (.iload 6, 2)), (108, (.ifCond .eq 8, 3))]
theorem dkX5_best_b5 : ((drX5_best_b5).all fun r => decide (decode cX5_best r.1 = .ok r.2)) = true := by decide +kernel
theorem dX5_best_91 : decode cX5_best 91 = .ok (.iconst 0, 1) := dc_at dkX5_best_b5 0 rfl
theorem dX5_best_92 : decode cX5_best 92 = .ok (.istore 6, 2) := dc_at dkX5_best_b5 1 rfl
theorem dX5_best_94 : decode cX5_best 94 = .ok (.iload 6, 2) := dc_at dkX5_best_b5 2 rfl
theorem dX5_best_96 : decode cX5_best 96 = .ok (.ifCond .eq 8, 3) := dc_at dkX5_best_b5 3 rfl
theorem dX5_best_99 : decode cX5_best 99 = .ok (.iload 4, 2) := dc_at dkX5_best_b5 4 rfl
theorem dX5_best_101 : decode cX5_best 101 = .ok (.goto 4, 3) := dc_at dkX5_best_b5 5 rfl
theorem dX5_best_104 : decode cX5_best 104 = .ok (.iload_n 2, 1) := dc_at dkX5_best_b5 6 rfl
theorem dX5_best_105 : decode cX5_best 105 = .ok (.istore_n 2, 1) := dc_at dkX5_best_b5 7 rfl
theorem dX5_best_106 : decode cX5_best 106 = .ok (.iload 6, 2) := dc_at dkX5_best_b5 8 rfl
theorem dX5_best_108 : decode cX5_best 108 = .ok (.ifCond .eq 8, 3) := dc_at dkX5_best_b5 9 rfl
def drX5_best_b6 : List (Nat × (Instr × Nat)) := [(111, (.iload 5, 2)), (113, (.goto 4, 3)), (116, (.iload_n 3, 1)), (117, (.istore_n 3, 1)), (118, (.iinc 4 1, 3)), (121, (.goto (-101), 3)), (124, (.iload_n 1, 1)), (125, (.ifCond .ne 7, 3)), (128, (.iload_n 2, 1)), (129, (.goto 4, 3))]
theorem dkX5_best_b6 : ((drX5_best_b6).all fun r => decide (decode cX5_best r.1 = .ok r.2)) = true := by decide +kernel
theorem dX5_best_111 : decode cX5_best 111 = .ok (.iload 5, 2) := dc_at dkX5_best_b6 0 rfl
theorem dX5_best_113 : decode cX5_best 113 = .ok (.goto 4, 3) := dc_at dkX5_best_b6 1 rfl
theorem dX5_best_116 : decode cX5_best 116 = .ok (.iload_n 3, 1) := dc_at dkX5_best_b6 2 rfl
theorem dX5_best_117 : decode cX5_best 117 = .ok (.istore_n 3, 1) := dc_at dkX5_best_b6 3 rfl
theorem dX5_best_118 : decode cX5_best 118 = .ok (.iinc 4 1, 3) := dc_at dkX5_best_b6 4 rfl
theorem dX5_best_121 : decode cX5_best 121 = .ok (.goto (-101), 3) := dc_at dkX5_best_b6 5 rfl
theorem dX5_best_124 : decode cX5_best 124 = .ok (.iload_n 1, 1) := dc_at dkX5_best_b6 6 rfl
theorem dX5_best_125 : decode cX5_best 125 = .ok (.ifCond .ne 7, 3) := dc_at dkX5_best_b6 7 rfl
theorem dX5_best_128 : decode cX5_best 128 = .ok (.iload_n 2, 1) := dc_at dkX5_best_b6 8 rfl
theorem dX5_best_129 : decode cX5_best 129 = .ok (.goto 4, 3) := dc_at dkX5_best_b6 9 rfl
def drX5_best_b7 : List (Nat × (Instr × Nat)) := [(132, (.iload_n 3, 1)), (133, (.ireturn, 1))]
theorem dkX5_best_b7 : ((drX5_best_b7).all fun r => decide (decode cX5_best r.1 = .ok r.2)) = true := by decide +kernel
theorem dX5_best_132 : decode cX5_best 132 = .ok (.iload_n 3, 1) := dc_at dkX5_best_b7 0 rfl
theorem dX5_best_133 : decode cX5_best 133 = .ok (.ireturn, 1) := dc_at dkX5_best_b7 1 rfl
def drX5_takes_b0 : List (Nat × (Instr × Nat)) := [(0, (.iload_n 1, 1)), (1, (.bipush 8, 2)), (3, (.if_icmp .ne 14, 3)), (6, (.aload_n 0, 1)), (7, (.getfield 7, 3)), (10, (.sipush 325, 3)), (13, (.iaload, 1)), (14, (.goto 13, 3)), (17, (.aload_n 0, 1)), (18, (.aload_n 0, 1))]
theorem dkX5_takes_b0 : ((drX5_takes_b0).all fun r => decide (decode cX5_takes r.1 = .ok r.2)) = true := by decide +kernel
theorem dX5_takes_0 : decode cX5_takes 0 = .ok (.iload_n 1, 1) := dc_at dkX5_takes_b0 0 rfl
theorem dX5_takes_1 : decode cX5_takes 1 = .ok (.bipush 8, 2) := dc_at dkX5_takes_b0 1 rfl
theorem dX5_takes_3 : decode cX5_takes 3 = .ok (.if_icmp .ne 14, 3) := dc_at dkX5_takes_b0 2 rfl
theorem dX5_takes_6 : decode cX5_takes 6 = .ok (.aload_n 0, 1) := dc_at dkX5_takes_b0 3 rfl
theorem dX5_takes_7 : decode cX5_takes 7 = .ok (.getfield 7, 3) := dc_at dkX5_takes_b0 4 rfl
theorem dX5_takes_10 : decode cX5_takes 10 = .ok (.sipush 325, 3) := dc_at dkX5_takes_b0 5 rfl
theorem dX5_takes_13 : decode cX5_takes 13 = .ok (.iaload, 1) := dc_at dkX5_takes_b0 6 rfl
theorem dX5_takes_14 : decode cX5_takes 14 = .ok (.goto 13, 3) := dc_at dkX5_takes_b0 7 rfl
theorem dX5_takes_17 : decode cX5_takes 17 = .ok (.aload_n 0, 1) := dc_at dkX5_takes_b0 8 rfl
theorem dX5_takes_18 : decode cX5_takes 18 = .ok (.aload_n 0, 1) := dc_at dkX5_takes_b0 9 rfl
def drX5_takes_b1 : List (Nat × (Instr × Nat)) := [(19, (.getfield 41, 3)), (22, (.iload_n 1, 1)), (23, (.iaload, 1)), (24, (.invokevirtual 179, 3)), (27, (.istore_n 3, 1)), (28, (.aload_n 0, 1)), (29, (.iload_n 3, 1)), (30, (.aload_n 0, 1)), (31, (.getfield 7, 3)), (34, (.iconst 1, 1))]
theorem dkX5_takes_b1 : ((drX5_takes_b1).all fun r => decide (decode cX5_takes r.1 = .ok r.2)) = true := by decide +kernel
theorem dX5_takes_19 : decode cX5_takes 19 = .ok (.getfield 41, 3) := dc_at dkX5_takes_b1 0 rfl
theorem dX5_takes_22 : decode cX5_takes 22 = .ok (.iload_n 1, 1) := dc_at dkX5_takes_b1 1 rfl
theorem dX5_takes_23 : decode cX5_takes 23 = .ok (.iaload, 1) := dc_at dkX5_takes_b1 2 rfl
theorem dX5_takes_24 : decode cX5_takes 24 = .ok (.invokevirtual 179, 3) := dc_at dkX5_takes_b1 3 rfl
theorem dX5_takes_27 : decode cX5_takes 27 = .ok (.istore_n 3, 1) := dc_at dkX5_takes_b1 4 rfl
theorem dX5_takes_28 : decode cX5_takes 28 = .ok (.aload_n 0, 1) := dc_at dkX5_takes_b1 5 rfl
theorem dX5_takes_29 : decode cX5_takes 29 = .ok (.iload_n 3, 1) := dc_at dkX5_takes_b1 6 rfl
theorem dX5_takes_30 : decode cX5_takes 30 = .ok (.aload_n 0, 1) := dc_at dkX5_takes_b1 7 rfl
theorem dX5_takes_31 : decode cX5_takes 31 = .ok (.getfield 7, 3) := dc_at dkX5_takes_b1 8 rfl
theorem dX5_takes_34 : decode cX5_takes 34 = .ok (.iconst 1, 1) := dc_at dkX5_takes_b1 9 rfl
def drX5_takes_b2 : List (Nat × (Instr × Nat)) := [(35, (.aload_n 0, 1)), (36, (.getfield 41, 3)), (39, (.iload_n 2, 1)), (40, (.iaload, 1)), (41, (.iadd, 1)), (42, (.iaload, 1)), (43, (.invokevirtual 170, 3)), (46, (.aload_n 0, 1)), (47, (.getfield 17, 3)), (50, (.iconst 3, 1))]
theorem dkX5_takes_b2 : ((drX5_takes_b2).all fun r => decide (decode cX5_takes r.1 = .ok r.2)) = true := by decide +kernel
theorem dX5_takes_35 : decode cX5_takes 35 = .ok (.aload_n 0, 1) := dc_at dkX5_takes_b2 0 rfl
theorem dX5_takes_36 : decode cX5_takes 36 = .ok (.getfield 41, 3) := dc_at dkX5_takes_b2 1 rfl
theorem dX5_takes_39 : decode cX5_takes 39 = .ok (.iload_n 2, 1) := dc_at dkX5_takes_b2 2 rfl
theorem dX5_takes_40 : decode cX5_takes 40 = .ok (.iaload, 1) := dc_at dkX5_takes_b2 3 rfl
theorem dX5_takes_41 : decode cX5_takes 41 = .ok (.iadd, 1) := dc_at dkX5_takes_b2 4 rfl
theorem dX5_takes_42 : decode cX5_takes 42 = .ok (.iaload, 1) := dc_at dkX5_takes_b2 5 rfl
theorem dX5_takes_43 : decode cX5_takes 43 = .ok (.invokevirtual 170, 3) := dc_at dkX5_takes_b2 6 rfl
theorem dX5_takes_46 : decode cX5_takes 46 = .ok (.aload_n 0, 1) := dc_at dkX5_takes_b2 7 rfl
theorem dX5_takes_47 : decode cX5_takes 47 = .ok (.getfield 17, 3) := dc_at dkX5_takes_b2 8 rfl
theorem dX5_takes_50 : decode cX5_takes 50 = .ok (.iconst 3, 1) := dc_at dkX5_takes_b2 9 rfl
def drX5_takes_b3 : List (Nat × (Instr × Nat)) := [(51, (.iaload, 1)), (52, (.aload_n 0, 1)), (53, (.aload_n 0, 1)), (54, (.getfield 7, 3)), (57, (.bipush 13, 2)), (59, (.aload_n 0, 1)), (60, (.getfield 41, 3)), (63, (.iload_n 2, 1)), (64, (.iaload, 1)), (65, (.iadd, 1))]
theorem dkX5_takes_b3 : ((drX5_takes_b3).all fun r => decide (decode cX5_takes r.1 = .ok r.2)) = true := by decide +kernel
theorem dX5_takes_51 : decode cX5_takes 51 = .ok (.iaload, 1) := dc_at dkX5_takes_b3 0 rfl
theorem dX5_takes_52 : decode cX5_takes 52 = .ok (.aload_n 0, 1) := dc_at dkX5_takes_b3 1 rfl
theorem dX5_takes_53 : decode cX5_takes 53 = .ok (.aload_n 0, 1) := dc_at dkX5_takes_b3 2 rfl
theorem dX5_takes_54 : decode cX5_takes 54 = .ok (.getfield 7, 3) := dc_at dkX5_takes_b3 3 rfl
theorem dX5_takes_57 : decode cX5_takes 57 = .ok (.bipush 13, 2) := dc_at dkX5_takes_b3 4 rfl
theorem dX5_takes_59 : decode cX5_takes 59 = .ok (.aload_n 0, 1) := dc_at dkX5_takes_b3 5 rfl
theorem dX5_takes_60 : decode cX5_takes 60 = .ok (.getfield 41, 3) := dc_at dkX5_takes_b3 6 rfl
theorem dX5_takes_63 : decode cX5_takes 63 = .ok (.iload_n 2, 1) := dc_at dkX5_takes_b3 7 rfl
theorem dX5_takes_64 : decode cX5_takes 64 = .ok (.iaload, 1) := dc_at dkX5_takes_b3 8 rfl
theorem dX5_takes_65 : decode cX5_takes 65 = .ok (.iadd, 1) := dc_at dkX5_takes_b3 9 rfl
def drX5_takes_b4 : List (Nat × (Instr × Nat)) := [(66, (.iaload, 1)), (67, (.invokevirtual 176, 3)), (70, (.imul, 1)), (71, (.iadd, 1)), (72, (.ireturn, 1))]
theorem dkX5_takes_b4 : ((drX5_takes_b4).all fun r => decide (decode cX5_takes r.1 = .ok r.2)) = true := by decide +kernel
theorem dX5_takes_66 : decode cX5_takes 66 = .ok (.iaload, 1) := dc_at dkX5_takes_b4 0 rfl
theorem dX5_takes_67 : decode cX5_takes 67 = .ok (.invokevirtual 176, 3) := dc_at dkX5_takes_b4 1 rfl
theorem dX5_takes_70 : decode cX5_takes 70 = .ok (.imul, 1) := dc_at dkX5_takes_b4 2 rfl
theorem dX5_takes_71 : decode cX5_takes 71 = .ok (.iadd, 1) := dc_at dkX5_takes_b4 3 rfl
theorem dX5_takes_72 : decode cX5_takes 72 = .ok (.ireturn, 1) := dc_at dkX5_takes_b4 4 rfl
def drX5_areBlocks_b0 : List (Nat × (Instr × Nat)) := [(0, (.iload_n 1, 1)), (1, (.i2l, 1)), (2, (.lconst 0, 1)), (3, (.iconst 1, 1)), (4, (.aload_n 0, 1)), (5, (.getfield 7, 3)), (8, (.iconst 0, 1)), (9, (.iaload, 1)), (10, (.ishl, 1)), (11, (.iconst 1, 1))]
theorem dkX5_areBlocks_b0 : ((drX5_areBlocks_b0).all fun r => decide (decode cX5_areBlocks r.1 = .ok r.2)) = true := by decide +kernel
theorem dX5_areBlocks_0 : decode cX5_areBlocks 0 = .ok (.iload_n 1, 1) := dc_at dkX5_areBlocks_b0 0 rfl
theorem dX5_areBlocks_1 : decode cX5_areBlocks 1 = .ok (.i2l, 1) := dc_at dkX5_areBlocks_b0 1 rfl
theorem dX5_areBlocks_2 : decode cX5_areBlocks 2 = .ok (.lconst 0, 1) := dc_at dkX5_areBlocks_b0 2 rfl
theorem dX5_areBlocks_3 : decode cX5_areBlocks 3 = .ok (.iconst 1, 1) := dc_at dkX5_areBlocks_b0 3 rfl
theorem dX5_areBlocks_4 : decode cX5_areBlocks 4 = .ok (.aload_n 0, 1) := dc_at dkX5_areBlocks_b0 4 rfl
theorem dX5_areBlocks_5 : decode cX5_areBlocks 5 = .ok (.getfield 7, 3) := dc_at dkX5_areBlocks_b0 5 rfl
theorem dX5_areBlocks_8 : decode cX5_areBlocks 8 = .ok (.iconst 0, 1) := dc_at dkX5_areBlocks_b0 6 rfl
theorem dX5_areBlocks_9 : decode cX5_areBlocks 9 = .ok (.iaload, 1) := dc_at dkX5_areBlocks_b0 7 rfl
theorem dX5_areBlocks_10 : decode cX5_areBlocks 10 = .ok (.ishl, 1) := dc_at dkX5_areBlocks_b0 8 rfl
theorem dX5_areBlocks_11 : decode cX5_areBlocks 11 = .ok (.iconst 1, 1) := dc_at dkX5_areBlocks_b0 9 rfl
def drX5_areBlocks_b1 : List (Nat × (Instr × Nat)) := [(12, (.isub, 1)), (13, (.i2l, 1)), (14, (.invokestatic 75, 3)), (17, (.ireturn, 1))]
theorem dkX5_areBlocks_b1 : ((drX5_areBlocks_b1).all fun r => decide (decode cX5_areBlocks r.1 = .ok r.2)) = true := by decide +kernel
theorem dX5_areBlocks_12 : decode cX5_areBlocks 12 = .ok (.isub, 1) := dc_at dkX5_areBlocks_b1 0 rfl
theorem dX5_areBlocks_13 : decode cX5_areBlocks 13 = .ok (.i2l, 1) := dc_at dkX5_areBlocks_b1 1 rfl
theorem dX5_areBlocks_14 : decode cX5_areBlocks 14 = .ok (.invokestatic 75, 3) := dc_at dkX5_areBlocks_b1 2 rfl
theorem dX5_areBlocks_17 : decode cX5_areBlocks 17 = .ok (.ireturn, 1) := dc_at dkX5_areBlocks_b1 3 rfl
def drX5_countOf_b0 : List (Nat × (Instr × Nat)) := [(0, (.iconst 0, 1)), (1, (.istore_n 1, 1)), (2, (.iconst 0, 1)), (3, (.istore_n 2, 1)), (4, (.iload_n 2, 1)), (5, (.bipush 12, 2)), (7, (.if_icmp .ge 17, 3)), (10, (.iload_n 1, 1)), (11, (.iload_n 0, 1)), (12, (.iload_n 2, 1))]
theorem dkX5_countOf_b0 : ((drX5_countOf_b0).all fun r => decide (decode cX5_countOf r.1 = .ok r.2)) = true := by decide +kernel
theorem dX5_countOf_0 : decode cX5_countOf 0 = .ok (.iconst 0, 1) := dc_at dkX5_countOf_b0 0 rfl
theorem dX5_countOf_1 : decode cX5_countOf 1 = .ok (.istore_n 1, 1) := dc_at dkX5_countOf_b0 1 rfl
theorem dX5_countOf_2 : decode cX5_countOf 2 = .ok (.iconst 0, 1) := dc_at dkX5_countOf_b0 2 rfl
theorem dX5_countOf_3 : decode cX5_countOf 3 = .ok (.istore_n 2, 1) := dc_at dkX5_countOf_b0 3 rfl
theorem dX5_countOf_4 : decode cX5_countOf 4 = .ok (.iload_n 2, 1) := dc_at dkX5_countOf_b0 4 rfl
theorem dX5_countOf_5 : decode cX5_countOf 5 = .ok (.bipush 12, 2) := dc_at dkX5_countOf_b0 5 rfl
theorem dX5_countOf_7 : decode cX5_countOf 7 = .ok (.if_icmp .ge 17, 3) := dc_at dkX5_countOf_b0 6 rfl
theorem dX5_countOf_10 : decode cX5_countOf 10 = .ok (.iload_n 1, 1) := dc_at dkX5_countOf_b0 7 rfl
theorem dX5_countOf_11 : decode cX5_countOf 11 = .ok (.iload_n 0, 1) := dc_at dkX5_countOf_b0 8 rfl
theorem dX5_countOf_12 : decode cX5_countOf 12 = .ok (.iload_n 2, 1) := dc_at dkX5_countOf_b0 9 rfl
def drX5_countOf_b1 : List (Nat × (Instr × Nat)) := [(13, (.ishr, 1)), (14, (.iconst 1, 1)), (15, (.iand, 1)), (16, (.iadd, 1)), (17, (.istore_n 1, 1)), (18, (.iinc 2 1, 3)), (21, (.goto (-17), 3)), (24, (.iload_n 1, 1)), (25, (.ireturn, 1))]
theorem dkX5_countOf_b1 : ((drX5_countOf_b1).all fun r => decide (decode cX5_countOf r.1 = .ok r.2)) = true := by decide +kernel
theorem dX5_countOf_13 : decode cX5_countOf 13 = .ok (.ishr, 1) := dc_at dkX5_countOf_b1 0 rfl
theorem dX5_countOf_14 : decode cX5_countOf 14 = .ok (.iconst 1, 1) := dc_at dkX5_countOf_b1 1 rfl
theorem dX5_countOf_15 : decode cX5_countOf 15 = .ok (.iand, 1) := dc_at dkX5_countOf_b1 2 rfl
theorem dX5_countOf_16 : decode cX5_countOf 16 = .ok (.iadd, 1) := dc_at dkX5_countOf_b1 3 rfl
theorem dX5_countOf_17 : decode cX5_countOf 17 = .ok (.istore_n 1, 1) := dc_at dkX5_countOf_b1 4 rfl
theorem dX5_countOf_18 : decode cX5_countOf 18 = .ok (.iinc 2 1, 3) := dc_at dkX5_countOf_b1 5 rfl
theorem dX5_countOf_21 : decode cX5_countOf 21 = .ok (.goto (-17), 3) := dc_at dkX5_countOf_b1 6 rfl
theorem dX5_countOf_24 : decode cX5_countOf 24 = .ok (.iload_n 1, 1) := dc_at dkX5_countOf_b1 7 rfl
theorem dX5_countOf_25 : decode cX5_countOf 25 = .ok (.ireturn, 1) := dc_at dkX5_countOf_b1 8 rfl
def drX5_layRest_b0 : List (Nat × (Instr × Nat)) := [(0, (.aload_n 0, 1)), (1, (.iconst 0, 1)), (2, (.putfield 225, 3)), (5, (.iconst 0, 1)), (6, (.istore_n 2, 1)), (7, (.iload_n 2, 1)), (8, (.aload_n 0, 1)), (9, (.getfield 7, 3)), (12, (.iconst 0, 1)), (13, (.iaload, 1))]
theorem dkX5_layRest_b0 : ((drX5_layRest_b0).all fun r => decide (decode cX5_layRest r.1 = .ok r.2)) = true := by decide +kernel
theorem dX5_layRest_0 : decode cX5_layRest 0 = .ok (.aload_n 0, 1) := dc_at dkX5_layRest_b0 0 rfl
theorem dX5_layRest_1 : decode cX5_layRest 1 = .ok (.iconst 0, 1) := dc_at dkX5_layRest_b0 1 rfl
theorem dX5_layRest_2 : decode cX5_layRest 2 = .ok (.putfield 225, 3) := dc_at dkX5_layRest_b0 2 rfl
theorem dX5_layRest_5 : decode cX5_layRest 5 = .ok (.iconst 0, 1) := dc_at dkX5_layRest_b0 3 rfl
theorem dX5_layRest_6 : decode cX5_layRest 6 = .ok (.istore_n 2, 1) := dc_at dkX5_layRest_b0 4 rfl
theorem dX5_layRest_7 : decode cX5_layRest 7 = .ok (.iload_n 2, 1) := dc_at dkX5_layRest_b0 5 rfl
theorem dX5_layRest_8 : decode cX5_layRest 8 = .ok (.aload_n 0, 1) := dc_at dkX5_layRest_b0 6 rfl
theorem dX5_layRest_9 : decode cX5_layRest 9 = .ok (.getfield 7, 3) := dc_at dkX5_layRest_b0 7 rfl
theorem dX5_layRest_12 : decode cX5_layRest 12 = .ok (.iconst 0, 1) := dc_at dkX5_layRest_b0 8 rfl
theorem dX5_layRest_13 : decode cX5_layRest 13 = .ok (.iaload, 1) := dc_at dkX5_layRest_b0 9 rfl
def drX5_layRest_b1 : List (Nat × (Instr × Nat)) := [(14, (.if_icmp .ge 38, 3)), (17, (.iload_n 1, 1)), (18, (.iload_n 2, 1)), (19, (.ishr, 1)), (20, (.iconst 1, 1)), (21, (.iand, 1)), (22, (.iconst 1, 1)), (23, (.if_icmp .ne 23, 3)), (26, (.aload_n 0, 1)), (27, (.getfield 41, 3))]
theorem dkX5_layRest_b1 : ((drX5_layRest_b1).all fun r => decide (decode cX5_layRest r.1 = .ok r.2)) = true := by decide +kernel
theorem dX5_layRest_14 : decode cX5_layRest 14 = .ok (.if_icmp .ge 38, 3) := dc_at dkX5_layRest_b1 0 rfl
theorem dX5_layRest_17 : decode cX5_layRest 17 = .ok (.iload_n 1, 1) := dc_at dkX5_layRest_b1 1 rfl
theorem dX5_layRest_18 : decode cX5_layRest 18 = .ok (.iload_n 2, 1) := dc_at dkX5_layRest_b1 2 rfl
theorem dX5_layRest_19 : decode cX5_layRest 19 = .ok (.ishr, 1) := dc_at dkX5_layRest_b1 3 rfl
theorem dX5_layRest_20 : decode cX5_layRest 20 = .ok (.iconst 1, 1) := dc_at dkX5_layRest_b1 4 rfl
theorem dX5_layRest_21 : decode cX5_layRest 21 = .ok (.iand, 1) := dc_at dkX5_layRest_b1 5 rfl
theorem dX5_layRest_22 : decode cX5_layRest 22 = .ok (.iconst 1, 1) := dc_at dkX5_layRest_b1 6 rfl
theorem dX5_layRest_23 : decode cX5_layRest 23 = .ok (.if_icmp .ne 23, 3) := dc_at dkX5_layRest_b1 7 rfl
theorem dX5_layRest_26 : decode cX5_layRest 26 = .ok (.aload_n 0, 1) := dc_at dkX5_layRest_b1 8 rfl
theorem dX5_layRest_27 : decode cX5_layRest 27 = .ok (.getfield 41, 3) := dc_at dkX5_layRest_b1 9 rfl
def drX5_layRest_b2 : List (Nat × (Instr × Nat)) := [(30, (.aload_n 0, 1)), (31, (.getfield 225, 3)), (34, (.iload_n 2, 1)), (35, (.iastore, 1)), (36, (.aload_n 0, 1)), (37, (.dup, 1)), (38, (.getfield 225, 3)), (41, (.iconst 1, 1)), (42, (.iadd, 1)), (43, (.putfield 225, 3))]
theorem dkX5_layRest_b2 : ((drX5_layRest_b2).all fun r => decide (decode cX5_layRest r.1 = .ok r.2)) = true := by decide +kernel
theorem dX5_layRest_30 : decode cX5_layRest 30 = .ok (.aload_n 0, 1) := dc_at dkX5_layRest_b2 0 rfl
theorem dX5_layRest_31 : decode cX5_layRest 31 = .ok (.getfield 225, 3) := dc_at dkX5_layRest_b2 1 rfl
theorem dX5_layRest_34 : decode cX5_layRest 34 = .ok (.iload_n 2, 1) := dc_at dkX5_layRest_b2 2 rfl
theorem dX5_layRest_35 : decode cX5_layRest 35 = .ok (.iastore, 1) := dc_at dkX5_layRest_b2 3 rfl
theorem dX5_layRest_36 : decode cX5_layRest 36 = .ok (.aload_n 0, 1) := dc_at dkX5_layRest_b2 4 rfl
theorem dX5_layRest_37 : decode cX5_layRest 37 = .ok (.dup, 1) := dc_at dkX5_layRest_b2 5 rfl
theorem dX5_layRest_38 : decode cX5_layRest 38 = .ok (.getfield 225, 3) := dc_at dkX5_layRest_b2 6 rfl
theorem dX5_layRest_41 : decode cX5_layRest 41 = .ok (.iconst 1, 1) := dc_at dkX5_layRest_b2 7 rfl
theorem dX5_layRest_42 : decode cX5_layRest 42 = .ok (.iadd, 1) := dc_at dkX5_layRest_b2 8 rfl
theorem dX5_layRest_43 : decode cX5_layRest 43 = .ok (.putfield 225, 3) := dc_at dkX5_layRest_b2 9 rfl
def drX5_layRest_b3 : List (Nat × (Instr × Nat)) := [(46, (.iinc 2 1, 3)), (49, (.goto (-42), 3)), (52, (.iconst 1, 1)), (53, (.aload_n 0, 1)), (54, (.getfield 225, 3)), (57, (.ishl, 1)), (58, (.iconst 1, 1)), (59, (.isub, 1)), (60, (.istore_n 2, 1)), (61, (.iload_n 2, 1))]
theorem dkX5_layRest_b3 : ((drX5_layRest_b3).all fun r => decide (decode cX5_layRest r.1 = .ok r.2)) = true := by decide +kernel
theorem dX5_layRest_46 : decode cX5_layRest 46 = .ok (.iinc 2 1, 3) := dc_at dkX5_layRest_b3 0 rfl
theorem dX5_layRest_49 : decode cX5_layRest 49 = .ok (.goto (-42), 3) := dc_at dkX5_layRest_b3 1 rfl
theorem dX5_layRest_52 : decode cX5_layRest 52 = .ok (.iconst 1, 1) := dc_at dkX5_layRest_b3 2 rfl
theorem dX5_layRest_53 : decode cX5_layRest 53 = .ok (.aload_n 0, 1) := dc_at dkX5_layRest_b3 3 rfl
theorem dX5_layRest_54 : decode cX5_layRest 54 = .ok (.getfield 225, 3) := dc_at dkX5_layRest_b3 4 rfl
theorem dX5_layRest_57 : decode cX5_layRest 57 = .ok (.ishl, 1) := dc_at dkX5_layRest_b3 5 rfl
theorem dX5_layRest_58 : decode cX5_layRest 58 = .ok (.iconst 1, 1) := dc_at dkX5_layRest_b3 6 rfl
theorem dX5_layRest_59 : decode cX5_layRest 59 = .ok (.isub, 1) := dc_at dkX5_layRest_b3 7 rfl
theorem dX5_layRest_60 : decode cX5_layRest 60 = .ok (.istore_n 2, 1) := dc_at dkX5_layRest_b3 8 rfl
theorem dX5_layRest_61 : decode cX5_layRest 61 = .ok (.iload_n 2, 1) := dc_at dkX5_layRest_b3 9 rfl
def drX5_layRest_b4 : List (Nat × (Instr × Nat)) := [(62, (.istore_n 3, 1)), (63, (.iload_n 3, 1)), (64, (.ifCond .lt 162, 3)), (67, (.iconst 0, 1)), (68, (.istore 4, 2)), (70, (.iload 4, 2)), (72, (.bipush 9, 2)), (74, (.if_icmp .ge 146, 3)), (77, (.iload_n 3, 1)), (78, (.iload_n 2, 1))]
theorem dkX5_layRest_b4 : ((drX5_layRest_b4).all fun r => decide (decode cX5_layRest r.1 = .ok r.2)) = true := by decide +kernel
theorem dX5_layRest_62 : decode cX5_layRest 62 = .ok (.istore_n 3, 1) := dc_at dkX5_layRest_b4 0 rfl
theorem dX5_layRest_63 : decode cX5_layRest 63 = .ok (.iload_n 3, 1) := dc_at dkX5_layRest_b4 1 rfl
theorem dX5_layRest_64 : decode cX5_layRest 64 = .ok (.ifCond .lt 162, 3) := dc_at dkX5_layRest_b4 2 rfl
theorem dX5_layRest_67 : decode cX5_layRest 67 = .ok (.iconst 0, 1) := dc_at dkX5_layRest_b4 3 rfl
theorem dX5_layRest_68 : decode cX5_layRest 68 = .ok (.istore 4, 2) := dc_at dkX5_layRest_b4 4 rfl
theorem dX5_layRest_70 : decode cX5_layRest 70 = .ok (.iload 4, 2) := dc_at dkX5_layRest_b4 5 rfl
theorem dX5_layRest_72 : decode cX5_layRest 72 = .ok (.bipush 9, 2) := dc_at dkX5_layRest_b4 6 rfl
theorem dX5_layRest_74 : decode cX5_layRest 74 = .ok (.if_icmp .ge 146, 3) := dc_at dkX5_layRest_b4 7 rfl
theorem dX5_layRest_77 : decode cX5_layRest 77 = .ok (.iload_n 3, 1) := dc_at dkX5_layRest_b4 8 rfl
theorem dX5_layRest_78 : decode cX5_layRest 78 = .ok (.iload_n 2, 1) := dc_at dkX5_layRest_b4 9 rfl
def drX5_layRest_b5 : List (Nat × (Instr × Nat)) := [(79, (.if_icmp .ne 7, 3)), (82, (.iconst 0, 1)), (83, (.goto 5, 3)), (86, (.ldc 228, 2)), (88, (.istore 5, 2)), (90, (.iload 4, 2)), (92, (.bipush 8, 2)), (94, (.if_icmp .ne 15, 3)), (97, (.iload_n 3, 1)), (98, (.ifCond .ne 7, 3))]
theorem dkX5_layRest_b5 : ((drX5_layRest_b5).all fun r => decide (decode cX5_layRest r.1 = .ok r.2)) = true := by decide +kernel
theorem dX5_layRest_79 : decode cX5_layRest 79 = .ok (.if_icmp .ne 7, 3) := dc_at dkX5_layRest_b5 0 rfl
theorem dX5_layRest_82 : decode cX5_layRest 82 = .ok (.iconst 0, 1) := dc_at dkX5_layRest_b5 1 rfl
theorem dX5_layRest_83 : decode cX5_layRest 83 = .ok (.goto 5, 3) := dc_at dkX5_layRest_b5 2 rfl
theorem dX5_layRest_86 : decode cX5_layRest 86 = .ok (.ldc 228, 2) := dc_at dkX5_layRest_b5 3 rfl
theorem dX5_layRest_88 : decode cX5_layRest 88 = .ok (.istore 5, 2) := dc_at dkX5_layRest_b5 4 rfl
theorem dX5_layRest_90 : decode cX5_layRest 90 = .ok (.iload 4, 2) := dc_at dkX5_layRest_b5 5 rfl
theorem dX5_layRest_92 : decode cX5_layRest 92 = .ok (.bipush 8, 2) := dc_at dkX5_layRest_b5 6 rfl
theorem dX5_layRest_94 : decode cX5_layRest 94 = .ok (.if_icmp .ne 15, 3) := dc_at dkX5_layRest_b5 7 rfl
theorem dX5_layRest_97 : decode cX5_layRest 97 = .ok (.iload_n 3, 1) := dc_at dkX5_layRest_b5 8 rfl
theorem dX5_layRest_98 : decode cX5_layRest 98 = .ok (.ifCond .ne 7, 3) := dc_at dkX5_layRest_b5 9 rfl
def drX5_layRest_b6 : List (Nat × (Instr × Nat)) := [(101, (.iconst 1, 1)), (102, (.goto 31, 3)), (105, (.iconst 0, 1)), (106, (.goto 27, 3)), (109, (.iload 4, 2)), (111, (.aload_n 0, 1)), (112, (.getfield 225, 3)), (115, (.if_icmp .ge 17, 3)), (118, (.iload_n 3, 1)), (119, (.iload 4, 2))]
theorem dkX5_layRest_b6 : ((drX5_layRest_b6).all fun r => decide (decode cX5_layRest r.1 = .ok r.2)) = true := by decide +kernel
theorem dX5_layRest_101 : decode cX5_layRest 101 = .ok (.iconst 1, 1) := dc_at dkX5_layRest_b6 0 rfl
theorem dX5_layRest_102 : decode cX5_layRest 102 = .ok (.goto 31, 3) := dc_at dkX5_layRest_b6 1 rfl
theorem dX5_layRest_105 : decode cX5_layRest 105 = .ok (.iconst 0, 1) := dc_at dkX5_layRest_b6 2 rfl
theorem dX5_layRest_106 : decode cX5_layRest 106 = .ok (.goto 27, 3) := dc_at dkX5_layRest_b6 3 rfl
theorem dX5_layRest_109 : decode cX5_layRest 109 = .ok (.iload 4, 2) := dc_at dkX5_layRest_b6 4 rfl
theorem dX5_layRest_111 : decode cX5_layRest 111 = .ok (.aload_n 0, 1) := dc_at dkX5_layRest_b6 5 rfl
theorem dX5_layRest_112 : decode cX5_layRest 112 = .ok (.getfield 225, 3) := dc_at dkX5_layRest_b6 6 rfl
theorem dX5_layRest_115 : decode cX5_layRest 115 = .ok (.if_icmp .ge 17, 3) := dc_at dkX5_layRest_b6 7 rfl
theorem dX5_layRest_118 : decode cX5_layRest 118 = .ok (.iload_n 3, 1) := dc_at dkX5_layRest_b6 8 rfl
theorem dX5_layRest_119 : decode cX5_layRest 119 = .ok (.iload 4, 2) := dc_at dkX5_layRest_b6 9 rfl
def drX5_layRest_b7 : List (Nat × (Instr × Nat)) := [(121, (.ishr, 1)), (122, (.iconst 1, 1)), (123, (.iand, 1)), (124, (.iconst 1, 1)), (125, (.if_icmp .ne 7, 3)), (128, (.iconst 1, 1)), (129, (.goto 4, 3)), (132, (.iconst 0, 1)), (133, (.istore 6, 2)), (135, (.iconst 0, 1))]
theorem dkX5_layRest_b7 : ((drX5_layRest_b7).all fun r => decide (decode cX5_layRest r.1 = .ok r.2)) = true := by decide +kernel
theorem dX5_layRest_121 : decode cX5_layRest 121 = .ok (.ishr, 1) := dc_at dkX5_layRest_b7 0 rfl
theorem dX5_layRest_122 : decode cX5_layRest 122 = .ok (.iconst 1, 1) := dc_at dkX5_layRest_b7 1 rfl
theorem dX5_layRest_123 : decode cX5_layRest 123 = .ok (.iand, 1) := dc_at dkX5_layRest_b7 2 rfl
theorem dX5_layRest_124 : decode cX5_layRest 124 = .ok (.iconst 1, 1) := dc_at dkX5_layRest_b7 3 rfl
theorem dX5_layRest_125 : decode cX5_layRest 125 = .ok (.if_icmp .ne 7, 3) := dc_at dkX5_layRest_b7 4 rfl
theorem dX5_layRest_128 : decode cX5_layRest 128 = .ok (.iconst 1, 1) := dc_at dkX5_layRest_b7 5 rfl
theorem dX5_layRest_129 : decode cX5_layRest 129 = .ok (.goto 4, 3) := dc_at dkX5_layRest_b7 6 rfl
theorem dX5_layRest_132 : decode cX5_layRest 132 = .ok (.iconst 0, 1) := dc_at dkX5_layRest_b7 7 rfl
theorem dX5_layRest_133 : decode cX5_layRest 133 = .ok (.istore 6, 2) := dc_at dkX5_layRest_b7 8 rfl
theorem dX5_layRest_135 : decode cX5_layRest 135 = .ok (.iconst 0, 1) := dc_at dkX5_layRest_b7 9 rfl
def drX5_layRest_b8 : List (Nat × (Instr × Nat)) := [(136, (.istore 7, 2)), (138, (.iload 7, 2)), (140, (.aload_n 0, 1)), (141, (.getfield 225, 3)), (144, (.if_icmp .ge 56, 3)), (147, (.iload 6, 2)), (149, (.ifCond .eq 51, 3)), (152, (.iload_n 3, 1)), (153, (.iload 7, 2)), (155, (.ishr, 1))]
theorem dkX5_layRest_b8 : ((drX5_layRest_b8).all fun r => decide (decode cX5_layRest r.1 = .ok r.2)) = true := by decide +kernel
theorem dX5_layRest_136 : decode cX5_layRest 136 = .ok (.istore 7, 2) := dc_at dkX5_layRest_b8 0 rfl
theorem dX5_layRest_138 : decode cX5_layRest 138 = .ok (.iload 7, 2) := dc_at dkX5_layRest_b8 1 rfl
theorem dX5_layRest_140 : decode cX5_layRest 140 = .ok (.aload_n 0, 1) := dc_at dkX5_layRest_b8 2 rfl
theorem dX5_layRest_141 : decode cX5_layRest 141 = .ok (.getfield 225, 3) := dc_at dkX5_layRest_b8 3 rfl
theorem dX5_layRest_144 : decode cX5_layRest 144 = .ok (.if_icmp .ge 56, 3) := dc_at dkX5_layRest_b8 4 rfl
theorem dX5_layRest_147 : decode cX5_layRest 147 = .ok (.iload 6, 2) := dc_at dkX5_layRest_b8 5 rfl
theorem dX5_layRest_149 : decode cX5_layRest 149 = .ok (.ifCond .eq 51, 3) := dc_at dkX5_layRest_b8 6 rfl
theorem dX5_layRest_152 : decode cX5_layRest 152 = .ok (.iload_n 3, 1) := dc_at dkX5_layRest_b8 7 rfl
theorem dX5_layRest_153 : decode cX5_layRest 153 = .ok (.iload 7, 2) := dc_at dkX5_layRest_b8 8 rfl
theorem dX5_layRest_155 : decode cX5_layRest 155 = .ok (.ishr, 1) := dc_at dkX5_layRest_b8 9 rfl
def drX5_layRest_b9 : List (Nat × (Instr × Nat)) := [(156, (.iconst 1, 1)), (157, (.iand, 1)), (158, (.ifCond .ne 36, 3)), (161, (.iload 5, 2)), (163, (.aload_n 0, 1)), (164, (.iload 4, 2)), (166, (.iload 7, 2)), (168, (.invokevirtual 229, 3)), (171, (.aload_n 0, 1)), (172, (.getfield 38, 3))]
theorem dkX5_layRest_b9 : ((drX5_layRest_b9).all fun r => decide (decode cX5_layRest r.1 = .ok r.2)) = true := by decide +kernel
theorem dX5_layRest_156 : decode cX5_layRest 156 = .ok (.iconst 1, 1) := dc_at dkX5_layRest_b9 0 rfl
theorem dX5_layRest_157 : decode cX5_layRest 157 = .ok (.iand, 1) := dc_at dkX5_layRest_b9 1 rfl
theorem dX5_layRest_158 : decode cX5_layRest 158 = .ok (.ifCond .ne 36, 3) := dc_at dkX5_layRest_b9 2 rfl
theorem dX5_layRest_161 : decode cX5_layRest 161 = .ok (.iload 5, 2) := dc_at dkX5_layRest_b9 3 rfl
theorem dX5_layRest_163 : decode cX5_layRest 163 = .ok (.aload_n 0, 1) := dc_at dkX5_layRest_b9 4 rfl
theorem dX5_layRest_164 : decode cX5_layRest 164 = .ok (.iload 4, 2) := dc_at dkX5_layRest_b9 5 rfl
theorem dX5_layRest_166 : decode cX5_layRest 166 = .ok (.iload 7, 2) := dc_at dkX5_layRest_b9 6 rfl
theorem dX5_layRest_168 : decode cX5_layRest 168 = .ok (.invokevirtual 229, 3) := dc_at dkX5_layRest_b9 7 rfl
theorem dX5_layRest_171 : decode cX5_layRest 171 = .ok (.aload_n 0, 1) := dc_at dkX5_layRest_b9 8 rfl
theorem dX5_layRest_172 : decode cX5_layRest 172 = .ok (.getfield 38, 3) := dc_at dkX5_layRest_b9 9 rfl
def drX5_layRest_b10 : List (Nat × (Instr × Nat)) := [(175, (.bipush 13, 2)), (177, (.iload_n 3, 1)), (178, (.iconst 1, 1)), (179, (.iload 7, 2)), (181, (.ishl, 1)), (182, (.ior, 1)), (183, (.imul, 1)), (184, (.iload 7, 2)), (186, (.iadd, 1)), (187, (.iaload, 1))]
theorem dkX5_layRest_b10 : ((drX5_layRest_b10).all fun r => decide (decode cX5_layRest r.1 = .ok r.2)) = true := by decide +kernel
theorem dX5_layRest_175 : decode cX5_layRest 175 = .ok (.bipush 13, 2) := dc_at dkX5_layRest_b10 0 rfl
theorem dX5_layRest_177 : decode cX5_layRest 177 = .ok (.iload_n 3, 1) := dc_at dkX5_layRest_b10 1 rfl
theorem dX5_layRest_178 : decode cX5_layRest 178 = .ok (.iconst 1, 1) := dc_at dkX5_layRest_b10 2 rfl
theorem dX5_layRest_179 : decode cX5_layRest 179 = .ok (.iload 7, 2) := dc_at dkX5_layRest_b10 3 rfl
theorem dX5_layRest_181 : decode cX5_layRest 181 = .ok (.ishl, 1) := dc_at dkX5_layRest_b10 4 rfl
theorem dX5_layRest_182 : decode cX5_layRest 182 = .ok (.ior, 1) := dc_at dkX5_layRest_b10 5 rfl
theorem dX5_layRest_183 : decode cX5_layRest 183 = .ok (.imul, 1) := dc_at dkX5_layRest_b10 6 rfl
theorem dX5_layRest_184 : decode cX5_layRest 184 = .ok (.iload 7, 2) := dc_at dkX5_layRest_b10 7 rfl
theorem dX5_layRest_186 : decode cX5_layRest 186 = .ok (.iadd, 1) := dc_at dkX5_layRest_b10 8 rfl
theorem dX5_layRest_187 : decode cX5_layRest 187 = .ok (.iaload, 1) := dc_at dkX5_layRest_b10 9 rfl
def drX5_layRest_b11 : List (Nat × (Instr × Nat)) := [(188, (.iadd, 1)), (189, (.invokestatic 165, 3)), (192, (.istore 5, 2)), (194, (.iinc 7 1, 3)), (197, (.goto (-59), 3)), (200, (.aload_n 0, 1)), (201, (.getfield 38, 3)), (204, (.bipush 13, 2)), (206, (.iload_n 3, 1)), (207, (.imul, 1))]
theorem dkX5_layRest_b11 : ((drX5_layRest_b11).all fun r => decide (decode cX5_layRest r.1 = .ok r.2)) = true := by decide +kernel
theorem dX5_layRest_188 : decode cX5_layRest 188 = .ok (.iadd, 1) := dc_at dkX5_layRest_b11 0 rfl
theorem dX5_layRest_189 : decode cX5_layRest 189 = .ok (.invokestatic 165, 3) := dc_at dkX5_layRest_b11 1 rfl
theorem dX5_layRest_192 : decode cX5_layRest 192 = .ok (.istore 5, 2) := dc_at dkX5_layRest_b11 2 rfl
theorem dX5_layRest_194 : decode cX5_layRest 194 = .ok (.iinc 7 1, 3) := dc_at dkX5_layRest_b11 3 rfl
theorem dX5_layRest_197 : decode cX5_layRest 197 = .ok (.goto (-59), 3) := dc_at dkX5_layRest_b11 4 rfl
theorem dX5_layRest_200 : decode cX5_layRest 200 = .ok (.aload_n 0, 1) := dc_at dkX5_layRest_b11 5 rfl
theorem dX5_layRest_201 : decode cX5_layRest 201 = .ok (.getfield 38, 3) := dc_at dkX5_layRest_b11 6 rfl
theorem dX5_layRest_204 : decode cX5_layRest 204 = .ok (.bipush 13, 2) := dc_at dkX5_layRest_b11 7 rfl
theorem dX5_layRest_206 : decode cX5_layRest 206 = .ok (.iload_n 3, 1) := dc_at dkX5_layRest_b11 8 rfl
theorem dX5_layRest_207 : decode cX5_layRest 207 = .ok (.imul, 1) := dc_at dkX5_layRest_b11 9 rfl
def drX5_layRest_b12 : List (Nat × (Instr × Nat)) := [(208, (.iload 4, 2)), (210, (.iadd, 1)), (211, (.iload 5, 2)), (213, (.iastore, 1)), (214, (.iinc 4 1, 3)), (217, (.goto (-147), 3)), (220, (.iinc 3 (-1), 3)), (223, (.goto (-160), 3)), (226, (.return_, 1))]
theorem dkX5_layRest_b12 : ((drX5_layRest_b12).all fun r => decide (decode cX5_layRest r.1 = .ok r.2)) = true := by decide +kernel
theorem dX5_layRest_208 : decode cX5_layRest 208 = .ok (.iload 4, 2) := dc_at dkX5_layRest_b12 0 rfl
theorem dX5_layRest_210 : decode cX5_layRest 210 = .ok (.iadd, 1) := dc_at dkX5_layRest_b12 1 rfl
theorem dX5_layRest_211 : decode cX5_layRest 211 = .ok (.iload 5, 2) := dc_at dkX5_layRest_b12 2 rfl
theorem dX5_layRest_213 : decode cX5_layRest 213 = .ok (.iastore, 1) := dc_at dkX5_layRest_b12 3 rfl
theorem dX5_layRest_214 : decode cX5_layRest 214 = .ok (.iinc 4 1, 3) := dc_at dkX5_layRest_b12 4 rfl
theorem dX5_layRest_217 : decode cX5_layRest 217 = .ok (.goto (-147), 3) := dc_at dkX5_layRest_b12 5 rfl
theorem dX5_layRest_220 : decode cX5_layRest 220 = .ok (.iinc 3 (-1), 3) := dc_at dkX5_layRest_b12 6 rfl
theorem dX5_layRest_223 : decode cX5_layRest 223 = .ok (.goto (-160), 3) := dc_at dkX5_layRest_b12 7 rfl
theorem dX5_layRest_226 : decode cX5_layRest 226 = .ok (.return_, 1) := dc_at dkX5_layRest_b12 8 rfl
