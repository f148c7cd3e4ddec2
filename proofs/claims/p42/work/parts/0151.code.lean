def drX2_roomFor_b0 : List (Nat × (Instr × Nat)) := [(0, (.aload_n 0, 1)), (1, (.bipush 6, 2)), (3, (.invokevirtual 65, 3)), (6, (.aload_n 0, 1)), (7, (.iload_n 1, 1)), (8, (.invokevirtual 124, 3)), (11, (.iadd, 1)), (12, (.istore_n 2, 1)), (13, (.iload_n 2, 1)), (14, (.iconst 1, 1))]
theorem dkX2_roomFor_b0 : ((drX2_roomFor_b0).all fun r => decide (decode cX2_roomFor r.1 = .ok r.2)) = true := by decide +kernel
theorem dX2_roomFor_0 : decode cX2_roomFor 0 = .ok (.aload_n 0, 1) := dc_at dkX2_roomFor_b0 0 rfl
theorem dX2_roomFor_1 : decode cX2_roomFor 1 = .ok (.bipush 6, 2) := dc_at dkX2_roomFor_b0 1 rfl
theorem dX2_roomFor_3 : decode cX2_roomFor 3 = .ok (.invokevirtual 65, 3) := dc_at dkX2_roomFor_b0 2 rfl
theorem dX2_roomFor_6 : decode cX2_roomFor 6 = .ok (.aload_n 0, 1) := dc_at dkX2_roomFor_b0 3 rfl
theorem dX2_roomFor_7 : decode cX2_roomFor 7 = .ok (.iload_n 1, 1) := dc_at dkX2_roomFor_b0 4 rfl
theorem dX2_roomFor_8 : decode cX2_roomFor 8 = .ok (.invokevirtual 124, 3) := dc_at dkX2_roomFor_b0 5 rfl
theorem dX2_roomFor_11 : decode cX2_roomFor 11 = .ok (.iadd, 1) := dc_at dkX2_roomFor_b0 6 rfl
theorem dX2_roomFor_12 : decode cX2_roomFor 12 = .ok (.istore_n 2, 1) := dc_at dkX2_roomFor_b0 7 rfl
theorem dX2_roomFor_13 : decode cX2_roomFor 13 = .ok (.iload_n 2, 1) := dc_at dkX2_roomFor_b0 8 rfl
theorem dX2_roomFor_14 : decode cX2_roomFor 14 = .ok (.iconst 1, 1) := dc_at dkX2_roomFor_b0 9 rfl
def drX2_roomFor_b1 : List (Nat × (Instr × Nat)) := [(15, (.if_icmp .ge 7, 3)), (18, (.iconst 0, 1)), (19, (.goto 10, 3)), (22, (.aload_n 0, 1)), (23, (.iconst 0, 1)), (24, (.invokevirtual 65, 3)), (27, (.iload_n 2, 1)), (28, (.idiv, 1)), (29, (.ireturn, 1))]
theorem dkX2_roomFor_b1 : ((drX2_roomFor_b1).all fun r => decide (decode cX2_roomFor r.1 = .ok r.2)) = true := by decide +kernel
theorem dX2_roomFor_15 : decode cX2_roomFor 15 = .ok (.if_icmp .ge 7, 3) := dc_at dkX2_roomFor_b1 0 rfl
theorem dX2_roomFor_18 : decode cX2_roomFor 18 = .ok (.iconst 0, 1) := dc_at dkX2_roomFor_b1 1 rfl
theorem dX2_roomFor_19 : decode cX2_roomFor 19 = .ok (.goto 10, 3) := dc_at dkX2_roomFor_b1 2 rfl
theorem dX2_roomFor_22 : decode cX2_roomFor 22 = .ok (.aload_n 0, 1) := dc_at dkX2_roomFor_b1 3 rfl
theorem dX2_roomFor_23 : decode cX2_roomFor 23 = .ok (.iconst 0, 1) := dc_at dkX2_roomFor_b1 4 rfl
theorem dX2_roomFor_24 : decode cX2_roomFor 24 = .ok (.invokevirtual 65, 3) := dc_at dkX2_roomFor_b1 5 rfl
theorem dX2_roomFor_27 : decode cX2_roomFor 27 = .ok (.iload_n 2, 1) := dc_at dkX2_roomFor_b1 6 rfl
theorem dX2_roomFor_28 : decode cX2_roomFor 28 = .ok (.idiv, 1) := dc_at dkX2_roomFor_b1 7 rfl
theorem dX2_roomFor_29 : decode cX2_roomFor 29 = .ok (.ireturn, 1) := dc_at dkX2_roomFor_b1 8 rfl
def drX2_streamed_b0 : List (Nat × (Instr × Nat)) := [(0, (.aload_n 0, 1)), (1, (.iload_n 2, 1)), (2, (.aload_n 0, 1)), (3, (.bipush 6, 2)), (5, (.invokevirtual 65, 3)), (8, (.iadd, 1)), (9, (.invokevirtual 102, 3)), (12, (.istore 6, 2)), (14, (.iconst 0, 1)), (15, (.istore 7, 2))]
theorem dkX2_streamed_b0 : ((drX2_streamed_b0).all fun r => decide (decode cX2_streamed r.1 = .ok r.2)) = true := by decide +kernel
theorem dX2_streamed_0 : decode cX2_streamed 0 = .ok (.aload_n 0, 1) := dc_at dkX2_streamed_b0 0 rfl
theorem dX2_streamed_1 : decode cX2_streamed 1 = .ok (.iload_n 2, 1) := dc_at dkX2_streamed_b0 1 rfl
theorem dX2_streamed_2 : decode cX2_streamed 2 = .ok (.aload_n 0, 1) := dc_at dkX2_streamed_b0 2 rfl
theorem dX2_streamed_3 : decode cX2_streamed 3 = .ok (.bipush 6, 2) := dc_at dkX2_streamed_b0 3 rfl
theorem dX2_streamed_5 : decode cX2_streamed 5 = .ok (.invokevirtual 65, 3) := dc_at dkX2_streamed_b0 4 rfl
theorem dX2_streamed_8 : decode cX2_streamed 8 = .ok (.iadd, 1) := dc_at dkX2_streamed_b0 5 rfl
theorem dX2_streamed_9 : decode cX2_streamed 9 = .ok (.invokevirtual 102, 3) := dc_at dkX2_streamed_b0 6 rfl
theorem dX2_streamed_12 : decode cX2_streamed 12 = .ok (.istore 6, 2) := dc_at dkX2_streamed_b0 7 rfl
theorem dX2_streamed_14 : decode cX2_streamed 14 = .ok (.iconst 0, 1) := dc_at dkX2_streamed_b0 8 rfl
theorem dX2_streamed_15 : decode cX2_streamed 15 = .ok (.istore 7, 2) := dc_at dkX2_streamed_b0 9 rfl
def drX2_streamed_b1 : List (Nat × (Instr × Nat)) := [(17, (.iconst 0, 1)), (18, (.iconst 0, 1)), (19, (.iload_n 1, 1)), (20, (.iload_n 3, 1)), (21, (.iload 4, 2)), (23, (.invokestatic 186, 3)), (26, (.istore 8, 2)), (28, (.iconst 0, 1)), (29, (.istore 9, 2)), (31, (.iload 9, 2))]
theorem dkX2_streamed_b1 : ((drX2_streamed_b1).all fun r => decide (decode cX2_streamed r.1 = .ok r.2)) = true := by decide +kernel
theorem dX2_streamed_17 : decode cX2_streamed 17 = .ok (.iconst 0, 1) := dc_at dkX2_streamed_b1 0 rfl
theorem dX2_streamed_18 : decode cX2_streamed 18 = .ok (.iconst 0, 1) := dc_at dkX2_streamed_b1 1 rfl
theorem dX2_streamed_19 : decode cX2_streamed 19 = .ok (.iload_n 1, 1) := dc_at dkX2_streamed_b1 2 rfl
theorem dX2_streamed_20 : decode cX2_streamed 20 = .ok (.iload_n 3, 1) := dc_at dkX2_streamed_b1 3 rfl
theorem dX2_streamed_21 : decode cX2_streamed 21 = .ok (.iload 4, 2) := dc_at dkX2_streamed_b1 4 rfl
theorem dX2_streamed_23 : decode cX2_streamed 23 = .ok (.invokestatic 186, 3) := dc_at dkX2_streamed_b1 5 rfl
theorem dX2_streamed_26 : decode cX2_streamed 26 = .ok (.istore 8, 2) := dc_at dkX2_streamed_b1 6 rfl
theorem dX2_streamed_28 : decode cX2_streamed 28 = .ok (.iconst 0, 1) := dc_at dkX2_streamed_b1 7 rfl
theorem dX2_streamed_29 : decode cX2_streamed 29 = .ok (.istore 9, 2) := dc_at dkX2_streamed_b1 8 rfl
theorem dX2_streamed_31 : decode cX2_streamed 31 = .ok (.iload 9, 2) := dc_at dkX2_streamed_b1 9 rfl
def drX2_streamed_b2 : List (Nat × (Instr × Nat)) := [(33, (.iload_n 1, 1)), (34, (.if_icmp .ge 48, 3)), (37, (.iload 9, 2)), (39, (.iload_n 3, 1)), (40, (.imul, 1)), (41, (.iload 8, 2)), (43, (.if_icmp .le 26, 3)), (46, (.iinc 7 1, 3)), (49, (.iload 8, 2)), (51, (.aload_n 0, 1))]
theorem dkX2_streamed_b2 : ((drX2_streamed_b2).all fun r => decide (decode cX2_streamed r.1 = .ok r.2)) = true := by decide +kernel
theorem dX2_streamed_33 : decode cX2_streamed 33 = .ok (.iload_n 1, 1) := dc_at dkX2_streamed_b2 0 rfl
theorem dX2_streamed_34 : decode cX2_streamed 34 = .ok (.if_icmp .ge 48, 3) := dc_at dkX2_streamed_b2 1 rfl
theorem dX2_streamed_37 : decode cX2_streamed 37 = .ok (.iload 9, 2) := dc_at dkX2_streamed_b2 2 rfl
theorem dX2_streamed_39 : decode cX2_streamed 39 = .ok (.iload_n 3, 1) := dc_at dkX2_streamed_b2 3 rfl
theorem dX2_streamed_40 : decode cX2_streamed 40 = .ok (.imul, 1) := dc_at dkX2_streamed_b2 4 rfl
theorem dX2_streamed_41 : decode cX2_streamed 41 = .ok (.iload 8, 2) := dc_at dkX2_streamed_b2 5 rfl
theorem dX2_streamed_43 : decode cX2_streamed 43 = .ok (.if_icmp .le 26, 3) := dc_at dkX2_streamed_b2 6 rfl
theorem dX2_streamed_46 : decode cX2_streamed 46 = .ok (.iinc 7 1, 3) := dc_at dkX2_streamed_b2 7 rfl
theorem dX2_streamed_49 : decode cX2_streamed 49 = .ok (.iload 8, 2) := dc_at dkX2_streamed_b2 8 rfl
theorem dX2_streamed_51 : decode cX2_streamed 51 = .ok (.aload_n 0, 1) := dc_at dkX2_streamed_b2 9 rfl
def drX2_streamed_b3 : List (Nat × (Instr × Nat)) := [(52, (.bipush 8, 2)), (54, (.invokevirtual 65, 3)), (57, (.iadd, 1)), (58, (.iload 9, 2)), (60, (.iload_n 1, 1)), (61, (.iload_n 3, 1)), (62, (.iload 4, 2)), (64, (.invokestatic 186, 3)), (67, (.istore 8, 2)), (69, (.iload 8, 2))]
theorem dkX2_streamed_b3 : ((drX2_streamed_b3).all fun r => decide (decode cX2_streamed r.1 = .ok r.2)) = true := by decide +kernel
theorem dX2_streamed_52 : decode cX2_streamed 52 = .ok (.bipush 8, 2) := dc_at dkX2_streamed_b3 0 rfl
theorem dX2_streamed_54 : decode cX2_streamed 54 = .ok (.invokevirtual 65, 3) := dc_at dkX2_streamed_b3 1 rfl
theorem dX2_streamed_57 : decode cX2_streamed 57 = .ok (.iadd, 1) := dc_at dkX2_streamed_b3 2 rfl
theorem dX2_streamed_58 : decode cX2_streamed 58 = .ok (.iload 9, 2) := dc_at dkX2_streamed_b3 3 rfl
theorem dX2_streamed_60 : decode cX2_streamed 60 = .ok (.iload_n 1, 1) := dc_at dkX2_streamed_b3 4 rfl
theorem dX2_streamed_61 : decode cX2_streamed 61 = .ok (.iload_n 3, 1) := dc_at dkX2_streamed_b3 5 rfl
theorem dX2_streamed_62 : decode cX2_streamed 62 = .ok (.iload 4, 2) := dc_at dkX2_streamed_b3 6 rfl
theorem dX2_streamed_64 : decode cX2_streamed 64 = .ok (.invokestatic 186, 3) := dc_at dkX2_streamed_b3 7 rfl
theorem dX2_streamed_67 : decode cX2_streamed 67 = .ok (.istore 8, 2) := dc_at dkX2_streamed_b3 8 rfl
theorem dX2_streamed_69 : decode cX2_streamed 69 = .ok (.iload 8, 2) := dc_at dkX2_streamed_b3 9 rfl
def drX2_streamed_b4 : List (Nat × (Instr × Nat)) := [(71, (.iload 6, 2)), (73, (.iadd, 1)), (74, (.istore 8, 2)), (76, (.iinc 9 1, 3)), (79, (.goto (-48), 3)), (82, (.iload 5, 2)), (84, (.ifCond .eq 8, 3)), (87, (.iload 7, 2)), (89, (.goto 5, 3)), (92, (.iload 8, 2))]
theorem dkX2_streamed_b4 : ((drX2_streamed_b4).all fun r => decide (decode cX2_streamed r.1 = .ok r.2)) = true := by decide +kernel
theorem dX2_streamed_71 : decode cX2_streamed 71 = .ok (.iload 6, 2) := dc_at dkX2_streamed_b4 0 rfl
theorem dX2_streamed_73 : decode cX2_streamed 73 = .ok (.iadd, 1) := dc_at dkX2_streamed_b4 1 rfl
theorem dX2_streamed_74 : decode cX2_streamed 74 = .ok (.istore 8, 2) := dc_at dkX2_streamed_b4 2 rfl
theorem dX2_streamed_76 : decode cX2_streamed 76 = .ok (.iinc 9 1, 3) := dc_at dkX2_streamed_b4 3 rfl
theorem dX2_streamed_79 : decode cX2_streamed 79 = .ok (.goto (-48), 3) := dc_at dkX2_streamed_b4 4 rfl
theorem dX2_streamed_82 : decode cX2_streamed 82 = .ok (.iload 5, 2) := dc_at dkX2_streamed_b4 5 rfl
theorem dX2_streamed_84 : decode cX2_streamed 84 = .ok (.ifCond .eq 8, 3) := dc_at dkX2_streamed_b4 6 rfl
theorem dX2_streamed_87 : decode cX2_streamed 87 = .ok (.iload 7, 2) := dc_at dkX2_streamed_b4 7 rfl
theorem dX2_streamed_89 : decode cX2_streamed 89 = .ok (.goto 5, 3) := dc_at dkX2_streamed_b4 8 rfl
theorem dX2_streamed_92 : decode cX2_streamed 92 = .ok (.iload 8, 2) := dc_at dkX2_streamed_b4 9 rfl
def drX2_streamed_b5 : List (Nat × (Instr × Nat)) := [(94, (.ireturn, 1))]
theorem dkX2_streamed_b5 : ((drX2_streamed_b5).all fun r => decide (decode cX2_streamed r.1 = .ok r.2)) = true := by decide +kernel
theorem dX2_streamed_94 : decode cX2_streamed 94 = .ok (.ireturn, 1) := dc_at dkX2_streamed_b5 0 rfl
def drX2_timeWhenFilled_b0 : List (Nat × (Instr × Nat)) := [(0, (.iload_n 1, 1)), (1, (.iload 4, 2)), (3, (.iadd, 1)), (4, (.iload_n 2, 1)), (5, (.invokestatic 87, 3)), (8, (.iconst 1, 1)), (9, (.isub, 1)), (10, (.istore 5, 2)), (12, (.iload_n 0, 1)), (13, (.iload 5, 2))]
theorem dkX2_timeWhenFilled_b0 : ((drX2_timeWhenFilled_b0).all fun r => decide (decode cX2_timeWhenFilled r.1 = .ok r.2)) = true := by decide +kernel
theorem dX2_timeWhenFilled_0 : decode cX2_timeWhenFilled 0 = .ok (.iload_n 1, 1) := dc_at dkX2_timeWhenFilled_b0 0 rfl
theorem dX2_timeWhenFilled_1 : decode cX2_timeWhenFilled 1 = .ok (.iload 4, 2) := dc_at dkX2_timeWhenFilled_b0 1 rfl
theorem dX2_timeWhenFilled_3 : decode cX2_timeWhenFilled 3 = .ok (.iadd, 1) := dc_at dkX2_timeWhenFilled_b0 2 rfl
theorem dX2_timeWhenFilled_4 : decode cX2_timeWhenFilled 4 = .ok (.iload_n 2, 1) := dc_at dkX2_timeWhenFilled_b0 3 rfl
theorem dX2_timeWhenFilled_5 : decode cX2_timeWhenFilled 5 = .ok (.invokestatic 87, 3) := dc_at dkX2_timeWhenFilled_b0 4 rfl
theorem dX2_timeWhenFilled_8 : decode cX2_timeWhenFilled 8 = .ok (.iconst 1, 1) := dc_at dkX2_timeWhenFilled_b0 5 rfl
theorem dX2_timeWhenFilled_9 : decode cX2_timeWhenFilled 9 = .ok (.isub, 1) := dc_at dkX2_timeWhenFilled_b0 6 rfl
theorem dX2_timeWhenFilled_10 : decode cX2_timeWhenFilled 10 = .ok (.istore 5, 2) := dc_at dkX2_timeWhenFilled_b0 7 rfl
theorem dX2_timeWhenFilled_12 : decode cX2_timeWhenFilled 12 = .ok (.iload_n 0, 1) := dc_at dkX2_timeWhenFilled_b0 8 rfl
theorem dX2_timeWhenFilled_13 : decode cX2_timeWhenFilled 13 = .ok (.iload 5, 2) := dc_at dkX2_timeWhenFilled_b0 9 rfl
def drX2_timeWhenFilled_b1 : List (Nat × (Instr × Nat)) := [(15, (.iload_n 3, 1)), (16, (.imul, 1)), (17, (.invokestatic 190, 3)), (20, (.ireturn, 1))]
theorem dkX2_timeWhenFilled_b1 : ((drX2_timeWhenFilled_b1).all fun r => decide (decode cX2_timeWhenFilled r.1 = .ok r.2)) = true := by decide +kernel
theorem dX2_timeWhenFilled_15 : decode cX2_timeWhenFilled 15 = .ok (.iload_n 3, 1) := dc_at dkX2_timeWhenFilled_b1 0 rfl
theorem dX2_timeWhenFilled_16 : decode cX2_timeWhenFilled 16 = .ok (.imul, 1) := dc_at dkX2_timeWhenFilled_b1 1 rfl
theorem dX2_timeWhenFilled_17 : decode cX2_timeWhenFilled 17 = .ok (.invokestatic 190, 3) := dc_at dkX2_timeWhenFilled_b1 2 rfl
theorem dX2_timeWhenFilled_20 : decode cX2_timeWhenFilled 20 = .ok (.ireturn, 1) := dc_at dkX2_timeWhenFilled_b1 3 rfl
def drX2_addSeen_b0 : List (Nat × (Instr × Nat)) := [(0, (.aload_n 0, 1)), (1, (.getfield 30, 3)), (4, (.aload_n 0, 1)), (5, (.getfield 62, 3)), (8, (.iload_n 1, 1)), (9, (.invokestatic 139, 3)), (12, (.aload_n 0, 1)), (13, (.getfield 33, 3)), (16, (.aload_n 0, 1)), (17, (.getfield 62, 3))]
theorem dkX2_addSeen_b0 : ((drX2_addSeen_b0).all fun r => decide (decode cX2_addSeen r.1 = .ok r.2)) = true := by decide +kernel
theorem dX2_addSeen_0 : decode cX2_addSeen 0 = .ok (.aload_n 0, 1) := dc_at dkX2_addSeen_b0 0 rfl
theorem dX2_addSeen_1 : decode cX2_addSeen 1 = .ok (.getfield 30, 3) := dc_at dkX2_addSeen_b0 1 rfl
theorem dX2_addSeen_4 : decode cX2_addSeen 4 = .ok (.aload_n 0, 1) := dc_at dkX2_addSeen_b0 2 rfl
theorem dX2_addSeen_5 : decode cX2_addSeen 5 = .ok (.getfield 62, 3) := dc_at dkX2_addSeen_b0 3 rfl
theorem dX2_addSeen_8 : decode cX2_addSeen 8 = .ok (.iload_n 1, 1) := dc_at dkX2_addSeen_b0 4 rfl
theorem dX2_addSeen_9 : decode cX2_addSeen 9 = .ok (.invokestatic 139, 3) := dc_at dkX2_addSeen_b0 5 rfl
theorem dX2_addSeen_12 : decode cX2_addSeen 12 = .ok (.aload_n 0, 1) := dc_at dkX2_addSeen_b0 6 rfl
theorem dX2_addSeen_13 : decode cX2_addSeen 13 = .ok (.getfield 33, 3) := dc_at dkX2_addSeen_b0 7 rfl
theorem dX2_addSeen_16 : decode cX2_addSeen 16 = .ok (.aload_n 0, 1) := dc_at dkX2_addSeen_b0 8 rfl
theorem dX2_addSeen_17 : decode cX2_addSeen 17 = .ok (.getfield 62, 3) := dc_at dkX2_addSeen_b0 9 rfl
def drX2_addSeen_b1 : List (Nat × (Instr × Nat)) := [(20, (.iload_n 2, 1)), (21, (.invokestatic 139, 3)), (24, (.aload_n 0, 1)), (25, (.dup, 1)), (26, (.getfield 62, 3)), (29, (.iconst 1, 1)), (30, (.iadd, 1)), (31, (.putfield 62, 3)), (34, (.aload_n 0, 1)), (35, (.getfield 62, 3))]
theorem dkX2_addSeen_b1 : ((drX2_addSeen_b1).all fun r => decide (decode cX2_addSeen r.1 = .ok r.2)) = true := by decide +kernel
theorem dX2_addSeen_20 : decode cX2_addSeen 20 = .ok (.iload_n 2, 1) := dc_at dkX2_addSeen_b1 0 rfl
theorem dX2_addSeen_21 : decode cX2_addSeen 21 = .ok (.invokestatic 139, 3) := dc_at dkX2_addSeen_b1 1 rfl
theorem dX2_addSeen_24 : decode cX2_addSeen 24 = .ok (.aload_n 0, 1) := dc_at dkX2_addSeen_b1 2 rfl
theorem dX2_addSeen_25 : decode cX2_addSeen 25 = .ok (.dup, 1) := dc_at dkX2_addSeen_b1 3 rfl
theorem dX2_addSeen_26 : decode cX2_addSeen 26 = .ok (.getfield 62, 3) := dc_at dkX2_addSeen_b1 4 rfl
theorem dX2_addSeen_29 : decode cX2_addSeen 29 = .ok (.iconst 1, 1) := dc_at dkX2_addSeen_b1 5 rfl
theorem dX2_addSeen_30 : decode cX2_addSeen 30 = .ok (.iadd, 1) := dc_at dkX2_addSeen_b1 6 rfl
theorem dX2_addSeen_31 : decode cX2_addSeen 31 = .ok (.putfield 62, 3) := dc_at dkX2_addSeen_b1 7 rfl
theorem dX2_addSeen_34 : decode cX2_addSeen 34 = .ok (.aload_n 0, 1) := dc_at dkX2_addSeen_b1 8 rfl
theorem dX2_addSeen_35 : decode cX2_addSeen 35 = .ok (.getfield 62, 3) := dc_at dkX2_addSeen_b1 9 rfl
def drX2_addSeen_b2 : List (Nat × (Instr × Nat)) := [(38, (.ireturn, 1))]
theorem dkX2_addSeen_b2 : ((drX2_addSeen_b2).all fun r => decide (decode cX2_addSeen r.1 = .ok r.2)) = true := by decide +kernel
theorem dX2_addSeen_38 : decode cX2_addSeen 38 = .ok (.ireturn, 1) := dc_at dkX2_addSeen_b2 0 rfl
def drX2_canBe_b0 : List (Nat × (Instr × Nat)) := [(0, (.iconst 0, 1)), (1, (.istore_n 3, 1)), (2, (.iload_n 3, 1)), (3, (.aload_n 0, 1)), (4, (.getfield 62, 3)), (7, (.if_icmp .ge 57, 3)), (10, (.aload_n 0, 1)), (11, (.getfield 30, 3)), (14, (.iload_n 3, 1)), (15, (.invokestatic 114, 3))]
theorem dkX2_canBe_b0 : ((drX2_canBe_b0).all fun r => decide (decode cX2_canBe r.1 = .ok r.2)) = true := by decide +kernel
theorem dX2_canBe_0 : decode cX2_canBe 0 = .ok (.iconst 0, 1) := dc_at dkX2_canBe_b0 0 rfl
theorem dX2_canBe_1 : decode cX2_canBe 1 = .ok (.istore_n 3, 1) := dc_at dkX2_canBe_b0 1 rfl
theorem dX2_canBe_2 : decode cX2_canBe 2 = .ok (.iload_n 3, 1) := dc_at dkX2_canBe_b0 2 rfl
theorem dX2_canBe_3 : decode cX2_canBe 3 = .ok (.aload_n 0, 1) := dc_at dkX2_canBe_b0 3 rfl
theorem dX2_canBe_4 : decode cX2_canBe 4 = .ok (.getfield 62, 3) := dc_at dkX2_canBe_b0 4 rfl
theorem dX2_canBe_7 : decode cX2_canBe 7 = .ok (.if_icmp .ge 57, 3) := dc_at dkX2_canBe_b0 5 rfl
theorem dX2_canBe_10 : decode cX2_canBe 10 = .ok (.aload_n 0, 1) := dc_at dkX2_canBe_b0 6 rfl
theorem dX2_canBe_11 : decode cX2_canBe 11 = .ok (.getfield 30, 3) := dc_at dkX2_canBe_b0 7 rfl
theorem dX2_canBe_14 : decode cX2_canBe 14 = .ok (.iload_n 3, 1) := dc_at dkX2_canBe_b0 8 rfl
theorem dX2_canBe_15 : decode cX2_canBe 15 = .ok (.invokestatic 114, 3) := dc_at dkX2_canBe_b0 9 rfl
def drX2_canBe_b1 : List (Nat × (Instr × Nat)) := [(18, (.istore 4, 2)), (20, (.aload_n 0, 1)), (21, (.getfield 33, 3)), (24, (.iload_n 3, 1)), (25, (.invokestatic 114, 3)), (28, (.istore 5, 2)), (30, (.iload 5, 2)), (32, (.iload 4, 2)), (34, (.iload_n 1, 1)), (35, (.iload_n 2, 1))]
theorem dkX2_canBe_b1 : ((drX2_canBe_b1).all fun r => decide (decode cX2_canBe r.1 = .ok r.2)) = true := by decide +kernel
theorem dX2_canBe_18 : decode cX2_canBe 18 = .ok (.istore 4, 2) := dc_at dkX2_canBe_b1 0 rfl
theorem dX2_canBe_20 : decode cX2_canBe 20 = .ok (.aload_n 0, 1) := dc_at dkX2_canBe_b1 1 rfl
theorem dX2_canBe_21 : decode cX2_canBe 21 = .ok (.getfield 33, 3) := dc_at dkX2_canBe_b1 2 rfl
theorem dX2_canBe_24 : decode cX2_canBe 24 = .ok (.iload_n 3, 1) := dc_at dkX2_canBe_b1 3 rfl
theorem dX2_canBe_25 : decode cX2_canBe 25 = .ok (.invokestatic 114, 3) := dc_at dkX2_canBe_b1 4 rfl
theorem dX2_canBe_28 : decode cX2_canBe 28 = .ok (.istore 5, 2) := dc_at dkX2_canBe_b1 5 rfl
theorem dX2_canBe_30 : decode cX2_canBe 30 = .ok (.iload 5, 2) := dc_at dkX2_canBe_b1 6 rfl
theorem dX2_canBe_32 : decode cX2_canBe 32 = .ok (.iload 4, 2) := dc_at dkX2_canBe_b1 7 rfl
theorem dX2_canBe_34 : decode cX2_canBe 34 = .ok (.iload_n 1, 1) := dc_at dkX2_canBe_b1 8 rfl
theorem dX2_canBe_35 : decode cX2_canBe 35 = .ok (.iload_n 2, 1) := dc_at dkX2_canBe_b1 9 rfl
def drX2_canBe_b2 : List (Nat × (Instr × Nat)) := [(36, (.invokestatic 73, 3)), (39, (.if_icmp .lt 17, 3)), (42, (.iload 5, 2)), (44, (.iload 4, 2)), (46, (.iconst 1, 1)), (47, (.iadd, 1)), (48, (.iload_n 1, 1)), (49, (.iload_n 2, 1)), (50, (.invokestatic 73, 3)), (53, (.if_icmp .lt 5, 3))]
theorem dkX2_canBe_b2 : ((drX2_canBe_b2).all fun r => decide (decode cX2_canBe r.1 = .ok r.2)) = true := by decide +kernel
theorem dX2_canBe_36 : decode cX2_canBe 36 = .ok (.invokestatic 73, 3) := dc_at dkX2_canBe_b2 0 rfl
theorem dX2_canBe_39 : decode cX2_canBe 39 = .ok (.if_icmp .lt 17, 3) := dc_at dkX2_canBe_b2 1 rfl
theorem dX2_canBe_42 : decode cX2_canBe 42 = .ok (.iload 5, 2) := dc_at dkX2_canBe_b2 2 rfl
theorem dX2_canBe_44 : decode cX2_canBe 44 = .ok (.iload 4, 2) := dc_at dkX2_canBe_b2 3 rfl
theorem dX2_canBe_46 : decode cX2_canBe 46 = .ok (.iconst 1, 1) := dc_at dkX2_canBe_b2 4 rfl
theorem dX2_canBe_47 : decode cX2_canBe 47 = .ok (.iadd, 1) := dc_at dkX2_canBe_b2 5 rfl
theorem dX2_canBe_48 : decode cX2_canBe 48 = .ok (.iload_n 1, 1) := dc_at dkX2_canBe_b2 6 rfl
theorem dX2_canBe_49 : decode cX2_canBe 49 = .ok (.iload_n 2, 1) := dc_at dkX2_canBe_b2 7 rfl
theorem dX2_canBe_50 : decode cX2_canBe 50 = .ok (.invokestatic 73, 3) := dc_at dkX2_canBe_b2 8 rfl
theorem dX2_canBe_53 : decode cX2_canBe 53 = .ok (.if_icmp .lt 5, 3) := dc_at dkX2_canBe_b2 9 rfl
def drX2_canBe_b3 : List (Nat × (Instr × Nat)) := [(56, (.iconst 0, 1)), (57, (.ireturn, 1)), (58, (.iinc 3 1, 3)), (61, (.goto (-59), 3)), (64, (.iconst 1, 1)), (65, (.ireturn, 1))]
theorem dkX2_canBe_b3 : ((drX2_canBe_b3).all fun r => decide (decode cX2_canBe r.1 = .ok r.2)) = true := by decide +kernel
theorem dX2_canBe_56 : decode cX2_canBe 56 = .ok (.iconst 0, 1) := dc_at dkX2_canBe_b3 0 rfl
theorem dX2_canBe_57 : decode cX2_canBe 57 = .ok (.ireturn, 1) := dc_at dkX2_canBe_b3 1 rfl
theorem dX2_canBe_58 : decode cX2_canBe 58 = .ok (.iinc 3 1, 3) := dc_at dkX2_canBe_b3 2 rfl
theorem dX2_canBe_61 : decode cX2_canBe 61 = .ok (.goto (-59), 3) := dc_at dkX2_canBe_b3 3 rfl
theorem dX2_canBe_64 : decode cX2_canBe 64 = .ok (.iconst 1, 1) := dc_at dkX2_canBe_b3 4 rfl
theorem dX2_canBe_65 : decode cX2_canBe 65 = .ok (.ireturn, 1) := dc_at dkX2_canBe_b3 5 rfl
def drX3_init_b0 : List (Nat × (Instr × Nat)) := [(0, (.aload_n 0, 1)), (1, (.invokespecial 3, 3)), (4, (.aload_n 0, 1)), (5, (.sipush 400, 3)), (8, (.newarray .byte, 2)), (10, (.putfield 9, 3)), (13, (.aload_n 0, 1)), (14, (.new 15, 3)), (17, (.dup, 1)), (18, (.invokespecial 17, 3))]
theorem dkX3_init_b0 : ((drX3_init_b0).all fun r => decide (decode cX3_init r.1 = .ok r.2)) = true := by decide +kernel
theorem dX3_init_0 : decode cX3_init 0 = .ok (.aload_n 0, 1) := dc_at dkX3_init_b0 0 rfl
theorem dX3_init_1 : decode cX3_init 1 = .ok (.invokespecial 3, 3) := dc_at dkX3_init_b0 1 rfl
theorem dX3_init_4 : decode cX3_init 4 = .ok (.aload_n 0, 1) := dc_at dkX3_init_b0 2 rfl
theorem dX3_init_5 : decode cX3_init 5 = .ok (.sipush 400, 3) := dc_at dkX3_init_b0 3 rfl
theorem dX3_init_8 : decode cX3_init 8 = .ok (.newarray .byte, 2) := dc_at dkX3_init_b0 4 rfl
theorem dX3_init_10 : decode cX3_init 10 = .ok (.putfield 9, 3) := dc_at dkX3_init_b0 5 rfl
theorem dX3_init_13 : decode cX3_init 13 = .ok (.aload_n 0, 1) := dc_at dkX3_init_b0 6 rfl
theorem dX3_init_14 : decode cX3_init 14 = .ok (.new 15, 3) := dc_at dkX3_init_b0 7 rfl
theorem dX3_init_17 : decode cX3_init 17 = .ok (.dup, 1) := dc_at dkX3_init_b0 8 rfl
theorem dX3_init_18 : decode cX3_init 18 = .ok (.invokespecial 17, 3) := dc_at dkX3_init_b0 9 rfl
def drX3_init_b1 : List (Nat × (Instr × Nat)) := [(21, (.putfield 18, 3)), (24, (.return_, 1))]
theorem dkX3_init_b1 : ((drX3_init_b1).all fun r => decide (decode cX3_init r.1 = .ok r.2)) = true := by decide +kernel
theorem dX3_init_21 : decode cX3_init 21 = .ok (.putfield 18, 3) := dc_at dkX3_init_b1 0 rfl
theorem dX3_init_24 : decode cX3_init 24 = .ok (.return_, 1) := dc_at dkX3_init_b1 1 rfl
def drX3_addLetter_b0 : List (Nat × (Instr × Nat)) := [(0, (.aload_n 0, 1)), (1, (.getfield 22, 3)), (4, (.ifCond .lt 25, 3)), (7, (.aload_n 0, 1)), (8, (.getfield 22, 3)), (11, (.aload_n 0, 1)), (12, (.getfield 9, 3)), (15, (.arraylength, 1)), (16, (.if_icmp .ge 13, 3)), (19, (.aload_n 0, 1))]
theorem dkX3_addLetter_b0 : ((drX3_addLetter_b0).all fun r => decide (decode cX3_addLetter r.1 = .ok r.2)) = true := by decide +kernel
theorem dX3_addLetter_0 : decode cX3_addLetter 0 = .ok (.aload_n 0, 1) := dc_at dkX3_addLetter_b0 0 rfl
theorem dX3_addLetter_1 : decode cX3_addLetter 1 = .ok (.getfield 22, 3) := dc_at dkX3_addLetter_b0 1 rfl
theorem dX3_addLetter_4 : decode cX3_addLetter 4 = .ok (.ifCond .lt 25, 3) := dc_at dkX3_addLetter_b0 2 rfl
theorem dX3_addLetter_7 : decode cX3_addLetter 7 = .ok (.aload_n 0, 1) := dc_at dkX3_addLetter_b0 3 rfl
theorem dX3_addLetter_8 : decode cX3_addLetter 8 = .ok (.getfield 22, 3) := dc_at dkX3_addLetter_b0 4 rfl
theorem dX3_addLetter_11 : decode cX3_addLetter 11 = .ok (.aload_n 0, 1) := dc_at dkX3_addLetter_b0 5 rfl
theorem dX3_addLetter_12 : decode cX3_addLetter 12 = .ok (.getfield 9, 3) := dc_at dkX3_addLetter_b0 6 rfl
theorem dX3_addLetter_15 : decode cX3_addLetter 15 = .ok (.arraylength, 1) := dc_at dkX3_addLetter_b0 7 rfl
theorem dX3_addLetter_16 : decode cX3_addLetter 16 = .ok (.if_icmp .ge 13, 3) := dc_at dkX3_addLetter_b0 8 rfl
theorem dX3_addLetter_19 : decode cX3_addLetter 19 = .ok (.aload_n 0, 1) := dc_at dkX3_addLetter_b0 9 rfl
def drX3_addLetter_b1 : List (Nat × (Instr × Nat)) := [(20, (.getfield 9, 3)), (23, (.aload_n 0, 1)), (24, (.getfield 22, 3)), (27, (.iload_n 1, 1)), (28, (.bastore, 1)), (29, (.aload_n 0, 1)), (30, (.dup, 1)), (31, (.getfield 22, 3)), (34, (.iconst 1, 1)), (35, (.iadd, 1))]
theorem dkX3_addLetter_b1 : ((drX3_addLetter_b1).all fun r => decide (decode cX3_addLetter r.1 = .ok r.2)) = true := by decide +kernel
theorem dX3_addLetter_20 : decode cX3_addLetter 20 = .ok (.getfield 9, 3) := dc_at dkX3_addLetter_b1 0 rfl
theorem dX3_addLetter_23 : decode cX3_addLetter 23 = .ok (.aload_n 0, 1) := dc_at dkX3_addLetter_b1 1 rfl
theorem dX3_addLetter_24 : decode cX3_addLetter 24 = .ok (.getfield 22, 3) := dc_at dkX3_addLetter_b1 2 rfl
theorem dX3_addLetter_27 : decode cX3_addLetter 27 = .ok (.iload_n 1, 1) := dc_at dkX3_addLetter_b1 3 rfl
theorem dX3_addLetter_28 : decode cX3_addLetter 28 = .ok (.bastore, 1) := dc_at dkX3_addLetter_b1 4 rfl
theorem dX3_addLetter_29 : decode cX3_addLetter 29 = .ok (.aload_n 0, 1) := dc_at dkX3_addLetter_b1 5 rfl
theorem dX3_addLetter_30 : decode cX3_addLetter 30 = .ok (.dup, 1) := dc_at dkX3_addLetter_b1 6 rfl
theorem dX3_addLetter_31 : decode cX3_addLetter 31 = .ok (.getfield 22, 3) := dc_at dkX3_addLetter_b1 7 rfl
theorem dX3_addLetter_34 : decode cX3_addLetter 34 = .ok (.iconst 1, 1) := dc_at dkX3_addLetter_b1 8 rfl
theorem dX3_addLetter_35 : decode cX3_addLetter 35 = .ok (.iadd, 1) := dc_at dkX3_addLetter_b1 9 rfl
def drX3_addLetter_b2 : List (Nat × (Instr × Nat)) := [(36, (.putfield 22, 3)), (39, (.return_, 1))]
theorem dkX3_addLetter_b2 : ((drX3_addLetter_b2).all fun r => decide (decode cX3_addLetter r.1 = .ok r.2)) = true := by decide +kernel
theorem dX3_addLetter_36 : decode cX3_addLetter 36 = .ok (.putfield 22, 3) := dc_at dkX3_addLetter_b2 0 rfl
theorem dX3_addLetter_39 : decode cX3_addLetter 39 = .ok (.return_, 1) := dc_at dkX3_addLetter_b2 1 rfl
def drX3_takeAll_b0 : List (Nat × (Instr × Nat)) := [(0, (.aload_n 0, 1)), (1, (.getfield 18, 3)), (4, (.invokevirtual 26, 3)), (7, (.aload_n 0, 1)), (8, (.iconst 0, 1)), (9, (.putfield 29, 3)), (12, (.aload_n 0, 1)), (13, (.iconst 0, 1)), (14, (.putfield 32, 3)), (17, (.aload_n 0, 1))]
theorem dkX3_takeAll_b0 : ((drX3_takeAll_b0).all fun r => decide (decode cX3_takeAll r.1 = .ok r.2)) = true := by decide +kernel
theorem dX3_takeAll_0 : decode cX3_takeAll 0 = .ok (.aload_n 0, 1) := dc_at dkX3_takeAll_b0 0 rfl
theorem dX3_takeAll_1 : decode cX3_takeAll 1 = .ok (.getfield 18, 3) := dc_at dkX3_takeAll_b0 1 rfl
theorem dX3_takeAll_4 : decode cX3_takeAll 4 = .ok (.invokevirtual 26, 3) := dc_at dkX3_takeAll_b0 2 rfl
theorem dX3_takeAll_7 : decode cX3_takeAll 7 = .ok (.aload_n 0, 1) := dc_at dkX3_takeAll_b0 3 rfl
theorem dX3_takeAll_8 : decode cX3_takeAll 8 = .ok (.iconst 0, 1) := dc_at dkX3_takeAll_b0 4 rfl
theorem dX3_takeAll_9 : decode cX3_takeAll 9 = .ok (.putfield 29, 3) := dc_at dkX3_takeAll_b0 5 rfl
theorem dX3_takeAll_12 : decode cX3_takeAll 12 = .ok (.aload_n 0, 1) := dc_at dkX3_takeAll_b0 6 rfl
theorem dX3_takeAll_13 : decode cX3_takeAll 13 = .ok (.iconst 0, 1) := dc_at dkX3_takeAll_b0 7 rfl
theorem dX3_takeAll_14 : decode cX3_takeAll 14 = .ok (.putfield 32, 3) := dc_at dkX3_takeAll_b0 8 rfl
theorem dX3_takeAll_17 : decode cX3_takeAll 17 = .ok (.aload_n 0, 1) := dc_at dkX3_takeAll_b0 9 rfl
def drX3_takeAll_b1 : List (Nat × (Instr × Nat)) := [(18, (.iconst 0, 1)), (19, (.putfield 35, 3)), (22, (.aload_n 0, 1)), (23, (.iconst 0, 1)), (24, (.putfield 38, 3)), (27, (.iconst 0, 1)), (28, (.istore_n 1, 1)), (29, (.aload_n 0, 1)), (30, (.invokevirtual 41, 3)), (33, (.aload_n 0, 1))]
theorem dkX3_takeAll_b1 : ((drX3_takeAll_b1).all fun r => decide (decode cX3_takeAll r.1 = .ok r.2)) = true := by decide +kernel
theorem dX3_takeAll_18 : decode cX3_takeAll 18 = .ok (.iconst 0, 1) := dc_at dkX3_takeAll_b1 0 rfl
theorem dX3_takeAll_19 : decode cX3_takeAll 19 = .ok (.putfield 35, 3) := dc_at dkX3_takeAll_b1 1 rfl
theorem dX3_takeAll_22 : decode cX3_takeAll 22 = .ok (.aload_n 0, 1) := dc_at dkX3_takeAll_b1 2 rfl
theorem dX3_takeAll_23 : decode cX3_takeAll 23 = .ok (.iconst 0, 1) := dc_at dkX3_takeAll_b1 3 rfl
theorem dX3_takeAll_24 : decode cX3_takeAll 24 = .ok (.putfield 38, 3) := dc_at dkX3_takeAll_b1 4 rfl
theorem dX3_takeAll_27 : decode cX3_takeAll 27 = .ok (.iconst 0, 1) := dc_at dkX3_takeAll_b1 5 rfl
theorem dX3_takeAll_28 : decode cX3_takeAll 28 = .ok (.istore_n 1, 1) := dc_at dkX3_takeAll_b1 6 rfl
theorem dX3_takeAll_29 : decode cX3_takeAll 29 = .ok (.aload_n 0, 1) := dc_at dkX3_takeAll_b1 7 rfl
theorem dX3_takeAll_30 : decode cX3_takeAll 30 = .ok (.invokevirtual 41, 3) := dc_at dkX3_takeAll_b1 8 rfl
theorem dX3_takeAll_33 : decode cX3_takeAll 33 = .ok (.aload_n 0, 1) := dc_at dkX3_takeAll_b1 9 rfl
def drX3_takeAll_b2 : List (Nat × (Instr × Nat)) := [(34, (.getfield 44, 3)), (37, (.ifCond .eq 27, 3)), (40, (.aload_n 0, 1)), (41, (.getfield 35, 3)), (44, (.ifCond .ne 20, 3)), (47, (.iload_n 1, 1)), (48, (.sipush 400, 3)), (51, (.if_icmp .ge 13, 3)), (54, (.aload_n 0, 1)), (55, (.invokevirtual 47, 3))]
theorem dkX3_takeAll_b2 : ((drX3_takeAll_b2).all fun r => decide (decode cX3_takeAll r.1 = .ok r.2)) = true := by decide +kernel
theorem dX3_takeAll_34 : decode cX3_takeAll 34 = .ok (.getfield 44, 3) := dc_at dkX3_takeAll_b2 0 rfl
theorem dX3_takeAll_37 : decode cX3_takeAll 37 = .ok (.ifCond .eq 27, 3) := dc_at dkX3_takeAll_b2 1 rfl
theorem dX3_takeAll_40 : decode cX3_takeAll 40 = .ok (.aload_n 0, 1) := dc_at dkX3_takeAll_b2 2 rfl
theorem dX3_takeAll_41 : decode cX3_takeAll 41 = .ok (.getfield 35, 3) := dc_at dkX3_takeAll_b2 3 rfl
theorem dX3_takeAll_44 : decode cX3_takeAll 44 = .ok (.ifCond .ne 20, 3) := dc_at dkX3_takeAll_b2 4 rfl
theorem dX3_takeAll_47 : decode cX3_takeAll 47 = .ok (.iload_n 1, 1) := dc_at dkX3_takeAll_b2 5 rfl
theorem dX3_takeAll_48 : decode cX3_takeAll 48 = .ok (.sipush 400, 3) := dc_at dkX3_takeAll_b2 6 rfl
theorem dX3_takeAll_51 : decode cX3_takeAll 51 = .ok (.if_icmp .ge 13, 3) := dc_at dkX3_takeAll_b2 7 rfl
theorem dX3_takeAll_54 : decode cX3_takeAll 54 = .ok (.aload_n 0, 1) := dc_at dkX3_takeAll_b2 8 rfl
theorem dX3_takeAll_55 : decode cX3_takeAll 55 = .ok (.invokevirtual 47, 3) := dc_at dkX3_takeAll_b2 9 rfl
def drX3_takeAll_b3 : List (Nat × (Instr × Nat)) := [(58, (.iinc 1 1, 3)), (61, (.goto (-28), 3)), (64, (.aload_n 0, 1)), (65, (.getfield 18, 3)), (68, (.invokevirtual 50, 3)), (71, (.aload_n 0, 1)), (72, (.getfield 18, 3)), (75, (.iconst 0, 1)), (76, (.putfield 53, 3)), (79, (.aload_n 0, 1))]
theorem dkX3_takeAll_b3 : ((drX3_takeAll_b3).all fun r => decide (decode cX3_takeAll r.1 = .ok r.2)) = true := by decide +kernel
theorem dX3_takeAll_58 : decode cX3_takeAll 58 = .ok (.iinc 1 1, 3) := dc_at dkX3_takeAll_b3 0 rfl
theorem dX3_takeAll_61 : decode cX3_takeAll 61 = .ok (.goto (-28), 3) := dc_at dkX3_takeAll_b3 1 rfl
theorem dX3_takeAll_64 : decode cX3_takeAll 64 = .ok (.aload_n 0, 1) := dc_at dkX3_takeAll_b3 2 rfl
theorem dX3_takeAll_65 : decode cX3_takeAll 65 = .ok (.getfield 18, 3) := dc_at dkX3_takeAll_b3 3 rfl
theorem dX3_takeAll_68 : decode cX3_takeAll 68 = .ok (.invokevirtual 50, 3) := dc_at dkX3_takeAll_b3 4 rfl
theorem dX3_takeAll_71 : decode cX3_takeAll 71 = .ok (.aload_n 0, 1) := dc_at dkX3_takeAll_b3 5 rfl
theorem dX3_takeAll_72 : decode cX3_takeAll 72 = .ok (.getfield 18, 3) := dc_at dkX3_takeAll_b3 6 rfl
theorem dX3_takeAll_75 : decode cX3_takeAll 75 = .ok (.iconst 0, 1) := dc_at dkX3_takeAll_b3 7 rfl
theorem dX3_takeAll_76 : decode cX3_takeAll 76 = .ok (.putfield 53, 3) := dc_at dkX3_takeAll_b3 8 rfl
theorem dX3_takeAll_79 : decode cX3_takeAll 79 = .ok (.aload_n 0, 1) := dc_at dkX3_takeAll_b3 9 rfl
def drX3_takeAll_b4 : List (Nat × (Instr × Nat)) := [(80, (.getfield 18, 3)), (83, (.aload_n 0, 1)), (84, (.getfield 18, 3)), (87, (.getfield 56, 3)), (90, (.iconst 1, 1)), (91, (.isub, 1)), (92, (.invokevirtual 59, 3)), (95, (.aload_n 0, 1)), (96, (.getfield 18, 3)), (99, (.iconst 0, 1))]
theorem dkX3_takeAll_b4 : ((drX3_takeAll_b4).all fun r => decide (decode cX3_takeAll r.1 = .ok r.2)) = true := by decide +kernel
theorem dX3_takeAll_80 : decode cX3_takeAll 80 = .ok (.getfield 18, 3) := dc_at dkX3_takeAll_b4 0 rfl
theorem dX3_takeAll_83 : decode cX3_takeAll 83 = .ok (.aload_n 0, 1) := dc_at dkX3_takeAll_b4 1 rfl
theorem dX3_takeAll_84 : decode cX3_takeAll 84 = .ok (.getfield 18, 3) := dc_at dkX3_takeAll_b4 2 rfl
theorem dX3_takeAll_87 : decode cX3_takeAll 87 = .ok (.getfield 56, 3) := dc_at dkX3_takeAll_b4 3 rfl
theorem dX3_takeAll_90 : decode cX3_takeAll 90 = .ok (.iconst 1, 1) := dc_at dkX3_takeAll_b4 4 rfl
theorem dX3_takeAll_91 : decode cX3_takeAll 91 = .ok (.isub, 1) := dc_at dkX3_takeAll_b4 5 rfl
theorem dX3_takeAll_92 : decode cX3_takeAll 92 = .ok (.invokevirtual 59, 3) := dc_at dkX3_takeAll_b4 6 rfl
theorem dX3_takeAll_95 : decode cX3_takeAll 95 = .ok (.aload_n 0, 1) := dc_at dkX3_takeAll_b4 7 rfl
theorem dX3_takeAll_96 : decode cX3_takeAll 96 = .ok (.getfield 18, 3) := dc_at dkX3_takeAll_b4 8 rfl
theorem dX3_takeAll_99 : decode cX3_takeAll 99 = .ok (.iconst 0, 1) := dc_at dkX3_takeAll_b4 9 rfl
def drX3_takeAll_b5 : List (Nat × (Instr × Nat)) := [(100, (.invokevirtual 63, 3)), (103, (.if_icmp .le 13, 3)), (106, (.aload_n 0, 1)), (107, (.bipush 6, 2)), (109, (.aload_n 0, 1)), (110, (.getfield 22, 3)), (113, (.invokevirtual 66, 3)), (116, (.iload_n 1, 1)), (117, (.ireturn, 1))]
theorem dkX3_takeAll_b5 : ((drX3_takeAll_b5).all fun r => decide (decode cX3_takeAll r.1 = .ok r.2)) = true := by decide +kernel
theorem dX3_takeAll_100 : decode cX3_takeAll 100 = .ok (.invokevirtual 63, 3) := dc_at dkX3_takeAll_b5 0 rfl
theorem dX3_takeAll_103 : decode cX3_takeAll 103 = .ok (.if_icmp .le 13, 3) := dc_at dkX3_takeAll_b5 1 rfl
theorem dX3_takeAll_106 : decode cX3_takeAll 106 = .ok (.aload_n 0, 1) := dc_at dkX3_takeAll_b5 2 rfl
theorem dX3_takeAll_107 : decode cX3_takeAll 107 = .ok (.bipush 6, 2) := dc_at dkX3_takeAll_b5 3 rfl
theorem dX3_takeAll_109 : decode cX3_takeAll 109 = .ok (.aload_n 0, 1) := dc_at dkX3_takeAll_b5 4 rfl
theorem dX3_takeAll_110 : decode cX3_takeAll 110 = .ok (.getfield 22, 3) := dc_at dkX3_takeAll_b5 5 rfl
theorem dX3_takeAll_113 : decode cX3_takeAll 113 = .ok (.invokevirtual 66, 3) := dc_at dkX3_takeAll_b5 6 rfl
theorem dX3_takeAll_116 : decode cX3_takeAll 116 = .ok (.iload_n 1, 1) := dc_at dkX3_takeAll_b5 7 rfl
theorem dX3_takeAll_117 : decode cX3_takeAll 117 = .ok (.ireturn, 1) := dc_at dkX3_takeAll_b5 8 rfl
def drX3_refuse_b0 : List (Nat × (Instr × Nat)) := [(0, (.aload_n 0, 1)), (1, (.getfield 35, 3)), (4, (.ifCond .eq 4, 3)), (7, (.return_, 1)), (8, (.aload_n 0, 1)), (9, (.iload_n 1, 1)), (10, (.putfield 35, 3)), (13, (.aload_n 0, 1)), (14, (.iload_n 2, 1)), (15, (.putfield 38, 3))]
theorem dkX3_refuse_b0 : ((drX3_refuse_b0).all fun r => decide (decode cX3_refuse r.1 = .ok r.2)) = true := by decide +kernel
theorem dX3_refuse_0 : decode cX3_refuse 0 = .ok (.aload_n 0, 1) := dc_at dkX3_refuse_b0 0 rfl
theorem dX3_refuse_1 : decode cX3_refuse 1 = .ok (.getfield 35, 3) := dc_at dkX3_refuse_b0 1 rfl
theorem dX3_refuse_4 : decode cX3_refuse 4 = .ok (.ifCond .eq 4, 3) := dc_at dkX3_refuse_b0 2 rfl
theorem dX3_refuse_7 : decode cX3_refuse 7 = .ok (.return_, 1) := dc_at dkX3_refuse_b0 3 rfl
theorem dX3_refuse_8 : decode cX3_refuse 8 = .ok (.aload_n 0, 1) := dc_at dkX3_refuse_b0 4 rfl
theorem dX3_refuse_9 : decode cX3_refuse 9 = .ok (.iload_n 1, 1) := dc_at dkX3_refuse_b0 5 rfl
theorem dX3_refuse_10 : decode cX3_refuse 10 = .ok (.putfield 35, 3) := dc_at dkX3_refuse_b0 6 rfl
theorem dX3_refuse_13 : decode cX3_refuse 13 = .ok (.aload_n 0, 1) := dc_at dkX3_refuse_b0 7 rfl
theorem dX3_refuse_14 : decode cX3_refuse 14 = .ok (.iload_n 2, 1) := dc_at dkX3_refuse_b0 8 rfl
theorem dX3_refuse_15 : decode cX3_refuse 15 = .ok (.putfield 38, 3) := dc_at dkX3_refuse_b0 9 rfl
def drX3_refuse_b1 : List (Nat × (Instr × Nat)) := [(18, (.return_, 1))]
theorem dkX3_refuse_b1 : ((drX3_refuse_b1).all fun r => decide (decode cX3_refuse r.1 = .ok r.2)) = true := by decide +kernel
theorem dX3_refuse_18 : decode cX3_refuse 18 = .ok (.return_, 1) := dc_at dkX3_refuse_b1 0 rfl
def drX3_letterAt_b0 : List (Nat × (Instr × Nat)) := [(0, (.iload_n 1, 1)), (1, (.ifCond .lt 33, 3)), (4, (.iload_n 1, 1)), (5, (.aload_n 0, 1)), (6, (.getfield 22, 3)), (9, (.if_icmp .ge 25, 3)), (12, (.iload_n 1, 1)), (13, (.aload_n 0, 1)), (14, (.getfield 9, 3)), (17, (.arraylength, 1))]
theorem dkX3_letterAt_b0 : ((drX3_letterAt_b0).all fun r => decide (decode cX3_letterAt r.1 = .ok r.2)) = true := by decide +kernel
theorem dX3_letterAt_0 : decode cX3_letterAt 0 = .ok (.iload_n 1, 1) := dc_at dkX3_letterAt_b0 0 rfl
theorem dX3_letterAt_1 : decode cX3_letterAt 1 = .ok (.ifCond .lt 33, 3) := dc_at dkX3_letterAt_b0 1 rfl
theorem dX3_letterAt_4 : decode cX3_letterAt 4 = .ok (.iload_n 1, 1) := dc_at dkX3_letterAt_b0 2 rfl
theorem dX3_letterAt_5 : decode cX3_letterAt 5 = .ok (.aload_n 0, 1) := dc_at dkX3_letterAt_b0 3 rfl
theorem dX3_letterAt_6 : decode cX3_letterAt 6 = .ok (.getfield 22, 3) := dc_at dkX3_letterAt_b0 4 rfl
theorem dX3_letterAt_9 : decode cX3_letterAt 9 = .ok (.if_icmp .ge 25, 3) := dc_at dkX3_letterAt_b0 5 rfl
theorem dX3_letterAt_12 : decode cX3_letterAt 12 = .ok (.iload_n 1, 1) := dc_at dkX3_letterAt_b0 6 rfl
theorem dX3_letterAt_13 : decode cX3_letterAt 13 = .ok (.aload_n 0, 1) := dc_at dkX3_letterAt_b0 7 rfl
theorem dX3_letterAt_14 : decode cX3_letterAt 14 = .ok (.getfield 9, 3) := dc_at dkX3_letterAt_b0 8 rfl
theorem dX3_letterAt_17 : decode cX3_letterAt 17 = .ok (.arraylength, 1) := dc_at dkX3_letterAt_b0 9 rfl
def drX3_letterAt_b1 : List (Nat × (Instr × Nat)) := [(18, (.if_icmp .ge 16, 3)), (21, (.aload_n 0, 1)), (22, (.getfield 9, 3)), (25, (.iload_n 1, 1)), (26, (.baload, 1)), (27, (.sipush 255, 3)), (30, (.iand, 1)), (31, (.goto 4, 3)), (34, (.iconst (-1), 1)), (35, (.ireturn, 1))]
theorem dkX3_letterAt_b1 : ((drX3_letterAt_b1).all fun r => decide (decode cX3_letterAt r.1 = .ok r.2)) = true := by decide +kernel
theorem dX3_letterAt_18 : decode cX3_letterAt 18 = .ok (.if_icmp .ge 16, 3) := dc_at dkX3_letterAt_b1 0 rfl
theorem dX3_letterAt_21 : decode cX3_letterAt 21 = .ok (.aload_n 0, 1) := dc_at dkX3_letterAt_b1 1 rfl
theorem dX3_letterAt_22 : decode cX3_letterAt 22 = .ok (.getfield 9, 3) := dc_at dkX3_letterAt_b1 2 rfl
theorem dX3_letterAt_25 : decode cX3_letterAt 25 = .ok (.iload_n 1, 1) := dc_at dkX3_letterAt_b1 3 rfl
theorem dX3_letterAt_26 : decode cX3_letterAt 26 = .ok (.baload, 1) := dc_at dkX3_letterAt_b1 4 rfl
theorem dX3_letterAt_27 : decode cX3_letterAt 27 = .ok (.sipush 255, 3) := dc_at dkX3_letterAt_b1 5 rfl
theorem dX3_letterAt_30 : decode cX3_letterAt 30 = .ok (.iand, 1) := dc_at dkX3_letterAt_b1 6 rfl
theorem dX3_letterAt_31 : decode cX3_letterAt 31 = .ok (.goto 4, 3) := dc_at dkX3_letterAt_b1 7 rfl
theorem dX3_letterAt_34 : decode cX3_letterAt 34 = .ok (.iconst (-1), 1) := dc_at dkX3_letterAt_b1 8 rfl
theorem dX3_letterAt_35 : decode cX3_letterAt 35 = .ok (.ireturn, 1) := dc_at dkX3_letterAt_b1 9 rfl
def drX3_isSmallLetter_b0 : List (Nat × (Instr × Nat)) := [(0, (.iload_n 0, 1)), (1, (.bipush 97, 2)), (3, (.if_icmp .lt 13, 3)), (6, (.iload_n 0, 1)), (7, (.bipush 122, 2)), (9, (.if_icmp .gt 7, 3)), (12, (.iconst 1, 1)), (13, (.goto 4, 3)), (16, (.iconst 0, 1)), (17, (.ireturn, 1))]
theorem dkX3_isSmallLetter_b0 : ((drX3_isSmallLetter_b0).all fun r => decide (decode cX3_isSmallLetter r.1 = .ok r.2)) = true := by decide +kernel
theorem dX3_isSmallLetter_0 : decode cX3_isSmallLetter 0 = .ok (.iload_n 0, 1) := dc_at dkX3_isSmallLetter_b0 0 rfl
theorem dX3_isSmallLetter_1 : decode cX3_isSmallLetter 1 = .ok (.bipush 97, 2) := dc_at dkX3_isSmallLetter_b0 1 rfl
theorem dX3_isSmallLetter_3 : decode cX3_isSmallLetter 3 = .ok (.if_icmp .lt 13, 3) := dc_at dkX3_isSmallLetter_b0 2 rfl
theorem dX3_isSmallLetter_6 : decode cX3_isSmallLetter 6 = .ok (.iload_n 0, 1) := dc_at dkX3_isSmallLetter_b0 3 rfl
theorem dX3_isSmallLetter_7 : decode cX3_isSmallLetter 7 = .ok (.bipush 122, 2) := dc_at dkX3_isSmallLetter_b0 4 rfl
theorem dX3_isSmallLetter_9 : decode cX3_isSmallLetter 9 = .ok (.if_icmp .gt 7, 3) := dc_at dkX3_isSmallLetter_b0 5 rfl
theorem dX3_isSmallLetter_12 : decode cX3_isSmallLetter 12 = .ok (.iconst 1, 1) := dc_at dkX3_isSmallLetter_b0 6 rfl
theorem dX3_isSmallLetter_13 : decode cX3_isSmallLetter 13 = .ok (.goto 4, 3) := dc_at dkX3_isSmallLetter_b0 7 rfl
theorem dX3_isSmallLetter_16 : decode cX3_isSmallLetter 16 = .ok (.iconst 0, 1) := dc_at dkX3_isSmallLetter_b0 8 rfl
theorem dX3_isSmallLetter_17 : decode cX3_isSmallLetter 17 = .ok (.ireturn, 1) := dc_at dkX3_isSmallLetter_b0 9 rfl
def drX3_isFigure_b0 : List (Nat × (Instr × Nat)) := [(0, (.iload_n 0, 1)), (1, (.bipush 48, 2)), (3, (.if_icmp .lt 13, 3)), (6, (.iload_n 0, 1)), (7, (.bipush 57, 2)), (9, (.if_icmp .gt 7, 3)), (12, (.iconst 1, 1)), (13, (.goto 4, 3)), (16, (.iconst 0, 1)), (17, (.ireturn, 1))]
theorem dkX3_isFigure_b0 : ((drX3_isFigure_b0).all fun r => decide (decode cX3_isFigure r.1 = .ok r.2)) = true := by decide +kernel
theorem dX3_isFigure_0 : decode cX3_isFigure 0 = .ok (.iload_n 0, 1) := dc_at dkX3_isFigure_b0 0 rfl
theorem dX3_isFigure_1 : decode cX3_isFigure 1 = .ok (.bipush 48, 2) := dc_at dkX3_isFigure_b0 1 rfl
theorem dX3_isFigure_3 : decode cX3_isFigure 3 = .ok (.if_icmp .lt 13, 3) := dc_at dkX3_isFigure_b0 2 rfl
theorem dX3_isFigure_6 : decode cX3_isFigure 6 = .ok (.iload_n 0, 1) := dc_at dkX3_isFigure_b0 3 rfl
theorem dX3_isFigure_7 : decode cX3_isFigure 7 = .ok (.bipush 57, 2) := dc_at dkX3_isFigure_b0 4 rfl
theorem dX3_isFigure_9 : decode cX3_isFigure 9 = .ok (.if_icmp .gt 7, 3) := dc_at dkX3_isFigure_b0 5 rfl
theorem dX3_isFigure_12 : decode cX3_isFigure 12 = .ok (.iconst 1, 1) := dc_at dkX3_isFigure_b0 6 rfl
theorem dX3_isFigure_13 : decode cX3_isFigure 13 = .ok (.goto 4, 3) := dc_at dkX3_isFigure_b0 7 rfl
theorem dX3_isFigure_16 : decode cX3_isFigure 16 = .ok (.iconst 0, 1) := dc_at dkX3_isFigure_b0 8 rfl
theorem dX3_isFigure_17 : decode cX3_isFigure 17 = .ok (.ireturn, 1) := dc_at dkX3_isFigure_b0 9 rfl
def drX3_readToken_b0 : List (Nat × (Instr × Nat)) := [(0, (.aload_n 0, 1)), (1, (.getfield 29, 3)), (4, (.aload_n 0, 1)), (5, (.getfield 22, 3)), (8, (.if_icmp .ge 29, 3)), (11, (.aload_n 0, 1)), (12, (.aload_n 0, 1)), (13, (.getfield 29, 3)), (16, (.invokevirtual 70, 3)), (19, (.bipush 32, 2))]
theorem dkX3_readToken_b0 : ((drX3_readToken_b0).all fun r => decide (decode cX3_readToken r.1 = .ok r.2)) = true := by decide +kernel
theorem dX3_readToken_0 : decode cX3_readToken 0 = .ok (.aload_n 0, 1) := dc_at dkX3_readToken_b0 0 rfl
theorem dX3_readToken_1 : decode cX3_readToken 1 = .ok (.getfield 29, 3) := dc_at dkX3_readToken_b0 1 rfl
theorem dX3_readToken_4 : decode cX3_readToken 4 = .ok (.aload_n 0, 1) := dc_at dkX3_readToken_b0 2 rfl
theorem dX3_readToken_5 : decode cX3_readToken 5 = .ok (.getfield 22, 3) := dc_at dkX3_readToken_b0 3 rfl
theorem dX3_readToken_8 : decode cX3_readToken 8 = .ok (.if_icmp .ge 29, 3) := dc_at dkX3_readToken_b0 4 rfl
theorem dX3_readToken_11 : decode cX3_readToken 11 = .ok (.aload_n 0, 1) := dc_at dkX3_readToken_b0 5 rfl
theorem dX3_readToken_12 : decode cX3_readToken 12 = .ok (.aload_n 0, 1) := dc_at dkX3_readToken_b0 6 rfl
theorem dX3_readToken_13 : decode cX3_readToken 13 = .ok (.getfield 29, 3) := dc_at dkX3_readToken_b0 7 rfl
theorem dX3_readToken_16 : decode cX3_readToken 16 = .ok (.invokevirtual 70, 3) := dc_at dkX3_readToken_b0 8 rfl
theorem dX3_readToken_19 : decode cX3_readToken 19 = .ok (.bipush 32, 2) := dc_at dkX3_readToken_b0 9 rfl
def drX3_readToken_b1 : List (Nat × (Instr × Nat)) := [(21, (.if_icmp .ne 16, 3)), (24, (.aload_n 0, 1)), (25, (.dup, 1)), (26, (.getfield 29, 3)), (29, (.iconst 1, 1)), (30, (.iadd, 1)), (31, (.putfield 29, 3)), (34, (.goto (-34), 3)), (37, (.aload_n 0, 1)), (38, (.aload_n 0, 1))]
theorem dkX3_readToken_b1 : ((drX3_readToken_b1).all fun r => decide (decode cX3_readToken r.1 = .ok r.2)) = true := by decide +kernel
theorem dX3_readToken_21 : decode cX3_readToken 21 = .ok (.if_icmp .ne 16, 3) := dc_at dkX3_readToken_b1 0 rfl
theorem dX3_readToken_24 : decode cX3_readToken 24 = .ok (.aload_n 0, 1) := dc_at dkX3_readToken_b1 1 rfl
theorem dX3_readToken_25 : decode cX3_readToken 25 = .ok (.dup, 1) := dc_at dkX3_readToken_b1 2 rfl
theorem dX3_readToken_26 : decode cX3_readToken 26 = .ok (.getfield 29, 3) := dc_at dkX3_readToken_b1 3 rfl
theorem dX3_readToken_29 : decode cX3_readToken 29 = .ok (.iconst 1, 1) := dc_at dkX3_readToken_b1 4 rfl
theorem dX3_readToken_30 : decode cX3_readToken 30 = .ok (.iadd, 1) := dc_at dkX3_readToken_b1 5 rfl
theorem dX3_readToken_31 : decode cX3_readToken 31 = .ok (.putfield 29, 3) := dc_at dkX3_readToken_b1 6 rfl
theorem dX3_readToken_34 : decode cX3_readToken 34 = .ok (.goto (-34), 3) := dc_at dkX3_readToken_b1 7 rfl
theorem dX3_readToken_37 : decode cX3_readToken 37 = .ok (.aload_n 0, 1) := dc_at dkX3_readToken_b1 8 rfl
theorem dX3_readToken_38 : decode cX3_readToken 38 = .ok (.aload_n 0, 1) := dc_at dkX3_readToken_b1 9 rfl
def drX3_readToken_b2 : List (Nat × (Instr × Nat)) := [(39, (.getfield 29, 3)), (42, (.putfield 73, 3)), (45, (.aload_n 0, 1)), (46, (.aload_n 0, 1)), (47, (.getfield 73, 3)), (50, (.invokevirtual 70, 3)), (53, (.istore_n 1, 1)), (54, (.iload_n 1, 1)), (55, (.ifCond .ge 11, 3)), (58, (.aload_n 0, 1))]
theorem dkX3_readToken_b2 : ((drX3_readToken_b2).all fun r => decide (decode cX3_readToken r.1 = .ok r.2)) = true := by decide +kernel
theorem dX3_readToken_39 : decode cX3_readToken 39 = .ok (.getfield 29, 3) := dc_at dkX3_readToken_b2 0 rfl
theorem dX3_readToken_42 : decode cX3_readToken 42 = .ok (.putfield 73, 3) := dc_at dkX3_readToken_b2 1 rfl
theorem dX3_readToken_45 : decode cX3_readToken 45 = .ok (.aload_n 0, 1) := dc_at dkX3_readToken_b2 2 rfl
theorem dX3_readToken_46 : decode cX3_readToken 46 = .ok (.aload_n 0, 1) := dc_at dkX3_readToken_b2 3 rfl
theorem dX3_readToken_47 : decode cX3_readToken 47 = .ok (.getfield 73, 3) := dc_at dkX3_readToken_b2 4 rfl
theorem dX3_readToken_50 : decode cX3_readToken 50 = .ok (.invokevirtual 70, 3) := dc_at dkX3_readToken_b2 5 rfl
theorem dX3_readToken_53 : decode cX3_readToken 53 = .ok (.istore_n 1, 1) := dc_at dkX3_readToken_b2 6 rfl
theorem dX3_readToken_54 : decode cX3_readToken 54 = .ok (.iload_n 1, 1) := dc_at dkX3_readToken_b2 7 rfl
theorem dX3_readToken_55 : decode cX3_readToken 55 = .ok (.ifCond .ge 11, 3) := dc_at dkX3_readToken_b2 8 rfl
theorem dX3_readToken_58 : decode cX3_readToken 58 = .ok (.aload_n 0, 1) := dc_at dkX3_readToken_b2 9 rfl
def drX3_readToken_b3 : List (Nat × (Instr × Nat)) := [(59, (.iconst 0, 1)), (60, (.putfield 44, 3)), (63, (.goto 92, 3)), (66, (.iload_n 1, 1)), (67, (.invokestatic 76, 3)), (70, (.ifCond .eq 46, 3)), (73, (.aload_n 0, 1)), (74, (.iconst 1, 1)), (75, (.putfield 44, 3)), (78, (.aload_n 0, 1))]
theorem dkX3_readToken_b3 : ((drX3_readToken_b3).all fun r => decide (decode cX3_readToken r.1 = .ok r.2)) = true := by decide +kernel
theorem dX3_readToken_59 : decode cX3_readToken 59 = .ok (.iconst 0, 1) := dc_at dkX3_readToken_b3 0 rfl
theorem dX3_readToken_60 : decode cX3_readToken 60 = .ok (.putfield 44, 3) := dc_at dkX3_readToken_b3 1 rfl
theorem dX3_readToken_63 : decode cX3_readToken 63 = .ok (.goto 92, 3) := dc_at dkX3_readToken_b3 2 rfl
theorem dX3_readToken_66 : decode cX3_readToken 66 = .ok (.iload_n 1, 1) := dc_at dkX3_readToken_b3 3 rfl
theorem dX3_readToken_67 : decode cX3_readToken 67 = .ok (.invokestatic 76, 3) := dc_at dkX3_readToken_b3 4 rfl
theorem dX3_readToken_70 : decode cX3_readToken 70 = .ok (.ifCond .eq 46, 3) := dc_at dkX3_readToken_b3 5 rfl
theorem dX3_readToken_73 : decode cX3_readToken 73 = .ok (.aload_n 0, 1) := dc_at dkX3_readToken_b3 6 rfl
theorem dX3_readToken_74 : decode cX3_readToken 74 = .ok (.iconst 1, 1) := dc_at dkX3_readToken_b3 7 rfl
theorem dX3_readToken_75 : decode cX3_readToken 75 = .ok (.putfield 44, 3) := dc_at dkX3_readToken_b3 8 rfl
theorem dX3_readToken_78 : decode cX3_readToken 78 = .ok (.aload_n 0, 1) := dc_at dkX3_readToken_b3 9 rfl
def drX3_readToken_b4 : List (Nat × (Instr × Nat)) := [(79, (.getfield 29, 3)), (82, (.aload_n 0, 1)), (83, (.getfield 22, 3)), (86, (.if_icmp .ge 69, 3)), (89, (.aload_n 0, 1)), (90, (.aload_n 0, 1)), (91, (.getfield 29, 3)), (94, (.invokevirtual 70, 3)), (97, (.invokestatic 76, 3)), (100, (.ifCond .eq 55, 3))]
theorem dkX3_readToken_b4 : ((drX3_readToken_b4).all fun r => decide (decode cX3_readToken r.1 = .ok r.2)) = true := by decide +kernel
theorem dX3_readToken_79 : decode cX3_readToken 79 = .ok (.getfield 29, 3) := dc_at dkX3_readToken_b4 0 rfl
theorem dX3_readToken_82 : decode cX3_readToken 82 = .ok (.aload_n 0, 1) := dc_at dkX3_readToken_b4 1 rfl
theorem dX3_readToken_83 : decode cX3_readToken 83 = .ok (.getfield 22, 3) := dc_at dkX3_readToken_b4 2 rfl
theorem dX3_readToken_86 : decode cX3_readToken 86 = .ok (.if_icmp .ge 69, 3) := dc_at dkX3_readToken_b4 3 rfl
theorem dX3_readToken_89 : decode cX3_readToken 89 = .ok (.aload_n 0, 1) := dc_at dkX3_readToken_b4 4 rfl
theorem dX3_readToken_90 : decode cX3_readToken 90 = .ok (.aload_n 0, 1) := dc_at dkX3_readToken_b4 5 rfl
theorem dX3_readToken_91 : decode cX3_readToken 91 = .ok (.getfield 29, 3) := dc_at dkX3_readToken_b4 6 rfl
theorem dX3_readToken_94 : decode cX3_readToken 94 = .ok (.invokevirtual 70, 3) := dc_at dkX3_readToken_b4 7 rfl
theorem dX3_readToken_97 : decode cX3_readToken 97 = .ok (.invokestatic 76, 3) := dc_at dkX3_readToken_b4 8 rfl
theorem dX3_readToken_100 : decode cX3_readToken 100 = .ok (.ifCond .eq 55, 3) := dc_at dkX3_readToken_b4 9 rfl
def drX3_readToken_b5 : List (Nat × (Instr × Nat)) := [(103, (.aload_n 0, 1)), (104, (.dup, 1)), (105, (.getfield 29, 3)), (108, (.iconst 1, 1)), (109, (.iadd, 1)), (110, (.putfield 29, 3)), (113, (.goto (-35), 3)), (116, (.iload_n 1, 1)), (117, (.invokestatic 80, 3)), (120, (.ifCond .eq 10, 3))]
theorem dkX3_readToken_b5 : ((drX3_readToken_b5).all fun r => decide (decode cX3_readToken r.1 = .ok r.2)) = true := by decide +kernel
theorem dX3_readToken_103 : decode cX3_readToken 103 = .ok (.aload_n 0, 1) := dc_at dkX3_readToken_b5 0 rfl
theorem dX3_readToken_104 : decode cX3_readToken 104 = .ok (.dup, 1) := dc_at dkX3_readToken_b5 1 rfl
theorem dX3_readToken_105 : decode cX3_readToken 105 = .ok (.getfield 29, 3) := dc_at dkX3_readToken_b5 2 rfl
theorem dX3_readToken_108 : decode cX3_readToken 108 = .ok (.iconst 1, 1) := dc_at dkX3_readToken_b5 3 rfl
theorem dX3_readToken_109 : decode cX3_readToken 109 = .ok (.iadd, 1) := dc_at dkX3_readToken_b5 4 rfl
theorem dX3_readToken_110 : decode cX3_readToken 110 = .ok (.putfield 29, 3) := dc_at dkX3_readToken_b5 5 rfl
theorem dX3_readToken_113 : decode cX3_readToken 113 = .ok (.goto (-35), 3) := dc_at dkX3_readToken_b5 6 rfl
theorem dX3_readToken_116 : decode cX3_readToken 116 = .ok (.iload_n 1, 1) := dc_at dkX3_readToken_b5 7 rfl
theorem dX3_readToken_117 : decode cX3_readToken 117 = .ok (.invokestatic 80, 3) := dc_at dkX3_readToken_b5 8 rfl
theorem dX3_readToken_120 : decode cX3_readToken 120 = .ok (.ifCond .eq 10, 3) := dc_at dkX3_readToken_b5 9 rfl
def drX3_readToken_b6 : List (Nat × (Instr × Nat)) := [(123, (.aload_n 0, 1)), (124, (.invokevirtual 83, 3)), (127, (.goto 28, 3)), (130, (.aload_n 0, 1)), (131, (.iload_n 1, 1)), (132, (.bipush 59, 2)), (134, (.if_icmp .ne 7, 3)), (137, (.iconst 3, 1)), (138, (.goto 4, 3)), (141, (.iconst 4, 1))]
theorem dkX3_readToken_b6 : ((drX3_readToken_b6).all fun r => decide (decode cX3_readToken r.1 = .ok r.2)) = true := by decide +kernel
theorem dX3_readToken_123 : decode cX3_readToken 123 = .ok (.aload_n 0, 1) := dc_at dkX3_readToken_b6 0 rfl
theorem dX3_readToken_124 : decode cX3_readToken 124 = .ok (.invokevirtual 83, 3) := dc_at dkX3_readToken_b6 1 rfl
theorem dX3_readToken_127 : decode cX3_readToken 127 = .ok (.goto 28, 3) := dc_at dkX3_readToken_b6 2 rfl
theorem dX3_readToken_130 : decode cX3_readToken 130 = .ok (.aload_n 0, 1) := dc_at dkX3_readToken_b6 3 rfl
theorem dX3_readToken_131 : decode cX3_readToken 131 = .ok (.iload_n 1, 1) := dc_at dkX3_readToken_b6 4 rfl
theorem dX3_readToken_132 : decode cX3_readToken 132 = .ok (.bipush 59, 2) := dc_at dkX3_readToken_b6 5 rfl
theorem dX3_readToken_134 : decode cX3_readToken 134 = .ok (.if_icmp .ne 7, 3) := dc_at dkX3_readToken_b6 6 rfl
theorem dX3_readToken_137 : decode cX3_readToken 137 = .ok (.iconst 3, 1) := dc_at dkX3_readToken_b6 7 rfl
theorem dX3_readToken_138 : decode cX3_readToken 138 = .ok (.goto 4, 3) := dc_at dkX3_readToken_b6 8 rfl
theorem dX3_readToken_141 : decode cX3_readToken 141 = .ok (.iconst 4, 1) := dc_at dkX3_readToken_b6 9 rfl
def drX3_readToken_b7 : List (Nat × (Instr × Nat)) := [(142, (.putfield 44, 3)), (145, (.aload_n 0, 1)), (146, (.dup, 1)), (147, (.getfield 29, 3)), (150, (.iconst 1, 1)), (151, (.iadd, 1)), (152, (.putfield 29, 3)), (155, (.aload_n 0, 1)), (156, (.getfield 44, 3)), (159, (.iconst 4, 1))]
theorem dkX3_readToken_b7 : ((drX3_readToken_b7).all fun r => decide (decode cX3_readToken r.1 = .ok r.2)) = true := by decide +kernel
theorem dX3_readToken_142 : decode cX3_readToken 142 = .ok (.putfield 44, 3) := dc_at dkX3_readToken_b7 0 rfl
theorem dX3_readToken_145 : decode cX3_readToken 145 = .ok (.aload_n 0, 1) := dc_at dkX3_readToken_b7 1 rfl
theorem dX3_readToken_146 : decode cX3_readToken 146 = .ok (.dup, 1) := dc_at dkX3_readToken_b7 2 rfl
theorem dX3_readToken_147 : decode cX3_readToken 147 = .ok (.getfield 29, 3) := dc_at dkX3_readToken_b7 3 rfl
theorem dX3_readToken_150 : decode cX3_readToken 150 = .ok (.iconst 1, 1) := dc_at dkX3_readToken_b7 4 rfl
theorem dX3_readToken_151 : decode cX3_readToken 151 = .ok (.iadd, 1) := dc_at dkX3_readToken_b7 5 rfl
theorem dX3_readToken_152 : decode cX3_readToken 152 = .ok (.putfield 29, 3) := dc_at dkX3_readToken_b7 6 rfl
theorem dX3_readToken_155 : decode cX3_readToken 155 = .ok (.aload_n 0, 1) := dc_at dkX3_readToken_b7 7 rfl
theorem dX3_readToken_156 : decode cX3_readToken 156 = .ok (.getfield 44, 3) := dc_at dkX3_readToken_b7 8 rfl
theorem dX3_readToken_159 : decode cX3_readToken 159 = .ok (.iconst 4, 1) := dc_at dkX3_readToken_b7 9 rfl
def drX3_readToken_b8 : List (Nat × (Instr × Nat)) := [(160, (.if_icmp .ne 12, 3)), (163, (.aload_n 0, 1)), (164, (.iconst 1, 1)), (165, (.aload_n 0, 1)), (166, (.getfield 73, 3)), (169, (.invokevirtual 66, 3)), (172, (.return_, 1))]
theorem dkX3_readToken_b8 : ((drX3_readToken_b8).all fun r => decide (decode cX3_readToken r.1 = .ok r.2)) = true := by decide +kernel
theorem dX3_readToken_160 : decode cX3_readToken 160 = .ok (.if_icmp .ne 12, 3) := dc_at dkX3_readToken_b8 0 rfl
theorem dX3_readToken_163 : decode cX3_readToken 163 = .ok (.aload_n 0, 1) := dc_at dkX3_readToken_b8 1 rfl
theorem dX3_readToken_164 : decode cX3_readToken 164 = .ok (.iconst 1, 1) := dc_at dkX3_readToken_b8 2 rfl
theorem dX3_readToken_165 : decode cX3_readToken 165 = .ok (.aload_n 0, 1) := dc_at dkX3_readToken_b8 3 rfl
theorem dX3_readToken_166 : decode cX3_readToken 166 = .ok (.getfield 73, 3) := dc_at dkX3_readToken_b8 4 rfl
theorem dX3_readToken_169 : decode cX3_readToken 169 = .ok (.invokevirtual 66, 3) := dc_at dkX3_readToken_b8 5 rfl
theorem dX3_readToken_172 : decode cX3_readToken 172 = .ok (.return_, 1) := dc_at dkX3_readToken_b8 6 rfl
def drX3_readNumber_b0 : List (Nat × (Instr × Nat)) := [(0, (.aload_n 0, 1)), (1, (.getfield 29, 3)), (4, (.aload_n 0, 1)), (5, (.getfield 22, 3)), (8, (.if_icmp .ge 30, 3)), (11, (.aload_n 0, 1)), (12, (.aload_n 0, 1)), (13, (.getfield 29, 3)), (16, (.invokevirtual 70, 3)), (19, (.invokestatic 80, 3))]
theorem dkX3_readNumber_b0 : ((drX3_readNumber_b0).all fun r => decide (decode cX3_readNumber r.1 = .ok r.2)) = true := by decide +kernel
theorem dX3_readNumber_0 : decode cX3_readNumber 0 = .ok (.aload_n 0, 1) := dc_at dkX3_readNumber_b0 0 rfl
theorem dX3_readNumber_1 : decode cX3_readNumber 1 = .ok (.getfield 29, 3) := dc_at dkX3_readNumber_b0 1 rfl
theorem dX3_readNumber_4 : decode cX3_readNumber 4 = .ok (.aload_n 0, 1) := dc_at dkX3_readNumber_b0 2 rfl
theorem dX3_readNumber_5 : decode cX3_readNumber 5 = .ok (.getfield 22, 3) := dc_at dkX3_readNumber_b0 3 rfl
theorem dX3_readNumber_8 : decode cX3_readNumber 8 = .ok (.if_icmp .ge 30, 3) := dc_at dkX3_readNumber_b0 4 rfl
theorem dX3_readNumber_11 : decode cX3_readNumber 11 = .ok (.aload_n 0, 1) := dc_at dkX3_readNumber_b0 5 rfl
theorem dX3_readNumber_12 : decode cX3_readNumber 12 = .ok (.aload_n 0, 1) := dc_at dkX3_readNumber_b0 6 rfl
theorem dX3_readNumber_13 : decode cX3_readNumber 13 = .ok (.getfield 29, 3) := dc_at dkX3_readNumber_b0 7 rfl
theorem dX3_readNumber_16 : decode cX3_readNumber 16 = .ok (.invokevirtual 70, 3) := dc_at dkX3_readNumber_b0 8 rfl
theorem dX3_readNumber_19 : decode cX3_readNumber 19 = .ok (.invokestatic 80, 3) := dc_at dkX3_readNumber_b0 9 rfl
def drX3_readNumber_b1 : List (Nat × (Instr × Nat)) := [(22, (.ifCond .eq 16, 3)), (25, (.aload_n 0, 1)), (26, (.dup, 1)), (27, (.getfield 29, 3)), (30, (.iconst 1, 1)), (31, (.iadd, 1)), (32, (.putfield 29, 3)), (35, (.goto (-35), 3)), (38, (.aload_n 0, 1)), (39, (.aload_n 0, 1))]
theorem dkX3_readNumber_b1 : ((drX3_readNumber_b1).all fun r => decide (decode cX3_readNumber r.1 = .ok r.2)) = true := by decide +kernel
theorem dX3_readNumber_22 : decode cX3_readNumber 22 = .ok (.ifCond .eq 16, 3) := dc_at dkX3_readNumber_b1 0 rfl
theorem dX3_readNumber_25 : decode cX3_readNumber 25 = .ok (.aload_n 0, 1) := dc_at dkX3_readNumber_b1 1 rfl
theorem dX3_readNumber_26 : decode cX3_readNumber 26 = .ok (.dup, 1) := dc_at dkX3_readNumber_b1 2 rfl
theorem dX3_readNumber_27 : decode cX3_readNumber 27 = .ok (.getfield 29, 3) := dc_at dkX3_readNumber_b1 3 rfl
theorem dX3_readNumber_30 : decode cX3_readNumber 30 = .ok (.iconst 1, 1) := dc_at dkX3_readNumber_b1 4 rfl
theorem dX3_readNumber_31 : decode cX3_readNumber 31 = .ok (.iadd, 1) := dc_at dkX3_readNumber_b1 5 rfl
theorem dX3_readNumber_32 : decode cX3_readNumber 32 = .ok (.putfield 29, 3) := dc_at dkX3_readNumber_b1 6 rfl
theorem dX3_readNumber_35 : decode cX3_readNumber 35 = .ok (.goto (-35), 3) := dc_at dkX3_readNumber_b1 7 rfl
theorem dX3_readNumber_38 : decode cX3_readNumber 38 = .ok (.aload_n 0, 1) := dc_at dkX3_readNumber_b1 8 rfl
theorem dX3_readNumber_39 : decode cX3_readNumber 39 = .ok (.aload_n 0, 1) := dc_at dkX3_readNumber_b1 9 rfl
def drX3_readNumber_b2 : List (Nat × (Instr × Nat)) := [(40, (.getfield 29, 3)), (43, (.aload_n 0, 1)), (44, (.getfield 73, 3)), (47, (.isub, 1)), (48, (.iconst 4, 1)), (49, (.if_icmp .le 7, 3)), (52, (.iconst 4, 1)), (53, (.goto 4, 3)), (56, (.iconst 2, 1)), (57, (.putfield 44, 3))]
theorem dkX3_readNumber_b2 : ((drX3_readNumber_b2).all fun r => decide (decode cX3_readNumber r.1 = .ok r.2)) = true := by decide +kernel
theorem dX3_readNumber_40 : decode cX3_readNumber 40 = .ok (.getfield 29, 3) := dc_at dkX3_readNumber_b2 0 rfl
theorem dX3_readNumber_43 : decode cX3_readNumber 43 = .ok (.aload_n 0, 1) := dc_at dkX3_readNumber_b2 1 rfl
theorem dX3_readNumber_44 : decode cX3_readNumber 44 = .ok (.getfield 73, 3) := dc_at dkX3_readNumber_b2 2 rfl
theorem dX3_readNumber_47 : decode cX3_readNumber 47 = .ok (.isub, 1) := dc_at dkX3_readNumber_b2 3 rfl
theorem dX3_readNumber_48 : decode cX3_readNumber 48 = .ok (.iconst 4, 1) := dc_at dkX3_readNumber_b2 4 rfl
theorem dX3_readNumber_49 : decode cX3_readNumber 49 = .ok (.if_icmp .le 7, 3) := dc_at dkX3_readNumber_b2 5 rfl
theorem dX3_readNumber_52 : decode cX3_readNumber 52 = .ok (.iconst 4, 1) := dc_at dkX3_readNumber_b2 6 rfl
theorem dX3_readNumber_53 : decode cX3_readNumber 53 = .ok (.goto 4, 3) := dc_at dkX3_readNumber_b2 7 rfl
theorem dX3_readNumber_56 : decode cX3_readNumber 56 = .ok (.iconst 2, 1) := dc_at dkX3_readNumber_b2 8 rfl
theorem dX3_readNumber_57 : decode cX3_readNumber 57 = .ok (.putfield 44, 3) := dc_at dkX3_readNumber_b2 9 rfl
def drX3_readNumber_b3 : List (Nat × (Instr × Nat)) := [(60, (.aload_n 0, 1)), (61, (.iconst 0, 1)), (62, (.putfield 86, 3)), (65, (.aload_n 0, 1)), (66, (.getfield 44, 3)), (69, (.iconst 4, 1)), (70, (.if_icmp .ne 4, 3)), (73, (.return_, 1)), (74, (.aload_n 0, 1)), (75, (.getfield 73, 3))]
theorem dkX3_readNumber_b3 : ((drX3_readNumber_b3).all fun r => decide (decode cX3_readNumber r.1 = .ok r.2)) = true := by decide +kernel
theorem dX3_readNumber_60 : decode cX3_readNumber 60 = .ok (.aload_n 0, 1) := dc_at dkX3_readNumber_b3 0 rfl
theorem dX3_readNumber_61 : decode cX3_readNumber 61 = .ok (.iconst 0, 1) := dc_at dkX3_readNumber_b3 1 rfl
theorem dX3_readNumber_62 : decode cX3_readNumber 62 = .ok (.putfield 86, 3) := dc_at dkX3_readNumber_b3 2 rfl
theorem dX3_readNumber_65 : decode cX3_readNumber 65 = .ok (.aload_n 0, 1) := dc_at dkX3_readNumber_b3 3 rfl
theorem dX3_readNumber_66 : decode cX3_readNumber 66 = .ok (.getfield 44, 3) := dc_at dkX3_readNumber_b3 4 rfl
theorem dX3_readNumber_69 : decode cX3_readNumber 69 = .ok (.iconst 4, 1) := dc_at dkX3_readNumber_b3 5 rfl
theorem dX3_readNumber_70 : decode cX3_readNumber 70 = .ok (.if_icmp .ne 4, 3) := dc_at dkX3_readNumber_b3 6 rfl
theorem dX3_readNumber_73 : decode cX3_readNumber 73 = .ok (.return_, 1) := dc_at dkX3_readNumber_b3 7 rfl
theorem dX3_readNumber_74 : decode cX3_readNumber 74 = .ok (.aload_n 0, 1) := dc_at dkX3_readNumber_b3 8 rfl
theorem dX3_readNumber_75 : decode cX3_readNumber 75 = .ok (.getfield 73, 3) := dc_at dkX3_readNumber_b3 9 rfl
def drX3_readNumber_b4 : List (Nat × (Instr × Nat)) := [(78, (.istore_n 1, 1)), (79, (.iload_n 1, 1)), (80, (.aload_n 0, 1)), (81, (.getfield 29, 3)), (84, (.if_icmp .ge 29, 3)), (87, (.aload_n 0, 1)), (88, (.aload_n 0, 1)), (89, (.getfield 86, 3)), (92, (.bipush 10, 2)), (94, (.imul, 1))]
theorem dkX3_readNumber_b4 : ((drX3_readNumber_b4).all fun r => decide (decode cX3_readNumber r.1 = .ok r.2)) = true := by decide +kernel
theorem dX3_readNumber_78 : decode cX3_readNumber 78 = .ok (.istore_n 1, 1) := dc_at dkX3_readNumber_b4 0 rfl
theorem dX3_readNumber_79 : decode cX3_readNumber 79 = .ok (.iload_n 1, 1) := dc_at dkX3_readNumber_b4 1 rfl
theorem dX3_readNumber_80 : decode cX3_readNumber 80 = .ok (.aload_n 0, 1) := dc_at dkX3_readNumber_b4 2 rfl
theorem dX3_readNumber_81 : decode cX3_readNumber 81 = .ok (.getfield 29, 3) := dc_at dkX3_readNumber_b4 3 rfl
theorem dX3_readNumber_84 : decode cX3_readNumber 84 = .ok (.if_icmp .ge 29, 3) := dc_at dkX3_readNumber_b4 4 rfl
theorem dX3_readNumber_87 : decode cX3_readNumber 87 = .ok (.aload_n 0, 1) := dc_at dkX3_readNumber_b4 5 rfl
theorem dX3_readNumber_88 : decode cX3_readNumber 88 = .ok (.aload_n 0, 1) := dc_at dkX3_readNumber_b4 6 rfl
theorem dX3_readNumber_89 : decode cX3_readNumber 89 = .ok (.getfield 86, 3) := dc_at dkX3_readNumber_b4 7 rfl
theorem dX3_readNumber_92 : decode cX3_readNumber 92 = .ok (.bipush 10, 2) := dc_at dkX3_readNumber_b4 8 rfl
theorem dX3_readNumber_94 : decode cX3_readNumber 94 = .ok (.imul, 1) := dc_at dkX3_readNumber_b4 9 rfl
def drX3_readNumber_b5 : List (Nat × (Instr × Nat)) := [(95, (.aload_n 0, 1)), (96, (.iload_n 1, 1)), (97, (.invokevirtual 70, 3)), (100, (.iadd, 1)), (101, (.bipush 48, 2)), (103, (.isub, 1)), (104, (.putfield 86, 3)), (107, (.iinc 1 1, 3)), (110, (.goto (-31), 3)), (113, (.return_, 1))]
theorem dkX3_readNumber_b5 : ((drX3_readNumber_b5).all fun r => decide (decode cX3_readNumber r.1 = .ok r.2)) = true := by decide +kernel
theorem dX3_readNumber_95 : decode cX3_readNumber 95 = .ok (.aload_n 0, 1) := dc_at dkX3_readNumber_b5 0 rfl
theorem dX3_readNumber_96 : decode cX3_readNumber 96 = .ok (.iload_n 1, 1) := dc_at dkX3_readNumber_b5 1 rfl
theorem dX3_readNumber_97 : decode cX3_readNumber 97 = .ok (.invokevirtual 70, 3) := dc_at dkX3_readNumber_b5 2 rfl
theorem dX3_readNumber_100 : decode cX3_readNumber 100 = .ok (.iadd, 1) := dc_at dkX3_readNumber_b5 3 rfl
theorem dX3_readNumber_101 : decode cX3_readNumber 101 = .ok (.bipush 48, 2) := dc_at dkX3_readNumber_b5 4 rfl
theorem dX3_readNumber_103 : decode cX3_readNumber 103 = .ok (.isub, 1) := dc_at dkX3_readNumber_b5 5 rfl
theorem dX3_readNumber_104 : decode cX3_readNumber 104 = .ok (.putfield 86, 3) := dc_at dkX3_readNumber_b5 6 rfl
theorem dX3_readNumber_107 : decode cX3_readNumber 107 = .ok (.iinc 1 1, 3) := dc_at dkX3_readNumber_b5 7 rfl
theorem dX3_readNumber_110 : decode cX3_readNumber 110 = .ok (.goto (-31), 3) := dc_at dkX3_readNumber_b5 8 rfl
theorem dX3_readNumber_113 : decode cX3_readNumber 113 = .ok (.return_, 1) := dc_at dkX3_readNumber_b5 9 rfl
def drX3_isNamed_b0 : List (Nat × (Instr × Nat)) := [(0, (.aload_n 0, 1)), (1, (.getfield 44, 3)), (4, (.iconst 1, 1)), (5, (.if_icmp .ne 19, 3)), (8, (.aload_n 0, 1)), (9, (.getfield 29, 3)), (12, (.aload_n 0, 1)), (13, (.getfield 73, 3)), (16, (.isub, 1)), (17, (.aload_n 1, 1))]
theorem dkX3_isNamed_b0 : ((drX3_isNamed_b0).all fun r => decide (decode cX3_isNamed r.1 = .ok r.2)) = true := by decide +kernel
theorem dX3_isNamed_0 : decode cX3_isNamed 0 = .ok (.aload_n 0, 1) := dc_at dkX3_isNamed_b0 0 rfl
theorem dX3_isNamed_1 : decode cX3_isNamed 1 = .ok (.getfield 44, 3) := dc_at dkX3_isNamed_b0 1 rfl
theorem dX3_isNamed_4 : decode cX3_isNamed 4 = .ok (.iconst 1, 1) := dc_at dkX3_isNamed_b0 2 rfl
theorem dX3_isNamed_5 : decode cX3_isNamed 5 = .ok (.if_icmp .ne 19, 3) := dc_at dkX3_isNamed_b0 3 rfl
theorem dX3_isNamed_8 : decode cX3_isNamed 8 = .ok (.aload_n 0, 1) := dc_at dkX3_isNamed_b0 4 rfl
theorem dX3_isNamed_9 : decode cX3_isNamed 9 = .ok (.getfield 29, 3) := dc_at dkX3_isNamed_b0 5 rfl
theorem dX3_isNamed_12 : decode cX3_isNamed 12 = .ok (.aload_n 0, 1) := dc_at dkX3_isNamed_b0 6 rfl
theorem dX3_isNamed_13 : decode cX3_isNamed 13 = .ok (.getfield 73, 3) := dc_at dkX3_isNamed_b0 7 rfl
theorem dX3_isNamed_16 : decode cX3_isNamed 16 = .ok (.isub, 1) := dc_at dkX3_isNamed_b0 8 rfl
theorem dX3_isNamed_17 : decode cX3_isNamed 17 = .ok (.aload_n 1, 1) := dc_at dkX3_isNamed_b0 9 rfl
def drX3_isNamed_b1 : List (Nat × (Instr × Nat)) := [(18, (.invokevirtual 89, 3)), (21, (.if_icmp .eq 5, 3)), (24, (.iconst 0, 1)), (25, (.ireturn, 1)), (26, (.iconst 0, 1)), (27, (.istore_n 2, 1)), (28, (.iload_n 2, 1)), (29, (.aload_n 1, 1)), (30, (.invokevirtual 89, 3)), (33, (.if_icmp .ge 29, 3))]
theorem dkX3_isNamed_b1 : ((drX3_isNamed_b1).all fun r => decide (decode cX3_isNamed r.1 = .ok r.2)) = true := by decide +kernel
theorem dX3_isNamed_18 : decode cX3_isNamed 18 = .ok (.invokevirtual 89, 3) := dc_at dkX3_isNamed_b1 0 rfl
theorem dX3_isNamed_21 : decode cX3_isNamed 21 = .ok (.if_icmp .eq 5, 3) := dc_at dkX3_isNamed_b1 1 rfl
theorem dX3_isNamed_24 : decode cX3_isNamed 24 = .ok (.iconst 0, 1) := dc_at dkX3_isNamed_b1 2 rfl
theorem dX3_isNamed_25 : decode cX3_isNamed 25 = .ok (.ireturn, 1) := dc_at dkX3_isNamed_b1 3 rfl
theorem dX3_isNamed_26 : decode cX3_isNamed 26 = .ok (.iconst 0, 1) := dc_at dkX3_isNamed_b1 4 rfl
theorem dX3_isNamed_27 : decode cX3_isNamed 27 = .ok (.istore_n 2, 1) := dc_at dkX3_isNamed_b1 5 rfl
theorem dX3_isNamed_28 : decode cX3_isNamed 28 = .ok (.iload_n 2, 1) := dc_at dkX3_isNamed_b1 6 rfl
theorem dX3_isNamed_29 : decode cX3_isNamed 29 = .ok (.aload_n 1, 1) := dc_at dkX3_isNamed_b1 7 rfl
theorem dX3_isNamed_30 : decode cX3_isNamed 30 = .ok (.invokevirtual 89, 3) := dc_at dkX3_isNamed_b1 8 rfl
theorem dX3_isNamed_33 : decode cX3_isNamed 33 = .ok (.if_icmp .ge 29, 3) := dc_at dkX3_isNamed_b1 9 rfl
def drX3_isNamed_b2 : List (Nat × (Instr × Nat)) := [(36, (.aload_n 0, 1)), (37, (.aload_n 0, 1)), (38, (.getfield 73, 3)), (41, (.iload_n 2, 1)), (42, (.iadd, 1)), (43, (.invokevirtual 70, 3)), (46, (.aload_n 1, 1)), (47, (.iload_n 2, 1)), (48, (.invokevirtual 95, 3)), (51, (.if_icmp .eq 5, 3))]
theorem dkX3_isNamed_b2 : ((drX3_isNamed_b2).all fun r => decide (decode cX3_isNamed r.1 = .ok r.2)) = true := by decide +kernel
theorem dX3_isNamed_36 : decode cX3_isNamed 36 = .ok (.aload_n 0, 1) := dc_at dkX3_isNamed_b2 0 rfl
theorem dX3_isNamed_37 : decode cX3_isNamed 37 = .ok (.aload_n 0, 1) := dc_at dkX3_isNamed_b2 1 rfl
theorem dX3_isNamed_38 : decode cX3_isNamed 38 = .ok (.getfield 73, 3) := dc_at dkX3_isNamed_b2 2 rfl
theorem dX3_isNamed_41 : decode cX3_isNamed 41 = .ok (.iload_n 2, 1) := dc_at dkX3_isNamed_b2 3 rfl
theorem dX3_isNamed_42 : decode cX3_isNamed 42 = .ok (.iadd, 1) := dc_at dkX3_isNamed_b2 4 rfl
theorem dX3_isNamed_43 : decode cX3_isNamed 43 = .ok (.invokevirtual 70, 3) := dc_at dkX3_isNamed_b2 5 rfl
theorem dX3_isNamed_46 : decode cX3_isNamed 46 = .ok (.aload_n 1, 1) := dc_at dkX3_isNamed_b2 6 rfl
theorem dX3_isNamed_47 : decode cX3_isNamed 47 = .ok (.iload_n 2, 1) := dc_at dkX3_isNamed_b2 7 rfl
theorem dX3_isNamed_48 : decode cX3_isNamed 48 = .ok (.invokevirtual 95, 3) := dc_at dkX3_isNamed_b2 8 rfl
theorem dX3_isNamed_51 : decode cX3_isNamed 51 = .ok (.if_icmp .eq 5, 3) := dc_at dkX3_isNamed_b2 9 rfl
def drX3_isNamed_b3 : List (Nat × (Instr × Nat)) := [(54, (.iconst 0, 1)), (55, (.ireturn, 1)), (56, (.iinc 2 1, 3)), (59, (.goto (-31), 3)), (62, (.iconst 1, 1)), (63, (.ireturn, 1))]
theorem dkX3_isNamed_b3 : ((drX3_isNamed_b3).all fun r => decide (decode cX3_isNamed r.1 = .ok r.2)) = true := by decide +kernel
theorem dX3_isNamed_54 : decode cX3_isNamed 54 = .ok (.iconst 0, 1) := dc_at dkX3_isNamed_b3 0 rfl
theorem dX3_isNamed_55 : decode cX3_isNamed 55 = .ok (.ireturn, 1) := dc_at dkX3_isNamed_b3 1 rfl
theorem dX3_isNamed_56 : decode cX3_isNamed 56 = .ok (.iinc 2 1, 3) := dc_at dkX3_isNamed_b3 2 rfl
theorem dX3_isNamed_59 : decode cX3_isNamed 59 = .ok (.goto (-31), 3) := dc_at dkX3_isNamed_b3 3 rfl
theorem dX3_isNamed_62 : decode cX3_isNamed 62 = .ok (.iconst 1, 1) := dc_at dkX3_isNamed_b3 4 rfl
theorem dX3_isNamed_63 : decode cX3_isNamed 63 = .ok (.ireturn, 1) := dc_at dkX3_isNamed_b3 5 rfl
def drX3_ruleNamed_b0 : List (Nat × (Instr × Nat)) := [(0, (.aload_n 0, 1)), (1, (.ldc 99, 2)), (3, (.invokevirtual 100, 3)), (6, (.ifCond .eq 5, 3)), (9, (.iconst 0, 1)), (10, (.ireturn, 1)), (11, (.aload_n 0, 1)), (12, (.ldc 104, 2)), (14, (.invokevirtual 100, 3)), (17, (.ifCond .eq 5, 3))]
theorem dkX3_ruleNamed_b0 : ((drX3_ruleNamed_b0).all fun r => decide (decode cX3_ruleNamed r.1 = .ok r.2)) = true := by decide +kernel
theorem dX3_ruleNamed_0 : decode cX3_ruleNamed 0 = .ok (.aload_n 0, 1) := dc_at dkX3_ruleNamed_b0 0 rfl
theorem dX3_ruleNamed_1 : decode cX3_ruleNamed 1 = .ok (.ldc 99, 2) := dc_at dkX3_ruleNamed_b0 1 rfl
theorem dX3_ruleNamed_3 : decode cX3_ruleNamed 3 = .ok (.invokevirtual 100, 3) := dc_at dkX3_ruleNamed_b0 2 rfl
theorem dX3_ruleNamed_6 : decode cX3_ruleNamed 6 = .ok (.ifCond .eq 5, 3) := dc_at dkX3_ruleNamed_b0 3 rfl
theorem dX3_ruleNamed_9 : decode cX3_ruleNamed 9 = .ok (.iconst 0, 1) := dc_at dkX3_ruleNamed_b0 4 rfl
theorem dX3_ruleNamed_10 : decode cX3_ruleNamed 10 = .ok (.ireturn, 1) := dc_at dkX3_ruleNamed_b0 5 rfl
theorem dX3_ruleNamed_11 : decode cX3_ruleNamed 11 = .ok (.aload_n 0, 1) := dc_at dkX3_ruleNamed_b0 6 rfl
theorem dX3_ruleNamed_12 : decode cX3_ruleNamed 12 = .ok (.ldc 104, 2) := dc_at dkX3_ruleNamed_b0 7 rfl
theorem dX3_ruleNamed_14 : decode cX3_ruleNamed 14 = .ok (.invokevirtual 100, 3) := dc_at dkX3_ruleNamed_b0 8 rfl
theorem dX3_ruleNamed_17 : decode cX3_ruleNamed 17 = .ok (.ifCond .eq 5, 3) := dc_at dkX3_ruleNamed_b0 9 rfl
def drX3_ruleNamed_b1 : List (Nat × (Instr × Nat)) := [(20, (.iconst 1, 1)), (21, (.ireturn, 1)), (22, (.aload_n 0, 1)), (23, (.ldc 106, 2)), (25, (.invokevirtual 100, 3)), (28, (.ifCond .eq 5, 3)), (31, (.iconst 2, 1)), (32, (.ireturn, 1)), (33, (.aload_n 0, 1)), (34, (.ldc 108, 2))]
theorem dkX3_ruleNamed_b1 : ((drX3_ruleNamed_b1).all fun r => decide (decode cX3_ruleNamed r.1 = .ok r.2)) = true := by decide +kernel
theorem dX3_ruleNamed_20 : decode cX3_ruleNamed 20 = .ok (.iconst 1, 1) := dc_at dkX3_ruleNamed_b1 0 rfl
theorem dX3_ruleNamed_21 : decode cX3_ruleNamed 21 = .ok (.ireturn, 1) := dc_at dkX3_ruleNamed_b1 1 rfl
theorem dX3_ruleNamed_22 : decode cX3_ruleNamed 22 = .ok (.aload_n 0, 1) := dc_at dkX3_ruleNamed_b1 2 rfl
theorem dX3_ruleNamed_23 : decode cX3_ruleNamed 23 = .ok (.ldc 106, 2) := dc_at dkX3_ruleNamed_b1 3 rfl
theorem dX3_ruleNamed_25 : decode cX3_ruleNamed 25 = .ok (.invokevirtual 100, 3) := dc_at dkX3_ruleNamed_b1 4 rfl
theorem dX3_ruleNamed_28 : decode cX3_ruleNamed 28 = .ok (.ifCond .eq 5, 3) := dc_at dkX3_ruleNamed_b1 5 rfl
theorem dX3_ruleNamed_31 : decode cX3_ruleNamed 31 = .ok (.iconst 2, 1) := dc_at dkX3_ruleNamed_b1 6 rfl
theorem dX3_ruleNamed_32 : decode cX3_ruleNamed 32 = .ok (.ireturn, 1) := dc_at dkX3_ruleNamed_b1 7 rfl
theorem dX3_ruleNamed_33 : decode cX3_ruleNamed 33 = .ok (.aload_n 0, 1) := dc_at dkX3_ruleNamed_b1 8 rfl
theorem dX3_ruleNamed_34 : decode cX3_ruleNamed 34 = .ok (.ldc 108, 2) := dc_at dkX3_ruleNamed_b1 9 rfl
def drX3_ruleNamed_b2 : List (Nat × (Instr × Nat)) := [(36, (.invokevirtual 100, 3)), (39, (.ifCond .eq 5, 3)), (42, (.iconst 3, 1)), (43, (.ireturn, 1)), (44, (.aload_n 0, 1)), (45, (.ldc 110, 2)), (47, (.invokevirtual 100, 3)), (50, (.ifCond .eq 5, 3)), (53, (.iconst 4, 1)), (54, (.ireturn, 1))]
theorem dkX3_ruleNamed_b2 : ((drX3_ruleNamed_b2).all fun r => decide (decode cX3_ruleNamed r.1 = .ok r.2)) = true := by decide +kernel
theorem dX3_ruleNamed_36 : decode cX3_ruleNamed 36 = .ok (.invokevirtual 100, 3) := dc_at dkX3_ruleNamed_b2 0 rfl
theorem dX3_ruleNamed_39 : decode cX3_ruleNamed 39 = .ok (.ifCond .eq 5, 3) := dc_at dkX3_ruleNamed_b2 1 rfl
theorem dX3_ruleNamed_42 : decode cX3_ruleNamed 42 = .ok (.iconst 3, 1) := dc_at dkX3_ruleNamed_b2 2 rfl
theorem dX3_ruleNamed_43 : decode cX3_ruleNamed 43 = .ok (.ireturn, 1) := dc_at dkX3_ruleNamed_b2 3 rfl
theorem dX3_ruleNamed_44 : decode cX3_ruleNamed 44 = .ok (.aload_n 0, 1) := dc_at dkX3_ruleNamed_b2 4 rfl
theorem dX3_ruleNamed_45 : decode cX3_ruleNamed 45 = .ok (.ldc 110, 2) := dc_at dkX3_ruleNamed_b2 5 rfl
theorem dX3_ruleNamed_47 : decode cX3_ruleNamed 47 = .ok (.invokevirtual 100, 3) := dc_at dkX3_ruleNamed_b2 6 rfl
theorem dX3_ruleNamed_50 : decode cX3_ruleNamed 50 = .ok (.ifCond .eq 5, 3) := dc_at dkX3_ruleNamed_b2 7 rfl
theorem dX3_ruleNamed_53 : decode cX3_ruleNamed 53 = .ok (.iconst 4, 1) := dc_at dkX3_ruleNamed_b2 8 rfl
theorem dX3_ruleNamed_54 : decode cX3_ruleNamed 54 = .ok (.ireturn, 1) := dc_at dkX3_ruleNamed_b2 9 rfl
def drX3_ruleNamed_b3 : List (Nat × (Instr × Nat)) := [(55, (.aload_n 0, 1)), (56, (.ldc 112, 2)), (58, (.invokevirtual 100, 3)), (61, (.ifCond .eq 5, 3)), (64, (.iconst 5, 1)), (65, (.ireturn, 1)), (66, (.aload_n 0, 1)), (67, (.ldc 114, 2)), (69, (.invokevirtual 100, 3)), (72, (.ifCond .eq 6, 3))]
theorem dkX3_ruleNamed_b3 : ((drX3_ruleNamed_b3).all fun r => decide (decode cX3_ruleNamed r.1 = .ok r.2)) = true := by decide +kernel
theorem dX3_ruleNamed_55 : decode cX3_ruleNamed 55 = .ok (.aload_n 0, 1) := dc_at dkX3_ruleNamed_b3 0 rfl
theorem dX3_ruleNamed_56 : decode cX3_ruleNamed 56 = .ok (.ldc 112, 2) := dc_at dkX3_ruleNamed_b3 1 rfl
theorem dX3_ruleNamed_58 : decode cX3_ruleNamed 58 = .ok (.invokevirtual 100, 3) := dc_at dkX3_ruleNamed_b3 2 rfl
theorem dX3_ruleNamed_61 : decode cX3_ruleNamed 61 = .ok (.ifCond .eq 5, 3) := dc_at dkX3_ruleNamed_b3 3 rfl
theorem dX3_ruleNamed_64 : decode cX3_ruleNamed 64 = .ok (.iconst 5, 1) := dc_at dkX3_ruleNamed_b3 4 rfl
theorem dX3_ruleNamed_65 : decode cX3_ruleNamed 65 = .ok (.ireturn, 1) := dc_at dkX3_ruleNamed_b3 5 rfl
theorem dX3_ruleNamed_66 : decode cX3_ruleNamed 66 = .ok (.aload_n 0, 1) := dc_at dkX3_ruleNamed_b3 6 rfl
theorem dX3_ruleNamed_67 : decode cX3_ruleNamed 67 = .ok (.ldc 114, 2) := dc_at dkX3_ruleNamed_b3 7 rfl
theorem dX3_ruleNamed_69 : decode cX3_ruleNamed 69 = .ok (.invokevirtual 100, 3) := dc_at dkX3_ruleNamed_b3 8 rfl
theorem dX3_ruleNamed_72 : decode cX3_ruleNamed 72 = .ok (.ifCond .eq 6, 3) := dc_at dkX3_ruleNamed_b3 9 rfl
def drX3_ruleNamed_b4 : List (Nat × (Instr × Nat)) := [(75, (.bipush 6, 2)), (77, (.ireturn, 1)), (78, (.aload_n 0, 1)), (79, (.ldc 116, 2)), (81, (.invokevirtual 100, 3)), (84, (.ifCond .eq 6, 3)), (87, (.bipush 7, 2)), (89, (.ireturn, 1)), (90, (.aload_n 0, 1)), (91, (.ldc 118, 2))]
theorem dkX3_ruleNamed_b4 : ((drX3_ruleNamed_b4).all fun r => decide (decode cX3_ruleNamed r.1 = .ok r.2)) = true := by decide +kernel
theorem dX3_ruleNamed_75 : decode cX3_ruleNamed 75 = .ok (.bipush 6, 2) := dc_at dkX3_ruleNamed_b4 0 rfl
theorem dX3_ruleNamed_77 : decode cX3_ruleNamed 77 = .ok (.ireturn, 1) := dc_at dkX3_ruleNamed_b4 1 rfl
theorem dX3_ruleNamed_78 : decode cX3_ruleNamed 78 = .ok (.aload_n 0, 1) := dc_at dkX3_ruleNamed_b4 2 rfl
theorem dX3_ruleNamed_79 : decode cX3_ruleNamed 79 = .ok (.ldc 116, 2) := dc_at dkX3_ruleNamed_b4 3 rfl
theorem dX3_ruleNamed_81 : decode cX3_ruleNamed 81 = .ok (.invokevirtual 100, 3) := dc_at dkX3_ruleNamed_b4 4 rfl
theorem dX3_ruleNamed_84 : decode cX3_ruleNamed 84 = .ok (.ifCond .eq 6, 3) := dc_at dkX3_ruleNamed_b4 5 rfl
theorem dX3_ruleNamed_87 : decode cX3_ruleNamed 87 = .ok (.bipush 7, 2) := dc_at dkX3_ruleNamed_b4 6 rfl
theorem dX3_ruleNamed_89 : decode cX3_ruleNamed 89 = .ok (.ireturn, 1) := dc_at dkX3_ruleNamed_b4 7 rfl
theorem dX3_ruleNamed_90 : decode cX3_ruleNamed 90 = .ok (.aload_n 0, 1) := dc_at dkX3_ruleNamed_b4 8 rfl
theorem dX3_ruleNamed_91 : decode cX3_ruleNamed 91 = .ok (.ldc 118, 2) := dc_at dkX3_ruleNamed_b4 9 rfl
def drX3_ruleNamed_b5 : List (Nat × (Instr × Nat)) := [(93, (.invokevirtual 100, 3)), (96, (.ifCond .eq 6, 3)), (99, (.bipush 8, 2)), (101, (.ireturn, 1)), (102, (.bipush (-4), 2)), (104, (.ireturn, 1))]
theorem dkX3_ruleNamed_b5 : ((drX3_ruleNamed_b5).all fun r => decide (decode cX3_ruleNamed r.1 = .ok r.2)) = true := by decide +kernel
theorem dX3_ruleNamed_93 : decode cX3_ruleNamed 93 = .ok (.invokevirtual 100, 3) := dc_at dkX3_ruleNamed_b5 0 rfl
theorem dX3_ruleNamed_96 : decode cX3_ruleNamed 96 = .ok (.ifCond .eq 6, 3) := dc_at dkX3_ruleNamed_b5 1 rfl
theorem dX3_ruleNamed_99 : decode cX3_ruleNamed 99 = .ok (.bipush 8, 2) := dc_at dkX3_ruleNamed_b5 2 rfl
theorem dX3_ruleNamed_101 : decode cX3_ruleNamed 101 = .ok (.ireturn, 1) := dc_at dkX3_ruleNamed_b5 3 rfl
theorem dX3_ruleNamed_102 : decode cX3_ruleNamed 102 = .ok (.bipush (-4), 2) := dc_at dkX3_ruleNamed_b5 4 rfl
theorem dX3_ruleNamed_104 : decode cX3_ruleNamed 104 = .ok (.ireturn, 1) := dc_at dkX3_ruleNamed_b5 5 rfl
def drX3_takeLine_b0 : List (Nat × (Instr × Nat)) := [(0, (.aload_n 0, 1)), (1, (.invokevirtual 120, 3)), (4, (.istore_n 1, 1)), (5, (.iload_n 1, 1)), (6, (.bipush (-4), 2)), (8, (.if_icmp .eq 11, 3)), (11, (.aload_n 0, 1)), (12, (.iload_n 1, 1)), (13, (.invokevirtual 123, 3)), (16, (.goto 44, 3))]
theorem dkX3_takeLine_b0 : ((drX3_takeLine_b0).all fun r => decide (decode cX3_takeLine r.1 = .ok r.2)) = true := by decide +kernel
theorem dX3_takeLine_0 : decode cX3_takeLine 0 = .ok (.aload_n 0, 1) := dc_at dkX3_takeLine_b0 0 rfl
theorem dX3_takeLine_1 : decode cX3_takeLine 1 = .ok (.invokevirtual 120, 3) := dc_at dkX3_takeLine_b0 1 rfl
theorem dX3_takeLine_4 : decode cX3_takeLine 4 = .ok (.istore_n 1, 1) := dc_at dkX3_takeLine_b0 2 rfl
theorem dX3_takeLine_5 : decode cX3_takeLine 5 = .ok (.iload_n 1, 1) := dc_at dkX3_takeLine_b0 3 rfl
theorem dX3_takeLine_6 : decode cX3_takeLine 6 = .ok (.bipush (-4), 2) := dc_at dkX3_takeLine_b0 4 rfl
theorem dX3_takeLine_8 : decode cX3_takeLine 8 = .ok (.if_icmp .eq 11, 3) := dc_at dkX3_takeLine_b0 5 rfl
theorem dX3_takeLine_11 : decode cX3_takeLine 11 = .ok (.aload_n 0, 1) := dc_at dkX3_takeLine_b0 6 rfl
theorem dX3_takeLine_12 : decode cX3_takeLine 12 = .ok (.iload_n 1, 1) := dc_at dkX3_takeLine_b0 7 rfl
theorem dX3_takeLine_13 : decode cX3_takeLine 13 = .ok (.invokevirtual 123, 3) := dc_at dkX3_takeLine_b0 8 rfl
theorem dX3_takeLine_16 : decode cX3_takeLine 16 = .ok (.goto 44, 3) := dc_at dkX3_takeLine_b0 9 rfl
def drX3_takeLine_b1 : List (Nat × (Instr × Nat)) := [(19, (.aload_n 0, 1)), (20, (.ldc 127, 2)), (22, (.invokevirtual 100, 3)), (25, (.ifCond .eq 10, 3)), (28, (.aload_n 0, 1)), (29, (.invokevirtual 129, 3)), (32, (.goto 28, 3)), (35, (.aload_n 0, 1)), (36, (.ldc 132, 2)), (38, (.invokevirtual 100, 3))]
theorem dkX3_takeLine_b1 : ((drX3_takeLine_b1).all fun r => decide (decode cX3_takeLine r.1 = .ok r.2)) = true := by decide +kernel
theorem dX3_takeLine_19 : decode cX3_takeLine 19 = .ok (.aload_n 0, 1) := dc_at dkX3_takeLine_b1 0 rfl
theorem dX3_takeLine_20 : decode cX3_takeLine 20 = .ok (.ldc 127, 2) := dc_at dkX3_takeLine_b1 1 rfl
theorem dX3_takeLine_22 : decode cX3_takeLine 22 = .ok (.invokevirtual 100, 3) := dc_at dkX3_takeLine_b1 2 rfl
theorem dX3_takeLine_25 : decode cX3_takeLine 25 = .ok (.ifCond .eq 10, 3) := dc_at dkX3_takeLine_b1 3 rfl
theorem dX3_takeLine_28 : decode cX3_takeLine 28 = .ok (.aload_n 0, 1) := dc_at dkX3_takeLine_b1 4 rfl
theorem dX3_takeLine_29 : decode cX3_takeLine 29 = .ok (.invokevirtual 129, 3) := dc_at dkX3_takeLine_b1 5 rfl
theorem dX3_takeLine_32 : decode cX3_takeLine 32 = .ok (.goto 28, 3) := dc_at dkX3_takeLine_b1 6 rfl
theorem dX3_takeLine_35 : decode cX3_takeLine 35 = .ok (.aload_n 0, 1) := dc_at dkX3_takeLine_b1 7 rfl
theorem dX3_takeLine_36 : decode cX3_takeLine 36 = .ok (.ldc 132, 2) := dc_at dkX3_takeLine_b1 8 rfl
theorem dX3_takeLine_38 : decode cX3_takeLine 38 = .ok (.invokevirtual 100, 3) := dc_at dkX3_takeLine_b1 9 rfl
def drX3_takeLine_b2 : List (Nat × (Instr × Nat)) := [(41, (.ifCond .eq 10, 3)), (44, (.aload_n 0, 1)), (45, (.invokevirtual 134, 3)), (48, (.goto 12, 3)), (51, (.aload_n 0, 1)), (52, (.iconst 2, 1)), (53, (.aload_n 0, 1)), (54, (.getfield 73, 3)), (57, (.invokevirtual 66, 3)), (60, (.aload_n 0, 1))]
theorem dkX3_takeLine_b2 : ((drX3_takeLine_b2).all fun r => decide (decode cX3_takeLine r.1 = .ok r.2)) = true := by decide +kernel
theorem dX3_takeLine_41 : decode cX3_takeLine 41 = .ok (.ifCond .eq 10, 3) := dc_at dkX3_takeLine_b2 0 rfl
theorem dX3_takeLine_44 : decode cX3_takeLine 44 = .ok (.aload_n 0, 1) := dc_at dkX3_takeLine_b2 1 rfl
theorem dX3_takeLine_45 : decode cX3_takeLine 45 = .ok (.invokevirtual 134, 3) := dc_at dkX3_takeLine_b2 2 rfl
theorem dX3_takeLine_48 : decode cX3_takeLine 48 = .ok (.goto 12, 3) := dc_at dkX3_takeLine_b2 3 rfl
theorem dX3_takeLine_51 : decode cX3_takeLine 51 = .ok (.aload_n 0, 1) := dc_at dkX3_takeLine_b2 4 rfl
theorem dX3_takeLine_52 : decode cX3_takeLine 52 = .ok (.iconst 2, 1) := dc_at dkX3_takeLine_b2 5 rfl
theorem dX3_takeLine_53 : decode cX3_takeLine 53 = .ok (.aload_n 0, 1) := dc_at dkX3_takeLine_b2 6 rfl
theorem dX3_takeLine_54 : decode cX3_takeLine 54 = .ok (.getfield 73, 3) := dc_at dkX3_takeLine_b2 7 rfl
theorem dX3_takeLine_57 : decode cX3_takeLine 57 = .ok (.invokevirtual 66, 3) := dc_at dkX3_takeLine_b2 8 rfl
theorem dX3_takeLine_60 : decode cX3_takeLine 60 = .ok (.aload_n 0, 1) := dc_at dkX3_takeLine_b2 9 rfl
def drX3_takeLine_b3 : List (Nat × (Instr × Nat)) := [(61, (.getfield 35, 3)), (64, (.ifCond .ne 7, 3)), (67, (.aload_n 0, 1)), (68, (.invokevirtual 137, 3)), (71, (.return_, 1))]
theorem dkX3_takeLine_b3 : ((drX3_takeLine_b3).all fun r => decide (decode cX3_takeLine r.1 = .ok r.2)) = true := by decide +kernel
theorem dX3_takeLine_61 : decode cX3_takeLine 61 = .ok (.getfield 35, 3) := dc_at dkX3_takeLine_b3 0 rfl
theorem dX3_takeLine_64 : decode cX3_takeLine 64 = .ok (.ifCond .ne 7, 3) := dc_at dkX3_takeLine_b3 1 rfl
theorem dX3_takeLine_67 : decode cX3_takeLine 67 = .ok (.aload_n 0, 1) := dc_at dkX3_takeLine_b3 2 rfl
theorem dX3_takeLine_68 : decode cX3_takeLine 68 = .ok (.invokevirtual 137, 3) := dc_at dkX3_takeLine_b3 3 rfl
theorem dX3_takeLine_71 : decode cX3_takeLine 71 = .ok (.return_, 1) := dc_at dkX3_takeLine_b3 4 rfl
def drX3_takeRule_b0 : List (Nat × (Instr × Nat)) := [(0, (.aload_n 0, 1)), (1, (.getfield 32, 3)), (4, (.iload_n 1, 1)), (5, (.ishr, 1)), (6, (.iconst 1, 1)), (7, (.iand, 1)), (8, (.iconst 1, 1)), (9, (.if_icmp .ne 13, 3)), (12, (.aload_n 0, 1)), (13, (.iconst 4, 1))]
theorem dkX3_takeRule_b0 : ((drX3_takeRule_b0).all fun r => decide (decode cX3_takeRule r.1 = .ok r.2)) = true := by decide +kernel
theorem dX3_takeRule_0 : decode cX3_takeRule 0 = .ok (.aload_n 0, 1) := dc_at dkX3_takeRule_b0 0 rfl
theorem dX3_takeRule_1 : decode cX3_takeRule 1 = .ok (.getfield 32, 3) := dc_at dkX3_takeRule_b0 1 rfl
theorem dX3_takeRule_4 : decode cX3_takeRule 4 = .ok (.iload_n 1, 1) := dc_at dkX3_takeRule_b0 2 rfl
theorem dX3_takeRule_5 : decode cX3_takeRule 5 = .ok (.ishr, 1) := dc_at dkX3_takeRule_b0 3 rfl
theorem dX3_takeRule_6 : decode cX3_takeRule 6 = .ok (.iconst 1, 1) := dc_at dkX3_takeRule_b0 4 rfl
theorem dX3_takeRule_7 : decode cX3_takeRule 7 = .ok (.iand, 1) := dc_at dkX3_takeRule_b0 5 rfl
theorem dX3_takeRule_8 : decode cX3_takeRule 8 = .ok (.iconst 1, 1) := dc_at dkX3_takeRule_b0 6 rfl
theorem dX3_takeRule_9 : decode cX3_takeRule 9 = .ok (.if_icmp .ne 13, 3) := dc_at dkX3_takeRule_b0 7 rfl
theorem dX3_takeRule_12 : decode cX3_takeRule 12 = .ok (.aload_n 0, 1) := dc_at dkX3_takeRule_b0 8 rfl
theorem dX3_takeRule_13 : decode cX3_takeRule 13 = .ok (.iconst 4, 1) := dc_at dkX3_takeRule_b0 9 rfl
def drX3_takeRule_b1 : List (Nat × (Instr × Nat)) := [(14, (.aload_n 0, 1)), (15, (.getfield 73, 3)), (18, (.invokevirtual 66, 3)), (21, (.return_, 1)), (22, (.aload_n 0, 1)), (23, (.dup, 1)), (24, (.getfield 32, 3)), (27, (.iconst 1, 1)), (28, (.iload_n 1, 1)), (29, (.ishl, 1))]
theorem dkX3_takeRule_b1 : ((drX3_takeRule_b1).all fun r => decide (decode cX3_takeRule r.1 = .ok r.2)) = true := by decide +kernel
theorem dX3_takeRule_14 : decode cX3_takeRule 14 = .ok (.aload_n 0, 1) := dc_at dkX3_takeRule_b1 0 rfl
theorem dX3_takeRule_15 : decode cX3_takeRule 15 = .ok (.getfield 73, 3) := dc_at dkX3_takeRule_b1 1 rfl
theorem dX3_takeRule_18 : decode cX3_takeRule 18 = .ok (.invokevirtual 66, 3) := dc_at dkX3_takeRule_b1 2 rfl
theorem dX3_takeRule_21 : decode cX3_takeRule 21 = .ok (.return_, 1) := dc_at dkX3_takeRule_b1 3 rfl
theorem dX3_takeRule_22 : decode cX3_takeRule 22 = .ok (.aload_n 0, 1) := dc_at dkX3_takeRule_b1 4 rfl
theorem dX3_takeRule_23 : decode cX3_takeRule 23 = .ok (.dup, 1) := dc_at dkX3_takeRule_b1 5 rfl
theorem dX3_takeRule_24 : decode cX3_takeRule 24 = .ok (.getfield 32, 3) := dc_at dkX3_takeRule_b1 6 rfl
theorem dX3_takeRule_27 : decode cX3_takeRule 27 = .ok (.iconst 1, 1) := dc_at dkX3_takeRule_b1 7 rfl
theorem dX3_takeRule_28 : decode cX3_takeRule 28 = .ok (.iload_n 1, 1) := dc_at dkX3_takeRule_b1 8 rfl
theorem dX3_takeRule_29 : decode cX3_takeRule 29 = .ok (.ishl, 1) := dc_at dkX3_takeRule_b1 9 rfl
def drX3_takeRule_b2 : List (Nat × (Instr × Nat)) := [(30, (.ior, 1)), (31, (.putfield 32, 3)), (34, (.aload_n 0, 1)), (35, (.invokevirtual 41, 3)), (38, (.aload_n 0, 1)), (39, (.getstatic 140, 3)), (42, (.iload_n 1, 1)), (43, (.invokestatic 144, 3)), (46, (.getstatic 148, 3)), (49, (.iload_n 1, 1))]
theorem dkX3_takeRule_b2 : ((drX3_takeRule_b2).all fun r => decide (decode cX3_takeRule r.1 = .ok r.2)) = true := by decide +kernel
theorem dX3_takeRule_30 : decode cX3_takeRule 30 = .ok (.ior, 1) := dc_at dkX3_takeRule_b2 0 rfl
theorem dX3_takeRule_31 : decode cX3_takeRule 31 = .ok (.putfield 32, 3) := dc_at dkX3_takeRule_b2 1 rfl
theorem dX3_takeRule_34 : decode cX3_takeRule 34 = .ok (.aload_n 0, 1) := dc_at dkX3_takeRule_b2 2 rfl
theorem dX3_takeRule_35 : decode cX3_takeRule 35 = .ok (.invokevirtual 41, 3) := dc_at dkX3_takeRule_b2 3 rfl
theorem dX3_takeRule_38 : decode cX3_takeRule 38 = .ok (.aload_n 0, 1) := dc_at dkX3_takeRule_b2 4 rfl
theorem dX3_takeRule_39 : decode cX3_takeRule 39 = .ok (.getstatic 140, 3) := dc_at dkX3_takeRule_b2 5 rfl
theorem dX3_takeRule_42 : decode cX3_takeRule 42 = .ok (.iload_n 1, 1) := dc_at dkX3_takeRule_b2 6 rfl
theorem dX3_takeRule_43 : decode cX3_takeRule 43 = .ok (.invokestatic 144, 3) := dc_at dkX3_takeRule_b2 7 rfl
theorem dX3_takeRule_46 : decode cX3_takeRule 46 = .ok (.getstatic 148, 3) := dc_at dkX3_takeRule_b2 8 rfl
theorem dX3_takeRule_49 : decode cX3_takeRule 49 = .ok (.iload_n 1, 1) := dc_at dkX3_takeRule_b2 9 rfl
def drX3_takeRule_b3 : List (Nat × (Instr × Nat)) := [(50, (.invokestatic 144, 3)), (53, (.invokevirtual 151, 3)), (56, (.ifCond .ne 4, 3)), (59, (.return_, 1)), (60, (.aload_n 0, 1)), (61, (.getfield 18, 3)), (64, (.getfield 155, 3)), (67, (.iload_n 1, 1)), (68, (.aload_n 0, 1)), (69, (.getfield 86, 3))]
theorem dkX3_takeRule_b3 : ((drX3_takeRule_b3).all fun r => decide (decode cX3_takeRule r.1 = .ok r.2)) = true := by decide +kernel
theorem dX3_takeRule_50 : decode cX3_takeRule 50 = .ok (.invokestatic 144, 3) := dc_at dkX3_takeRule_b3 0 rfl
theorem dX3_takeRule_53 : decode cX3_takeRule 53 = .ok (.invokevirtual 151, 3) := dc_at dkX3_takeRule_b3 1 rfl
theorem dX3_takeRule_56 : decode cX3_takeRule 56 = .ok (.ifCond .ne 4, 3) := dc_at dkX3_takeRule_b3 2 rfl
theorem dX3_takeRule_59 : decode cX3_takeRule 59 = .ok (.return_, 1) := dc_at dkX3_takeRule_b3 3 rfl
theorem dX3_takeRule_60 : decode cX3_takeRule 60 = .ok (.aload_n 0, 1) := dc_at dkX3_takeRule_b3 4 rfl
theorem dX3_takeRule_61 : decode cX3_takeRule 61 = .ok (.getfield 18, 3) := dc_at dkX3_takeRule_b3 5 rfl
theorem dX3_takeRule_64 : decode cX3_takeRule 64 = .ok (.getfield 155, 3) := dc_at dkX3_takeRule_b3 6 rfl
theorem dX3_takeRule_67 : decode cX3_takeRule 67 = .ok (.iload_n 1, 1) := dc_at dkX3_takeRule_b3 7 rfl
theorem dX3_takeRule_68 : decode cX3_takeRule 68 = .ok (.aload_n 0, 1) := dc_at dkX3_takeRule_b3 8 rfl
theorem dX3_takeRule_69 : decode cX3_takeRule 69 = .ok (.getfield 86, 3) := dc_at dkX3_takeRule_b3 9 rfl
def drX3_takeRule_b4 : List (Nat × (Instr × Nat)) := [(72, (.invokestatic 158, 3)), (75, (.aload_n 0, 1)), (76, (.invokevirtual 41, 3)), (79, (.return_, 1))]
theorem dkX3_takeRule_b4 : ((drX3_takeRule_b4).all fun r => decide (decode cX3_takeRule r.1 = .ok r.2)) = true := by decide +kernel
theorem dX3_takeRule_72 : decode cX3_takeRule 72 = .ok (.invokestatic 158, 3) := dc_at dkX3_takeRule_b4 0 rfl
theorem dX3_takeRule_75 : decode cX3_takeRule 75 = .ok (.aload_n 0, 1) := dc_at dkX3_takeRule_b4 1 rfl
theorem dX3_takeRule_76 : decode cX3_takeRule 76 = .ok (.invokevirtual 41, 3) := dc_at dkX3_takeRule_b4 2 rfl
theorem dX3_takeRule_79 : decode cX3_takeRule 79 = .ok (.return_, 1) := dc_at dkX3_takeRule_b4 3 rfl
def drX3_takeBlock_b0 : List (Nat × (Instr × Nat)) := [(0, (.aload_n 0, 1)), (1, (.invokevirtual 162, 3)), (4, (.ifCond .ne 4, 3)), (7, (.return_, 1)), (8, (.aload_n 0, 1)), (9, (.getfield 18, 3)), (12, (.iconst 0, 1)), (13, (.putfield 53, 3)), (16, (.aload_n 0, 1)), (17, (.invokevirtual 41, 3))]
theorem dkX3_takeBlock_b0 : ((drX3_takeBlock_b0).all fun r => decide (decode cX3_takeBlock r.1 = .ok r.2)) = true := by decide +kernel
theorem dX3_takeBlock_0 : decode cX3_takeBlock 0 = .ok (.aload_n 0, 1) := dc_at dkX3_takeBlock_b0 0 rfl
theorem dX3_takeBlock_1 : decode cX3_takeBlock 1 = .ok (.invokevirtual 162, 3) := dc_at dkX3_takeBlock_b0 1 rfl
theorem dX3_takeBlock_4 : decode cX3_takeBlock 4 = .ok (.ifCond .ne 4, 3) := dc_at dkX3_takeBlock_b0 2 rfl
theorem dX3_takeBlock_7 : decode cX3_takeBlock 7 = .ok (.return_, 1) := dc_at dkX3_takeBlock_b0 3 rfl
theorem dX3_takeBlock_8 : decode cX3_takeBlock 8 = .ok (.aload_n 0, 1) := dc_at dkX3_takeBlock_b0 4 rfl
theorem dX3_takeBlock_9 : decode cX3_takeBlock 9 = .ok (.getfield 18, 3) := dc_at dkX3_takeBlock_b0 5 rfl
theorem dX3_takeBlock_12 : decode cX3_takeBlock 12 = .ok (.iconst 0, 1) := dc_at dkX3_takeBlock_b0 6 rfl
theorem dX3_takeBlock_13 : decode cX3_takeBlock 13 = .ok (.putfield 53, 3) := dc_at dkX3_takeBlock_b0 7 rfl
theorem dX3_takeBlock_16 : decode cX3_takeBlock 16 = .ok (.aload_n 0, 1) := dc_at dkX3_takeBlock_b0 8 rfl
theorem dX3_takeBlock_17 : decode cX3_takeBlock 17 = .ok (.invokevirtual 41, 3) := dc_at dkX3_takeBlock_b0 9 rfl
def drX3_takeBlock_b1 : List (Nat × (Instr × Nat)) := [(20, (.iconst 0, 1)), (21, (.istore_n 1, 1)), (22, (.iload_n 1, 1)), (23, (.bipush 12, 2)), (25, (.if_icmp .gt 67, 3)), (28, (.iload_n 1, 1)), (29, (.ifCond .eq 11, 3)), (32, (.aload_n 0, 1)), (33, (.getfield 44, 3)), (36, (.iconst 2, 1))]
theorem dkX3_takeBlock_b1 : ((drX3_takeBlock_b1).all fun r => decide (decode cX3_takeBlock r.1 = .ok r.2)) = true := by decide +kernel
theorem dX3_takeBlock_20 : decode cX3_takeBlock 20 = .ok (.iconst 0, 1) := dc_at dkX3_takeBlock_b1 0 rfl
theorem dX3_takeBlock_21 : decode cX3_takeBlock 21 = .ok (.istore_n 1, 1) := dc_at dkX3_takeBlock_b1 1 rfl
theorem dX3_takeBlock_22 : decode cX3_takeBlock 22 = .ok (.iload_n 1, 1) := dc_at dkX3_takeBlock_b1 2 rfl
theorem dX3_takeBlock_23 : decode cX3_takeBlock 23 = .ok (.bipush 12, 2) := dc_at dkX3_takeBlock_b1 3 rfl
theorem dX3_takeBlock_25 : decode cX3_takeBlock 25 = .ok (.if_icmp .gt 67, 3) := dc_at dkX3_takeBlock_b1 4 rfl
theorem dX3_takeBlock_28 : decode cX3_takeBlock 28 = .ok (.iload_n 1, 1) := dc_at dkX3_takeBlock_b1 5 rfl
theorem dX3_takeBlock_29 : decode cX3_takeBlock 29 = .ok (.ifCond .eq 11, 3) := dc_at dkX3_takeBlock_b1 6 rfl
theorem dX3_takeBlock_32 : decode cX3_takeBlock 32 = .ok (.aload_n 0, 1) := dc_at dkX3_takeBlock_b1 7 rfl
theorem dX3_takeBlock_33 : decode cX3_takeBlock 33 = .ok (.getfield 44, 3) := dc_at dkX3_takeBlock_b1 8 rfl
theorem dX3_takeBlock_36 : decode cX3_takeBlock 36 = .ok (.iconst 2, 1) := dc_at dkX3_takeBlock_b1 9 rfl
def drX3_takeBlock_b2 : List (Nat × (Instr × Nat)) := [(37, (.if_icmp .ne 55, 3)), (40, (.aload_n 0, 1)), (41, (.iconst 0, 1)), (42, (.sipush 255, 3)), (45, (.invokevirtual 151, 3)), (48, (.ifCond .ne 4, 3)), (51, (.return_, 1)), (52, (.iload_n 1, 1)), (53, (.bipush 12, 2)), (55, (.if_icmp .ne 15, 3))]
theorem dkX3_takeBlock_b2 : ((drX3_takeBlock_b2).all fun r => decide (decode cX3_takeBlock r.1 = .ok r.2)) = true := by decide +kernel
theorem dX3_takeBlock_37 : decode cX3_takeBlock 37 = .ok (.if_icmp .ne 55, 3) := dc_at dkX3_takeBlock_b2 0 rfl
theorem dX3_takeBlock_40 : decode cX3_takeBlock 40 = .ok (.aload_n 0, 1) := dc_at dkX3_takeBlock_b2 1 rfl
theorem dX3_takeBlock_41 : decode cX3_takeBlock 41 = .ok (.iconst 0, 1) := dc_at dkX3_takeBlock_b2 2 rfl
theorem dX3_takeBlock_42 : decode cX3_takeBlock 42 = .ok (.sipush 255, 3) := dc_at dkX3_takeBlock_b2 3 rfl
theorem dX3_takeBlock_45 : decode cX3_takeBlock 45 = .ok (.invokevirtual 151, 3) := dc_at dkX3_takeBlock_b2 4 rfl
theorem dX3_takeBlock_48 : decode cX3_takeBlock 48 = .ok (.ifCond .ne 4, 3) := dc_at dkX3_takeBlock_b2 5 rfl
theorem dX3_takeBlock_51 : decode cX3_takeBlock 51 = .ok (.return_, 1) := dc_at dkX3_takeBlock_b2 6 rfl
theorem dX3_takeBlock_52 : decode cX3_takeBlock 52 = .ok (.iload_n 1, 1) := dc_at dkX3_takeBlock_b2 7 rfl
theorem dX3_takeBlock_53 : decode cX3_takeBlock 53 = .ok (.bipush 12, 2) := dc_at dkX3_takeBlock_b2 8 rfl
theorem dX3_takeBlock_55 : decode cX3_takeBlock 55 = .ok (.if_icmp .ne 15, 3) := dc_at dkX3_takeBlock_b2 9 rfl
def drX3_takeBlock_b3 : List (Nat × (Instr × Nat)) := [(58, (.aload_n 0, 1)), (59, (.iconst 5, 1)), (60, (.aload_n 0, 1)), (61, (.getfield 73, 3)), (64, (.invokevirtual 66, 3)), (67, (.goto 15, 3)), (70, (.aload_n 0, 1)), (71, (.getfield 18, 3)), (74, (.aload_n 0, 1)), (75, (.getfield 86, 3))]
theorem dkX3_takeBlock_b3 : ((drX3_takeBlock_b3).all fun r => decide (decode cX3_takeBlock r.1 = .ok r.2)) = true := by decide +kernel
theorem dX3_takeBlock_58 : decode cX3_takeBlock 58 = .ok (.aload_n 0, 1) := dc_at dkX3_takeBlock_b3 0 rfl
theorem dX3_takeBlock_59 : decode cX3_takeBlock 59 = .ok (.iconst 5, 1) := dc_at dkX3_takeBlock_b3 1 rfl
theorem dX3_takeBlock_60 : decode cX3_takeBlock 60 = .ok (.aload_n 0, 1) := dc_at dkX3_takeBlock_b3 2 rfl
theorem dX3_takeBlock_61 : decode cX3_takeBlock 61 = .ok (.getfield 73, 3) := dc_at dkX3_takeBlock_b3 3 rfl
theorem dX3_takeBlock_64 : decode cX3_takeBlock 64 = .ok (.invokevirtual 66, 3) := dc_at dkX3_takeBlock_b3 4 rfl
theorem dX3_takeBlock_67 : decode cX3_takeBlock 67 = .ok (.goto 15, 3) := dc_at dkX3_takeBlock_b3 5 rfl
theorem dX3_takeBlock_70 : decode cX3_takeBlock 70 = .ok (.aload_n 0, 1) := dc_at dkX3_takeBlock_b3 6 rfl
theorem dX3_takeBlock_71 : decode cX3_takeBlock 71 = .ok (.getfield 18, 3) := dc_at dkX3_takeBlock_b3 7 rfl
theorem dX3_takeBlock_74 : decode cX3_takeBlock 74 = .ok (.aload_n 0, 1) := dc_at dkX3_takeBlock_b3 8 rfl
theorem dX3_takeBlock_75 : decode cX3_takeBlock 75 = .ok (.getfield 86, 3) := dc_at dkX3_takeBlock_b3 9 rfl
def drX3_takeBlock_b4 : List (Nat × (Instr × Nat)) := [(78, (.invokevirtual 166, 3)), (81, (.pop, 1)), (82, (.aload_n 0, 1)), (83, (.invokevirtual 41, 3)), (86, (.iinc 1 1, 3)), (89, (.goto (-67), 3)), (92, (.aload_n 0, 1)), (93, (.getfield 18, 3)), (96, (.aload_n 0, 1)), (97, (.getfield 18, 3))]
theorem dkX3_takeBlock_b4 : ((drX3_takeBlock_b4).all fun r => decide (decode cX3_takeBlock r.1 = .ok r.2)) = true := by decide +kernel
theorem dX3_takeBlock_78 : decode cX3_takeBlock 78 = .ok (.invokevirtual 166, 3) := dc_at dkX3_takeBlock_b4 0 rfl
theorem dX3_takeBlock_81 : decode cX3_takeBlock 81 = .ok (.pop, 1) := dc_at dkX3_takeBlock_b4 1 rfl
theorem dX3_takeBlock_82 : decode cX3_takeBlock 82 = .ok (.aload_n 0, 1) := dc_at dkX3_takeBlock_b4 2 rfl
theorem dX3_takeBlock_83 : decode cX3_takeBlock 83 = .ok (.invokevirtual 41, 3) := dc_at dkX3_takeBlock_b4 3 rfl
theorem dX3_takeBlock_86 : decode cX3_takeBlock 86 = .ok (.iinc 1 1, 3) := dc_at dkX3_takeBlock_b4 4 rfl
theorem dX3_takeBlock_89 : decode cX3_takeBlock 89 = .ok (.goto (-67), 3) := dc_at dkX3_takeBlock_b4 5 rfl
theorem dX3_takeBlock_92 : decode cX3_takeBlock 92 = .ok (.aload_n 0, 1) := dc_at dkX3_takeBlock_b4 6 rfl
theorem dX3_takeBlock_93 : decode cX3_takeBlock 93 = .ok (.getfield 18, 3) := dc_at dkX3_takeBlock_b4 7 rfl
theorem dX3_takeBlock_96 : decode cX3_takeBlock 96 = .ok (.aload_n 0, 1) := dc_at dkX3_takeBlock_b4 8 rfl
theorem dX3_takeBlock_97 : decode cX3_takeBlock 97 = .ok (.getfield 18, 3) := dc_at dkX3_takeBlock_b4 9 rfl
def drX3_takeBlock_b5 : List (Nat × (Instr × Nat)) := [(100, (.getfield 56, 3)), (103, (.iconst 0, 1)), (104, (.aload_n 0, 1)), (105, (.getfield 18, 3)), (108, (.getfield 53, 3)), (111, (.invokevirtual 169, 3)), (114, (.return_, 1))]
theorem dkX3_takeBlock_b5 : ((drX3_takeBlock_b5).all fun r => decide (decode cX3_takeBlock r.1 = .ok r.2)) = true := by decide +kernel
theorem dX3_takeBlock_100 : decode cX3_takeBlock 100 = .ok (.getfield 56, 3) := dc_at dkX3_takeBlock_b5 0 rfl
theorem dX3_takeBlock_103 : decode cX3_takeBlock 103 = .ok (.iconst 0, 1) := dc_at dkX3_takeBlock_b5 1 rfl
theorem dX3_takeBlock_104 : decode cX3_takeBlock 104 = .ok (.aload_n 0, 1) := dc_at dkX3_takeBlock_b5 2 rfl
theorem dX3_takeBlock_105 : decode cX3_takeBlock 105 = .ok (.getfield 18, 3) := dc_at dkX3_takeBlock_b5 3 rfl
theorem dX3_takeBlock_108 : decode cX3_takeBlock 108 = .ok (.getfield 53, 3) := dc_at dkX3_takeBlock_b5 4 rfl
theorem dX3_takeBlock_111 : decode cX3_takeBlock 111 = .ok (.invokevirtual 169, 3) := dc_at dkX3_takeBlock_b5 5 rfl
theorem dX3_takeBlock_114 : decode cX3_takeBlock 114 = .ok (.return_, 1) := dc_at dkX3_takeBlock_b5 6 rfl
def drX3_takeMark_b0 : List (Nat × (Instr × Nat)) := [(0, (.aload_n 0, 1)), (1, (.invokevirtual 162, 3)), (4, (.ifCond .ne 4, 3)), (7, (.return_, 1)), (8, (.aload_n 0, 1)), (9, (.getfield 18, 3)), (12, (.aload_n 0, 1)), (13, (.getfield 18, 3)), (16, (.getfield 56, 3)), (19, (.iconst 0, 1))]
theorem dkX3_takeMark_b0 : ((drX3_takeMark_b0).all fun r => decide (decode cX3_takeMark r.1 = .ok r.2)) = true := by decide +kernel
theorem dX3_takeMark_0 : decode cX3_takeMark 0 = .ok (.aload_n 0, 1) := dc_at dkX3_takeMark_b0 0 rfl
theorem dX3_takeMark_1 : decode cX3_takeMark 1 = .ok (.invokevirtual 162, 3) := dc_at dkX3_takeMark_b0 1 rfl
theorem dX3_takeMark_4 : decode cX3_takeMark 4 = .ok (.ifCond .ne 4, 3) := dc_at dkX3_takeMark_b0 2 rfl
theorem dX3_takeMark_7 : decode cX3_takeMark 7 = .ok (.return_, 1) := dc_at dkX3_takeMark_b0 3 rfl
theorem dX3_takeMark_8 : decode cX3_takeMark 8 = .ok (.aload_n 0, 1) := dc_at dkX3_takeMark_b0 4 rfl
theorem dX3_takeMark_9 : decode cX3_takeMark 9 = .ok (.getfield 18, 3) := dc_at dkX3_takeMark_b0 5 rfl
theorem dX3_takeMark_12 : decode cX3_takeMark 12 = .ok (.aload_n 0, 1) := dc_at dkX3_takeMark_b0 6 rfl
theorem dX3_takeMark_13 : decode cX3_takeMark 13 = .ok (.getfield 18, 3) := dc_at dkX3_takeMark_b0 7 rfl
theorem dX3_takeMark_16 : decode cX3_takeMark 16 = .ok (.getfield 56, 3) := dc_at dkX3_takeMark_b0 8 rfl
theorem dX3_takeMark_19 : decode cX3_takeMark 19 = .ok (.iconst 0, 1) := dc_at dkX3_takeMark_b0 9 rfl
def drX3_takeMark_b1 : List (Nat × (Instr × Nat)) := [(20, (.iconst 0, 1)), (21, (.invokevirtual 169, 3)), (24, (.aload_n 0, 1)), (25, (.invokevirtual 41, 3)), (28, (.return_, 1))]
theorem dkX3_takeMark_b1 : ((drX3_takeMark_b1).all fun r => decide (decode cX3_takeMark r.1 = .ok r.2)) = true := by decide +kernel
theorem dX3_takeMark_20 : decode cX3_takeMark 20 = .ok (.iconst 0, 1) := dc_at dkX3_takeMark_b1 0 rfl
theorem dX3_takeMark_21 : decode cX3_takeMark 21 = .ok (.invokevirtual 169, 3) := dc_at dkX3_takeMark_b1 1 rfl
theorem dX3_takeMark_24 : decode cX3_takeMark 24 = .ok (.aload_n 0, 1) := dc_at dkX3_takeMark_b1 2 rfl
theorem dX3_takeMark_25 : decode cX3_takeMark 25 = .ok (.invokevirtual 41, 3) := dc_at dkX3_takeMark_b1 3 rfl
theorem dX3_takeMark_28 : decode cX3_takeMark 28 = .ok (.return_, 1) := dc_at dkX3_takeMark_b1 4 rfl
def drX3_hasRoomForBlock_b0 : List (Nat × (Instr × Nat)) := [(0, (.aload_n 0, 1)), (1, (.getfield 18, 3)), (4, (.getfield 56, 3)), (7, (.bipush 12, 2)), (9, (.if_icmp .ge 5, 3)), (12, (.iconst 1, 1)), (13, (.ireturn, 1)), (14, (.aload_n 0, 1)), (15, (.iconst 5, 1)), (16, (.aload_n 0, 1))]
theorem dkX3_hasRoomForBlock_b0 : ((drX3_hasRoomForBlock_b0).all fun r => decide (decode cX3_hasRoomForBlock r.1 = .ok r.2)) = true := by decide +kernel
theorem dX3_hasRoomForBlock_0 : decode cX3_hasRoomForBlock 0 = .ok (.aload_n 0, 1) := dc_at dkX3_hasRoomForBlock_b0 0 rfl
theorem dX3_hasRoomForBlock_1 : decode cX3_hasRoomForBlock 1 = .ok (.getfield 18, 3) := dc_at dkX3_hasRoomForBlock_b0 1 rfl
theorem dX3_hasRoomForBlock_4 : decode cX3_hasRoomForBlock 4 = .ok (.getfield 56, 3) := dc_at dkX3_hasRoomForBlock_b0 2 rfl
theorem dX3_hasRoomForBlock_7 : decode cX3_hasRoomForBlock 7 = .ok (.bipush 12, 2) := dc_at dkX3_hasRoomForBlock_b0 3 rfl
theorem dX3_hasRoomForBlock_9 : decode cX3_hasRoomForBlock 9 = .ok (.if_icmp .ge 5, 3) := dc_at dkX3_hasRoomForBlock_b0 4 rfl
theorem dX3_hasRoomForBlock_12 : decode cX3_hasRoomForBlock 12 = .ok (.iconst 1, 1) := dc_at dkX3_hasRoomForBlock_b0 5 rfl
theorem dX3_hasRoomForBlock_13 : decode cX3_hasRoomForBlock 13 = .ok (.ireturn, 1) := dc_at dkX3_hasRoomForBlock_b0 6 rfl
theorem dX3_hasRoomForBlock_14 : decode cX3_hasRoomForBlock 14 = .ok (.aload_n 0, 1) := dc_at dkX3_hasRoomForBlock_b0 7 rfl
theorem dX3_hasRoomForBlock_15 : decode cX3_hasRoomForBlock 15 = .ok (.iconst 5, 1) := dc_at dkX3_hasRoomForBlock_b0 8 rfl
theorem dX3_hasRoomForBlock_16 : decode cX3_hasRoomForBlock 16 = .ok (.aload_n 0, 1) := dc_at dkX3_hasRoomForBlock_b0 9 rfl
def drX3_hasRoomForBlock_b1 : List (Nat × (Instr × Nat)) := [(17, (.getfield 73, 3)), (20, (.invokevirtual 66, 3)), (23, (.iconst 0, 1)), (24, (.ireturn, 1))]
theorem dkX3_hasRoomForBlock_b1 : ((drX3_hasRoomForBlock_b1).all fun r => decide (decode cX3_hasRoomForBlock r.1 = .ok r.2)) = true := by decide +kernel
theorem dX3_hasRoomForBlock_17 : decode cX3_hasRoomForBlock 17 = .ok (.getfield 73, 3) := dc_at dkX3_hasRoomForBlock_b1 0 rfl
theorem dX3_hasRoomForBlock_20 : decode cX3_hasRoomForBlock 20 = .ok (.invokevirtual 66, 3) := dc_at dkX3_hasRoomForBlock_b1 1 rfl
theorem dX3_hasRoomForBlock_23 : decode cX3_hasRoomForBlock 23 = .ok (.iconst 0, 1) := dc_at dkX3_hasRoomForBlock_b1 2 rfl
theorem dX3_hasRoomForBlock_24 : decode cX3_hasRoomForBlock 24 = .ok (.ireturn, 1) := dc_at dkX3_hasRoomForBlock_b1 3 rfl
def drX3_isNumberWithin_b0 : List (Nat × (Instr × Nat)) := [(0, (.aload_n 0, 1)), (1, (.getfield 44, 3)), (4, (.iconst 2, 1)), (5, (.if_icmp .eq 15, 3)), (8, (.aload_n 0, 1)), (9, (.iconst 2, 1)), (10, (.aload_n 0, 1)), (11, (.getfield 73, 3)), (14, (.invokevirtual 66, 3)), (17, (.goto 24, 3))]
theorem dkX3_isNumberWithin_b0 : ((drX3_isNumberWithin_b0).all fun r => decide (decode cX3_isNumberWithin r.1 = .ok r.2)) = true := by decide +kernel
theorem dX3_isNumberWithin_0 : decode cX3_isNumberWithin 0 = .ok (.aload_n 0, 1) := dc_at dkX3_isNumberWithin_b0 0 rfl
theorem dX3_isNumberWithin_1 : decode cX3_isNumberWithin 1 = .ok (.getfield 44, 3) := dc_at dkX3_isNumberWithin_b0 1 rfl
theorem dX3_isNumberWithin_4 : decode cX3_isNumberWithin 4 = .ok (.iconst 2, 1) := dc_at dkX3_isNumberWithin_b0 2 rfl
theorem dX3_isNumberWithin_5 : decode cX3_isNumberWithin 5 = .ok (.if_icmp .eq 15, 3) := dc_at dkX3_isNumberWithin_b0 3 rfl
theorem dX3_isNumberWithin_8 : decode cX3_isNumberWithin 8 = .ok (.aload_n 0, 1) := dc_at dkX3_isNumberWithin_b0 4 rfl
theorem dX3_isNumberWithin_9 : decode cX3_isNumberWithin 9 = .ok (.iconst 2, 1) := dc_at dkX3_isNumberWithin_b0 5 rfl
theorem dX3_isNumberWithin_10 : decode cX3_isNumberWithin 10 = .ok (.aload_n 0, 1) := dc_at dkX3_isNumberWithin_b0 6 rfl
theorem dX3_isNumberWithin_11 : decode cX3_isNumberWithin 11 = .ok (.getfield 73, 3) := dc_at dkX3_isNumberWithin_b0 7 rfl
theorem dX3_isNumberWithin_14 : decode cX3_isNumberWithin 14 = .ok (.invokevirtual 66, 3) := dc_at dkX3_isNumberWithin_b0 8 rfl
theorem dX3_isNumberWithin_17 : decode cX3_isNumberWithin 17 = .ok (.goto 24, 3) := dc_at dkX3_isNumberWithin_b0 9 rfl
def drX3_isNumberWithin_b1 : List (Nat × (Instr × Nat)) := [(20, (.aload_n 0, 1)), (21, (.getfield 86, 3)), (24, (.iload_n 1, 1)), (25, (.iload_n 2, 1)), (26, (.invokestatic 173, 3)), (29, (.ifCond .ne 12, 3)), (32, (.aload_n 0, 1)), (33, (.iconst 3, 1)), (34, (.aload_n 0, 1)), (35, (.getfield 73, 3))]
theorem dkX3_isNumberWithin_b1 : ((drX3_isNumberWithin_b1).all fun r => decide (decode cX3_isNumberWithin r.1 = .ok r.2)) = true := by decide +kernel
theorem dX3_isNumberWithin_20 : decode cX3_isNumberWithin 20 = .ok (.aload_n 0, 1) := dc_at dkX3_isNumberWithin_b1 0 rfl
theorem dX3_isNumberWithin_21 : decode cX3_isNumberWithin 21 = .ok (.getfield 86, 3) := dc_at dkX3_isNumberWithin_b1 1 rfl
theorem dX3_isNumberWithin_24 : decode cX3_isNumberWithin 24 = .ok (.iload_n 1, 1) := dc_at dkX3_isNumberWithin_b1 2 rfl
theorem dX3_isNumberWithin_25 : decode cX3_isNumberWithin 25 = .ok (.iload_n 2, 1) := dc_at dkX3_isNumberWithin_b1 3 rfl
theorem dX3_isNumberWithin_26 : decode cX3_isNumberWithin 26 = .ok (.invokestatic 173, 3) := dc_at dkX3_isNumberWithin_b1 4 rfl
theorem dX3_isNumberWithin_29 : decode cX3_isNumberWithin 29 = .ok (.ifCond .ne 12, 3) := dc_at dkX3_isNumberWithin_b1 5 rfl
theorem dX3_isNumberWithin_32 : decode cX3_isNumberWithin 32 = .ok (.aload_n 0, 1) := dc_at dkX3_isNumberWithin_b1 6 rfl
theorem dX3_isNumberWithin_33 : decode cX3_isNumberWithin 33 = .ok (.iconst 3, 1) := dc_at dkX3_isNumberWithin_b1 7 rfl
theorem dX3_isNumberWithin_34 : decode cX3_isNumberWithin 34 = .ok (.aload_n 0, 1) := dc_at dkX3_isNumberWithin_b1 8 rfl
theorem dX3_isNumberWithin_35 : decode cX3_isNumberWithin 35 = .ok (.getfield 73, 3) := dc_at dkX3_isNumberWithin_b1 9 rfl
def drX3_isNumberWithin_b2 : List (Nat × (Instr × Nat)) := [(38, (.invokevirtual 66, 3)), (41, (.aload_n 0, 1)), (42, (.getfield 35, 3)), (45, (.ifCond .ne 7, 3)), (48, (.iconst 1, 1)), (49, (.goto 4, 3)), (52, (.iconst 0, 1)), (53, (.ireturn, 1))]
theorem dkX3_isNumberWithin_b2 : ((drX3_isNumberWithin_b2).all fun r => decide (decode cX3_isNumberWithin r.1 = .ok r.2)) = true := by decide +kernel
theorem dX3_isNumberWithin_38 : decode cX3_isNumberWithin 38 = .ok (.invokevirtual 66, 3) := dc_at dkX3_isNumberWithin_b2 0 rfl
theorem dX3_isNumberWithin_41 : decode cX3_isNumberWithin 41 = .ok (.aload_n 0, 1) := dc_at dkX3_isNumberWithin_b2 1 rfl
theorem dX3_isNumberWithin_42 : decode cX3_isNumberWithin 42 = .ok (.getfield 35, 3) := dc_at dkX3_isNumberWithin_b2 2 rfl
theorem dX3_isNumberWithin_45 : decode cX3_isNumberWithin 45 = .ok (.ifCond .ne 7, 3) := dc_at dkX3_isNumberWithin_b2 3 rfl
theorem dX3_isNumberWithin_48 : decode cX3_isNumberWithin 48 = .ok (.iconst 1, 1) := dc_at dkX3_isNumberWithin_b2 4 rfl
theorem dX3_isNumberWithin_49 : decode cX3_isNumberWithin 49 = .ok (.goto 4, 3) := dc_at dkX3_isNumberWithin_b2 5 rfl
theorem dX3_isNumberWithin_52 : decode cX3_isNumberWithin 52 = .ok (.iconst 0, 1) := dc_at dkX3_isNumberWithin_b2 6 rfl
theorem dX3_isNumberWithin_53 : decode cX3_isNumberWithin 53 = .ok (.ireturn, 1) := dc_at dkX3_isNumberWithin_b2 7 rfl
def drX3_takeSign_b0 : List (Nat × (Instr × Nat)) := [(0, (.aload_n 0, 1)), (1, (.getfield 44, 3)), (4, (.iconst 3, 1)), (5, (.if_icmp .ne 10, 3)), (8, (.aload_n 0, 1)), (9, (.invokevirtual 41, 3)), (12, (.goto 12, 3)), (15, (.aload_n 0, 1)), (16, (.iconst 2, 1)), (17, (.aload_n 0, 1))]
theorem dkX3_takeSign_b0 : ((drX3_takeSign_b0).all fun r => decide (decode cX3_takeSign r.1 = .ok r.2)) = true := by decide +kernel
theorem dX3_takeSign_0 : decode cX3_takeSign 0 = .ok (.aload_n 0, 1) := dc_at dkX3_takeSign_b0 0 rfl
theorem dX3_takeSign_1 : decode cX3_takeSign 1 = .ok (.getfield 44, 3) := dc_at dkX3_takeSign_b0 1 rfl
theorem dX3_takeSign_4 : decode cX3_takeSign 4 = .ok (.iconst 3, 1) := dc_at dkX3_takeSign_b0 2 rfl
theorem dX3_takeSign_5 : decode cX3_takeSign 5 = .ok (.if_icmp .ne 10, 3) := dc_at dkX3_takeSign_b0 3 rfl
theorem dX3_takeSign_8 : decode cX3_takeSign 8 = .ok (.aload_n 0, 1) := dc_at dkX3_takeSign_b0 4 rfl
theorem dX3_takeSign_9 : decode cX3_takeSign 9 = .ok (.invokevirtual 41, 3) := dc_at dkX3_takeSign_b0 5 rfl
theorem dX3_takeSign_12 : decode cX3_takeSign 12 = .ok (.goto 12, 3) := dc_at dkX3_takeSign_b0 6 rfl
theorem dX3_takeSign_15 : decode cX3_takeSign 15 = .ok (.aload_n 0, 1) := dc_at dkX3_takeSign_b0 7 rfl
theorem dX3_takeSign_16 : decode cX3_takeSign 16 = .ok (.iconst 2, 1) := dc_at dkX3_takeSign_b0 8 rfl
theorem dX3_takeSign_17 : decode cX3_takeSign 17 = .ok (.aload_n 0, 1) := dc_at dkX3_takeSign_b0 9 rfl
def drX3_takeSign_b1 : List (Nat × (Instr × Nat)) := [(18, (.getfield 73, 3)), (21, (.invokevirtual 66, 3)), (24, (.return_, 1))]
theorem dkX3_takeSign_b1 : ((drX3_takeSign_b1).all fun r => decide (decode cX3_takeSign r.1 = .ok r.2)) = true := by decide +kernel
theorem dX3_takeSign_18 : decode cX3_takeSign 18 = .ok (.getfield 73, 3) := dc_at dkX3_takeSign_b1 0 rfl
theorem dX3_takeSign_21 : decode cX3_takeSign 21 = .ok (.invokevirtual 66, 3) := dc_at dkX3_takeSign_b1 1 rfl
theorem dX3_takeSign_24 : decode cX3_takeSign 24 = .ok (.return_, 1) := dc_at dkX3_takeSign_b1 2 rfl
def drX4_init_b0 : List (Nat × (Instr × Nat)) := [(0, (.aload_n 0, 1)), (1, (.invokespecial 1, 3)), (4, (.aload_n 0, 1)), (5, (.new 7, 3)), (8, (.dup, 1)), (9, (.invokespecial 9, 3)), (12, (.putfield 10, 3)), (15, (.aload_n 0, 1)), (16, (.new 16, 3)), (19, (.dup, 1))]
theorem dkX4_init_b0 : ((drX4_init_b0).all fun r => decide (decode cX4_init r.1 = .ok r.2)) = true := by decide +kernel
theorem dX4_init_0 : decode cX4_init 0 = .ok (.aload_n 0, 1) := dc_at dkX4_init_b0 0 rfl
theorem dX4_init_1 : decode cX4_init 1 = .ok (.invokespecial 1, 3) := dc_at dkX4_init_b0 1 rfl
theorem dX4_init_4 : decode cX4_init 4 = .ok (.aload_n 0, 1) := dc_at dkX4_init_b0 2 rfl
theorem dX4_init_5 : decode cX4_init 5 = .ok (.new 7, 3) := dc_at dkX4_init_b0 3 rfl
theorem dX4_init_8 : decode cX4_init 8 = .ok (.dup, 1) := dc_at dkX4_init_b0 4 rfl
theorem dX4_init_9 : decode cX4_init 9 = .ok (.invokespecial 9, 3) := dc_at dkX4_init_b0 5 rfl
theorem dX4_init_12 : decode cX4_init 12 = .ok (.putfield 10, 3) := dc_at dkX4_init_b0 6 rfl
theorem dX4_init_15 : decode cX4_init 15 = .ok (.aload_n 0, 1) := dc_at dkX4_init_b0 7 rfl
theorem dX4_init_16 : decode cX4_init 16 = .ok (.new 16, 3) := dc_at dkX4_init_b0 8 rfl
theorem dX4_init_19 : decode cX4_init 19 = .ok (.dup, 1) := dc_at dkX4_init_b0 9 rfl
def drX4_init_b1 : List (Nat × (Instr × Nat)) := [(20, (.invokespecial 18, 3)), (23, (.putfield 19, 3)), (26, (.aload_n 0, 1)), (27, (.new 23, 3)), (30, (.dup, 1)), (31, (.invokespecial 25, 3)), (34, (.putfield 26, 3)), (37, (.aload_n 0, 1)), (38, (.new 7, 3)), (41, (.dup, 1))]
theorem dkX4_init_b1 : ((drX4_init_b1).all fun r => decide (decode cX4_init r.1 = .ok r.2)) = true := by decide +kernel
theorem dX4_init_20 : decode cX4_init 20 = .ok (.invokespecial 18, 3) := dc_at dkX4_init_b1 0 rfl
theorem dX4_init_23 : decode cX4_init 23 = .ok (.putfield 19, 3) := dc_at dkX4_init_b1 1 rfl
theorem dX4_init_26 : decode cX4_init 26 = .ok (.aload_n 0, 1) := dc_at dkX4_init_b1 2 rfl
theorem dX4_init_27 : decode cX4_init 27 = .ok (.new 23, 3) := dc_at dkX4_init_b1 3 rfl
theorem dX4_init_30 : decode cX4_init 30 = .ok (.dup, 1) := dc_at dkX4_init_b1 4 rfl
theorem dX4_init_31 : decode cX4_init 31 = .ok (.invokespecial 25, 3) := dc_at dkX4_init_b1 5 rfl
theorem dX4_init_34 : decode cX4_init 34 = .ok (.putfield 26, 3) := dc_at dkX4_init_b1 6 rfl
theorem dX4_init_37 : decode cX4_init 37 = .ok (.aload_n 0, 1) := dc_at dkX4_init_b1 7 rfl
theorem dX4_init_38 : decode cX4_init 38 = .ok (.new 7, 3) := dc_at dkX4_init_b1 8 rfl
theorem dX4_init_41 : decode cX4_init 41 = .ok (.dup, 1) := dc_at dkX4_init_b1 9 rfl
def drX4_init_b2 : List (Nat × (Instr × Nat)) := [(42, (.invokespecial 9, 3)), (45, (.putfield 30, 3)), (48, (.aload_n 0, 1)), (49, (.new 7, 3)), (52, (.dup, 1)), (53, (.invokespecial 9, 3)), (56, (.putfield 33, 3)), (59, (.aload_n 0, 1)), (60, (.new 36, 3)), (63, (.dup, 1))]
theorem dkX4_init_b2 : ((drX4_init_b2).all fun r => decide (decode cX4_init r.1 = .ok r.2)) = true := by decide +kernel
theorem dX4_init_42 : decode cX4_init 42 = .ok (.invokespecial 9, 3) := dc_at dkX4_init_b2 0 rfl
theorem dX4_init_45 : decode cX4_init 45 = .ok (.putfield 30, 3) := dc_at dkX4_init_b2 1 rfl
theorem dX4_init_48 : decode cX4_init 48 = .ok (.aload_n 0, 1) := dc_at dkX4_init_b2 2 rfl
theorem dX4_init_49 : decode cX4_init 49 = .ok (.new 7, 3) := dc_at dkX4_init_b2 3 rfl
theorem dX4_init_52 : decode cX4_init 52 = .ok (.dup, 1) := dc_at dkX4_init_b2 4 rfl
theorem dX4_init_53 : decode cX4_init 53 = .ok (.invokespecial 9, 3) := dc_at dkX4_init_b2 5 rfl
theorem dX4_init_56 : decode cX4_init 56 = .ok (.putfield 33, 3) := dc_at dkX4_init_b2 6 rfl
theorem dX4_init_59 : decode cX4_init 59 = .ok (.aload_n 0, 1) := dc_at dkX4_init_b2 7 rfl
theorem dX4_init_60 : decode cX4_init 60 = .ok (.new 36, 3) := dc_at dkX4_init_b2 8 rfl
theorem dX4_init_63 : decode cX4_init 63 = .ok (.dup, 1) := dc_at dkX4_init_b2 9 rfl
def drX4_init_b3 : List (Nat × (Instr × Nat)) := [(64, (.invokespecial 38, 3)), (67, (.putfield 39, 3)), (70, (.aload_n 0, 1)), (71, (.new 36, 3)), (74, (.dup, 1)), (75, (.invokespecial 38, 3)), (78, (.putfield 43, 3)), (81, (.aload_n 0, 1)), (82, (.new 36, 3)), (85, (.dup, 1))]
theorem dkX4_init_b3 : ((drX4_init_b3).all fun r => decide (decode cX4_init r.1 = .ok r.2)) = true := by decide +kernel
theorem dX4_init_64 : decode cX4_init 64 = .ok (.invokespecial 38, 3) := dc_at dkX4_init_b3 0 rfl
theorem dX4_init_67 : decode cX4_init 67 = .ok (.putfield 39, 3) := dc_at dkX4_init_b3 1 rfl
theorem dX4_init_70 : decode cX4_init 70 = .ok (.aload_n 0, 1) := dc_at dkX4_init_b3 2 rfl
theorem dX4_init_71 : decode cX4_init 71 = .ok (.new 36, 3) := dc_at dkX4_init_b3 3 rfl
theorem dX4_init_74 : decode cX4_init 74 = .ok (.dup, 1) := dc_at dkX4_init_b3 4 rfl
theorem dX4_init_75 : decode cX4_init 75 = .ok (.invokespecial 38, 3) := dc_at dkX4_init_b3 5 rfl
theorem dX4_init_78 : decode cX4_init 78 = .ok (.putfield 43, 3) := dc_at dkX4_init_b3 6 rfl
theorem dX4_init_81 : decode cX4_init 81 = .ok (.aload_n 0, 1) := dc_at dkX4_init_b3 7 rfl
theorem dX4_init_82 : decode cX4_init 82 = .ok (.new 36, 3) := dc_at dkX4_init_b3 8 rfl
theorem dX4_init_85 : decode cX4_init 85 = .ok (.dup, 1) := dc_at dkX4_init_b3 9 rfl
def drX4_init_b4 : List (Nat × (Instr × Nat)) := [(86, (.invokespecial 38, 3)), (89, (.putfield 46, 3)), (92, (.aload_n 0, 1)), (93, (.new 36, 3)), (96, (.dup, 1)), (97, (.invokespecial 38, 3)), (100, (.putfield 49, 3)), (103, (.aload_n 0, 1)), (104, (.iconst 0, 1)), (105, (.putfield 52, 3))]
theorem dkX4_init_b4 : ((drX4_init_b4).all fun r => decide (decode cX4_init r.1 = .ok r.2)) = true := by decide +kernel
theorem dX4_init_86 : decode cX4_init 86 = .ok (.invokespecial 38, 3) := dc_at dkX4_init_b4 0 rfl
theorem dX4_init_89 : decode cX4_init 89 = .ok (.putfield 46, 3) := dc_at dkX4_init_b4 1 rfl
theorem dX4_init_92 : decode cX4_init 92 = .ok (.aload_n 0, 1) := dc_at dkX4_init_b4 2 rfl
theorem dX4_init_93 : decode cX4_init 93 = .ok (.new 36, 3) := dc_at dkX4_init_b4 3 rfl
theorem dX4_init_96 : decode cX4_init 96 = .ok (.dup, 1) := dc_at dkX4_init_b4 4 rfl
theorem dX4_init_97 : decode cX4_init 97 = .ok (.invokespecial 38, 3) := dc_at dkX4_init_b4 5 rfl
theorem dX4_init_100 : decode cX4_init 100 = .ok (.putfield 49, 3) := dc_at dkX4_init_b4 6 rfl
theorem dX4_init_103 : decode cX4_init 103 = .ok (.aload_n 0, 1) := dc_at dkX4_init_b4 7 rfl
theorem dX4_init_104 : decode cX4_init 104 = .ok (.iconst 0, 1) := dc_at dkX4_init_b4 8 rfl
theorem dX4_init_105 : decode cX4_init 105 = .ok (.putfield 52, 3) := dc_at dkX4_init_b4 9 rfl
def drX4_init_b5 : List (Nat × (Instr × Nat)) := [(108, (.aload_n 0, 1)), (109, (.iconst 0, 1)), (110, (.putfield 56, 3)), (113, (.aload_n 0, 1)), (114, (.iconst 0, 1)), (115, (.putfield 59, 3)), (118, (.return_, 1))]
theorem dkX4_init_b5 : ((drX4_init_b5).all fun r => decide (decode cX4_init r.1 = .ok r.2)) = true := by decide +kernel
theorem dX4_init_108 : decode cX4_init 108 = .ok (.aload_n 0, 1) := dc_at dkX4_init_b5 0 rfl
theorem dX4_init_109 : decode cX4_init 109 = .ok (.iconst 0, 1) := dc_at dkX4_init_b5 1 rfl
theorem dX4_init_110 : decode cX4_init 110 = .ok (.putfield 56, 3) := dc_at dkX4_init_b5 2 rfl
theorem dX4_init_113 : decode cX4_init 113 = .ok (.aload_n 0, 1) := dc_at dkX4_init_b5 3 rfl
theorem dX4_init_114 : decode cX4_init 114 = .ok (.iconst 0, 1) := dc_at dkX4_init_b5 4 rfl
theorem dX4_init_115 : decode cX4_init 115 = .ok (.putfield 59, 3) := dc_at dkX4_init_b5 5 rfl
theorem dX4_init_118 : decode cX4_init 118 = .ok (.return_, 1) := dc_at dkX4_init_b5 6 rfl
def drX4_feed_b0 : List (Nat × (Instr × Nat)) := [(0, (.aload_n 0, 1)), (1, (.getfield 19, 3)), (4, (.getfield 62, 3)), (7, (.bipush 8, 2)), (9, (.iadd, 1)), (10, (.sipush 400, 3)), (13, (.if_icmp .le 6, 3)), (16, (.bipush (-3), 2)), (18, (.ireturn, 1)), (19, (.bipush 56, 2))]
theorem dkX4_feed_b0 : ((drX4_feed_b0).all fun r => decide (decode cX4_feed r.1 = .ok r.2)) = true := by decide +kernel
theorem dX4_feed_0 : decode cX4_feed 0 = .ok (.aload_n 0, 1) := dc_at dkX4_feed_b0 0 rfl
theorem dX4_feed_1 : decode cX4_feed 1 = .ok (.getfield 19, 3) := dc_at dkX4_feed_b0 1 rfl
theorem dX4_feed_4 : decode cX4_feed 4 = .ok (.getfield 62, 3) := dc_at dkX4_feed_b0 2 rfl
theorem dX4_feed_7 : decode cX4_feed 7 = .ok (.bipush 8, 2) := dc_at dkX4_feed_b0 3 rfl
theorem dX4_feed_9 : decode cX4_feed 9 = .ok (.iadd, 1) := dc_at dkX4_feed_b0 4 rfl
theorem dX4_feed_10 : decode cX4_feed 10 = .ok (.sipush 400, 3) := dc_at dkX4_feed_b0 5 rfl
theorem dX4_feed_13 : decode cX4_feed 13 = .ok (.if_icmp .le 6, 3) := dc_at dkX4_feed_b0 6 rfl
theorem dX4_feed_16 : decode cX4_feed 16 = .ok (.bipush (-3), 2) := dc_at dkX4_feed_b0 7 rfl
theorem dX4_feed_18 : decode cX4_feed 18 = .ok (.ireturn, 1) := dc_at dkX4_feed_b0 8 rfl
theorem dX4_feed_19 : decode cX4_feed 19 = .ok (.bipush 56, 2) := dc_at dkX4_feed_b0 9 rfl
def drX4_feed_b1 : List (Nat × (Instr × Nat)) := [(21, (.istore_n 3, 1)), (22, (.iload_n 3, 1)), (23, (.ifCond .lt 21, 3)), (26, (.aload_n 0, 1)), (27, (.getfield 19, 3)), (30, (.lload_n 1, 1)), (31, (.iload_n 3, 1)), (32, (.lushr, 1)), (33, (.l2i, 1)), (34, (.i2b, 1))]
theorem dkX4_feed_b1 : ((drX4_feed_b1).all fun r => decide (decode cX4_feed r.1 = .ok r.2)) = true := by decide +kernel
theorem dX4_feed_21 : decode cX4_feed 21 = .ok (.istore_n 3, 1) := dc_at dkX4_feed_b1 0 rfl
theorem dX4_feed_22 : decode cX4_feed 22 = .ok (.iload_n 3, 1) := dc_at dkX4_feed_b1 1 rfl
theorem dX4_feed_23 : decode cX4_feed 23 = .ok (.ifCond .lt 21, 3) := dc_at dkX4_feed_b1 2 rfl
theorem dX4_feed_26 : decode cX4_feed 26 = .ok (.aload_n 0, 1) := dc_at dkX4_feed_b1 3 rfl
theorem dX4_feed_27 : decode cX4_feed 27 = .ok (.getfield 19, 3) := dc_at dkX4_feed_b1 4 rfl
theorem dX4_feed_30 : decode cX4_feed 30 = .ok (.lload_n 1, 1) := dc_at dkX4_feed_b1 5 rfl
theorem dX4_feed_31 : decode cX4_feed 31 = .ok (.iload_n 3, 1) := dc_at dkX4_feed_b1 6 rfl
theorem dX4_feed_32 : decode cX4_feed 32 = .ok (.lushr, 1) := dc_at dkX4_feed_b1 7 rfl
theorem dX4_feed_33 : decode cX4_feed 33 = .ok (.l2i, 1) := dc_at dkX4_feed_b1 8 rfl
theorem dX4_feed_34 : decode cX4_feed 34 = .ok (.i2b, 1) := dc_at dkX4_feed_b1 9 rfl
def drX4_feed_b2 : List (Nat × (Instr × Nat)) := [(35, (.invokevirtual 65, 3)), (38, (.iinc 3 (-8), 3)), (41, (.goto (-19), 3)), (44, (.aload_n 0, 1)), (45, (.getfield 19, 3)), (48, (.getfield 62, 3)), (51, (.ireturn, 1))]
theorem dkX4_feed_b2 : ((drX4_feed_b2).all fun r => decide (decode cX4_feed r.1 = .ok r.2)) = true := by decide +kernel
theorem dX4_feed_35 : decode cX4_feed 35 = .ok (.invokevirtual 65, 3) := dc_at dkX4_feed_b2 0 rfl
theorem dX4_feed_38 : decode cX4_feed 38 = .ok (.iinc 3 (-8), 3) := dc_at dkX4_feed_b2 1 rfl
theorem dX4_feed_41 : decode cX4_feed 41 = .ok (.goto (-19), 3) := dc_at dkX4_feed_b2 2 rfl
theorem dX4_feed_44 : decode cX4_feed 44 = .ok (.aload_n 0, 1) := dc_at dkX4_feed_b2 3 rfl
theorem dX4_feed_45 : decode cX4_feed 45 = .ok (.getfield 19, 3) := dc_at dkX4_feed_b2 4 rfl
theorem dX4_feed_48 : decode cX4_feed 48 = .ok (.getfield 62, 3) := dc_at dkX4_feed_b2 5 rfl
theorem dX4_feed_51 : decode cX4_feed 51 = .ok (.ireturn, 1) := dc_at dkX4_feed_b2 6 rfl
def drX4_end_b0 : List (Nat × (Instr × Nat)) := [(0, (.aload_n 0, 1)), (1, (.getfield 19, 3)), (4, (.getfield 62, 3)), (7, (.istore_n 2, 1)), (8, (.iload_n 1, 1)), (9, (.iconst 0, 1)), (10, (.iload_n 2, 1)), (11, (.invokestatic 69, 3)), (14, (.ifCond .ne 5, 3)), (17, (.iconst (-1), 1))]
theorem dkX4_end_b0 : ((drX4_end_b0).all fun r => decide (decode cX4_end r.1 = .ok r.2)) = true := by decide +kernel
theorem dX4_end_0 : decode cX4_end 0 = .ok (.aload_n 0, 1) := dc_at dkX4_end_b0 0 rfl
theorem dX4_end_1 : decode cX4_end 1 = .ok (.getfield 19, 3) := dc_at dkX4_end_b0 1 rfl
theorem dX4_end_4 : decode cX4_end 4 = .ok (.getfield 62, 3) := dc_at dkX4_end_b0 2 rfl
theorem dX4_end_7 : decode cX4_end 7 = .ok (.istore_n 2, 1) := dc_at dkX4_end_b0 3 rfl
theorem dX4_end_8 : decode cX4_end 8 = .ok (.iload_n 1, 1) := dc_at dkX4_end_b0 4 rfl
theorem dX4_end_9 : decode cX4_end 9 = .ok (.iconst 0, 1) := dc_at dkX4_end_b0 5 rfl
theorem dX4_end_10 : decode cX4_end 10 = .ok (.iload_n 2, 1) := dc_at dkX4_end_b0 6 rfl
theorem dX4_end_11 : decode cX4_end 11 = .ok (.invokestatic 69, 3) := dc_at dkX4_end_b0 7 rfl
theorem dX4_end_14 : decode cX4_end 14 = .ok (.ifCond .ne 5, 3) := dc_at dkX4_end_b0 8 rfl
theorem dX4_end_17 : decode cX4_end 17 = .ok (.iconst (-1), 1) := dc_at dkX4_end_b0 9 rfl
def drX4_end_b1 : List (Nat × (Instr × Nat)) := [(18, (.ireturn, 1)), (19, (.aload_n 0, 1)), (20, (.getfield 19, 3)), (23, (.iload_n 1, 1)), (24, (.putfield 62, 3)), (27, (.iload_n 2, 1)), (28, (.ireturn, 1))]
theorem dkX4_end_b1 : ((drX4_end_b1).all fun r => decide (decode cX4_end r.1 = .ok r.2)) = true := by decide +kernel
theorem dX4_end_18 : decode cX4_end 18 = .ok (.ireturn, 1) := dc_at dkX4_end_b1 0 rfl
theorem dX4_end_19 : decode cX4_end 19 = .ok (.aload_n 0, 1) := dc_at dkX4_end_b1 1 rfl
theorem dX4_end_20 : decode cX4_end 20 = .ok (.getfield 19, 3) := dc_at dkX4_end_b1 2 rfl
theorem dX4_end_23 : decode cX4_end 23 = .ok (.iload_n 1, 1) := dc_at dkX4_end_b1 3 rfl
theorem dX4_end_24 : decode cX4_end 24 = .ok (.putfield 62, 3) := dc_at dkX4_end_b1 4 rfl
theorem dX4_end_27 : decode cX4_end 27 = .ok (.iload_n 2, 1) := dc_at dkX4_end_b1 5 rfl
theorem dX4_end_28 : decode cX4_end 28 = .ok (.ireturn, 1) := dc_at dkX4_end_b1 6 rfl
def drX4_text_b0 : List (Nat × (Instr × Nat)) := [(0, (.aload_n 0, 1)), (1, (.getfield 19, 3)), (4, (.invokevirtual 73, 3)), (7, (.istore_n 1, 1)), (8, (.aload_n 0, 1)), (9, (.getfield 19, 3)), (12, (.iconst 0, 1)), (13, (.putfield 62, 3)), (16, (.aload_n 0, 1)), (17, (.aload_n 0, 1))]
theorem dkX4_text_b0 : ((drX4_text_b0).all fun r => decide (decode cX4_text r.1 = .ok r.2)) = true := by decide +kernel
theorem dX4_text_0 : decode cX4_text 0 = .ok (.aload_n 0, 1) := dc_at dkX4_text_b0 0 rfl
theorem dX4_text_1 : decode cX4_text 1 = .ok (.getfield 19, 3) := dc_at dkX4_text_b0 1 rfl
theorem dX4_text_4 : decode cX4_text 4 = .ok (.invokevirtual 73, 3) := dc_at dkX4_text_b0 2 rfl
theorem dX4_text_7 : decode cX4_text 7 = .ok (.istore_n 1, 1) := dc_at dkX4_text_b0 3 rfl
theorem dX4_text_8 : decode cX4_text 8 = .ok (.aload_n 0, 1) := dc_at dkX4_text_b0 4 rfl
theorem dX4_text_9 : decode cX4_text 9 = .ok (.getfield 19, 3) := dc_at dkX4_text_b0 5 rfl
theorem dX4_text_12 : decode cX4_text 12 = .ok (.iconst 0, 1) := dc_at dkX4_text_b0 6 rfl
theorem dX4_text_13 : decode cX4_text 13 = .ok (.putfield 62, 3) := dc_at dkX4_text_b0 7 rfl
theorem dX4_text_16 : decode cX4_text 16 = .ok (.aload_n 0, 1) := dc_at dkX4_text_b0 8 rfl
theorem dX4_text_17 : decode cX4_text 17 = .ok (.aload_n 0, 1) := dc_at dkX4_text_b0 9 rfl
def drX4_text_b1 : List (Nat × (Instr × Nat)) := [(18, (.getfield 19, 3)), (21, (.getfield 77, 3)), (24, (.putfield 52, 3)), (27, (.aload_n 0, 1)), (28, (.getfield 52, 3)), (31, (.ifCond .eq 14, 3)), (34, (.bipush (-10), 2)), (36, (.aload_n 0, 1)), (37, (.getfield 19, 3)), (40, (.getfield 80, 3))]
theorem dkX4_text_b1 : ((drX4_text_b1).all fun r => decide (decode cX4_text r.1 = .ok r.2)) = true := by decide +kernel
theorem dX4_text_18 : decode cX4_text 18 = .ok (.getfield 19, 3) := dc_at dkX4_text_b1 0 rfl
theorem dX4_text_21 : decode cX4_text 21 = .ok (.getfield 77, 3) := dc_at dkX4_text_b1 1 rfl
theorem dX4_text_24 : decode cX4_text 24 = .ok (.putfield 52, 3) := dc_at dkX4_text_b1 2 rfl
theorem dX4_text_27 : decode cX4_text 27 = .ok (.aload_n 0, 1) := dc_at dkX4_text_b1 3 rfl
theorem dX4_text_28 : decode cX4_text 28 = .ok (.getfield 52, 3) := dc_at dkX4_text_b1 4 rfl
theorem dX4_text_31 : decode cX4_text 31 = .ok (.ifCond .eq 14, 3) := dc_at dkX4_text_b1 5 rfl
theorem dX4_text_34 : decode cX4_text 34 = .ok (.bipush (-10), 2) := dc_at dkX4_text_b1 6 rfl
theorem dX4_text_36 : decode cX4_text 36 = .ok (.aload_n 0, 1) := dc_at dkX4_text_b1 7 rfl
theorem dX4_text_37 : decode cX4_text 37 = .ok (.getfield 19, 3) := dc_at dkX4_text_b1 8 rfl
theorem dX4_text_40 : decode cX4_text 40 = .ok (.getfield 80, 3) := dc_at dkX4_text_b1 9 rfl
def drX4_text_b2 : List (Nat × (Instr × Nat)) := [(43, (.isub, 1)), (44, (.ireturn, 1)), (45, (.aload_n 0, 1)), (46, (.getfield 10, 3)), (49, (.aload_n 0, 1)), (50, (.getfield 19, 3)), (53, (.getfield 83, 3)), (56, (.invokevirtual 86, 3)), (59, (.aload_n 0, 1)), (60, (.iconst 0, 1))]
theorem dkX4_text_b2 : ((drX4_text_b2).all fun r => decide (decode cX4_text r.1 = .ok r.2)) = true := by decide +kernel
theorem dX4_text_43 : decode cX4_text 43 = .ok (.isub, 1) := dc_at dkX4_text_b2 0 rfl
theorem dX4_text_44 : decode cX4_text 44 = .ok (.ireturn, 1) := dc_at dkX4_text_b2 1 rfl
theorem dX4_text_45 : decode cX4_text 45 = .ok (.aload_n 0, 1) := dc_at dkX4_text_b2 2 rfl
theorem dX4_text_46 : decode cX4_text 46 = .ok (.getfield 10, 3) := dc_at dkX4_text_b2 3 rfl
theorem dX4_text_49 : decode cX4_text 49 = .ok (.aload_n 0, 1) := dc_at dkX4_text_b2 4 rfl
theorem dX4_text_50 : decode cX4_text 50 = .ok (.getfield 19, 3) := dc_at dkX4_text_b2 5 rfl
theorem dX4_text_53 : decode cX4_text 53 = .ok (.getfield 83, 3) := dc_at dkX4_text_b2 6 rfl
theorem dX4_text_56 : decode cX4_text 56 = .ok (.invokevirtual 86, 3) := dc_at dkX4_text_b2 7 rfl
theorem dX4_text_59 : decode cX4_text 59 = .ok (.aload_n 0, 1) := dc_at dkX4_text_b2 8 rfl
theorem dX4_text_60 : decode cX4_text 60 = .ok (.iconst 0, 1) := dc_at dkX4_text_b2 9 rfl
def drX4_text_b3 : List (Nat × (Instr × Nat)) := [(61, (.putfield 59, 3)), (64, (.iload_n 1, 1)), (65, (.ireturn, 1))]
theorem dkX4_text_b3 : ((drX4_text_b3).all fun r => decide (decode cX4_text r.1 = .ok r.2)) = true := by decide +kernel
theorem dX4_text_61 : decode cX4_text 61 = .ok (.putfield 59, 3) := dc_at dkX4_text_b3 0 rfl
theorem dX4_text_64 : decode cX4_text 64 = .ok (.iload_n 1, 1) := dc_at dkX4_text_b3 1 rfl
theorem dX4_text_65 : decode cX4_text 65 = .ok (.ireturn, 1) := dc_at dkX4_text_b3 2 rfl
def drX4_fault_b0 : List (Nat × (Instr × Nat)) := [(0, (.aload_n 0, 1)), (1, (.getfield 52, 3)), (4, (.ireturn, 1))]
theorem dkX4_fault_b0 : ((drX4_fault_b0).all fun r => decide (decode cX4_fault r.1 = .ok r.2)) = true := by decide +kernel
theorem dX4_fault_0 : decode cX4_fault 0 = .ok (.aload_n 0, 1) := dc_at dkX4_fault_b0 0 rfl
theorem dX4_fault_1 : decode cX4_fault 1 = .ok (.getfield 52, 3) := dc_at dkX4_fault_b0 1 rfl
theorem dX4_fault_4 : decode cX4_fault 4 = .ok (.ireturn, 1) := dc_at dkX4_fault_b0 2 rfl
def drX4_rule_b0 : List (Nat × (Instr × Nat)) := [(0, (.iload_n 1, 1)), (1, (.iconst 0, 1)), (2, (.bipush 8, 2)), (4, (.invokestatic 69, 3)), (7, (.ifCond .eq 14, 3)), (10, (.aload_n 0, 1)), (11, (.getfield 10, 3)), (14, (.iload_n 1, 1)), (15, (.invokevirtual 90, 3)), (18, (.goto 4, 3))]
theorem dkX4_rule_b0 : ((drX4_rule_b0).all fun r => decide (decode cX4_rule r.1 = .ok r.2)) = true := by decide +kernel
theorem dX4_rule_0 : decode cX4_rule 0 = .ok (.iload_n 1, 1) := dc_at dkX4_rule_b0 0 rfl
theorem dX4_rule_1 : decode cX4_rule 1 = .ok (.iconst 0, 1) := dc_at dkX4_rule_b0 1 rfl
theorem dX4_rule_2 : decode cX4_rule 2 = .ok (.bipush 8, 2) := dc_at dkX4_rule_b0 2 rfl
theorem dX4_rule_4 : decode cX4_rule 4 = .ok (.invokestatic 69, 3) := dc_at dkX4_rule_b0 3 rfl
theorem dX4_rule_7 : decode cX4_rule 7 = .ok (.ifCond .eq 14, 3) := dc_at dkX4_rule_b0 4 rfl
theorem dX4_rule_10 : decode cX4_rule 10 = .ok (.aload_n 0, 1) := dc_at dkX4_rule_b0 5 rfl
theorem dX4_rule_11 : decode cX4_rule 11 = .ok (.getfield 10, 3) := dc_at dkX4_rule_b0 6 rfl
theorem dX4_rule_14 : decode cX4_rule 14 = .ok (.iload_n 1, 1) := dc_at dkX4_rule_b0 7 rfl
theorem dX4_rule_15 : decode cX4_rule 15 = .ok (.invokevirtual 90, 3) := dc_at dkX4_rule_b0 8 rfl
theorem dX4_rule_18 : decode cX4_rule 18 = .ok (.goto 4, 3) := dc_at dkX4_rule_b0 9 rfl
def drX4_rule_b1 : List (Nat × (Instr × Nat)) := [(21, (.iconst (-1), 1)), (22, (.ireturn, 1))]
theorem dkX4_rule_b1 : ((drX4_rule_b1).all fun r => decide (decode cX4_rule r.1 = .ok r.2)) = true := by decide +kernel
theorem dX4_rule_21 : decode cX4_rule 21 = .ok (.iconst (-1), 1) := dc_at dkX4_rule_b1 0 rfl
theorem dX4_rule_22 : decode cX4_rule 22 = .ok (.ireturn, 1) := dc_at dkX4_rule_b1 1 rfl
def drX4_turns_b0 : List (Nat × (Instr × Nat)) := [(0, (.aload_n 0, 1)), (1, (.getfield 10, 3)), (4, (.iload_n 1, 1)), (5, (.invokevirtual 94, 3)), (8, (.ifCond .ne 5, 3)), (11, (.iconst (-1), 1)), (12, (.ireturn, 1)), (13, (.iload_n 2, 1)), (14, (.ifCond .eq 14, 3)), (17, (.aload_n 0, 1))]
theorem dkX4_turns_b0 : ((drX4_turns_b0).all fun r => decide (decode cX4_turns r.1 = .ok r.2)) = true := by decide +kernel
theorem dX4_turns_0 : decode cX4_turns 0 = .ok (.aload_n 0, 1) := dc_at dkX4_turns_b0 0 rfl
theorem dX4_turns_1 : decode cX4_turns 1 = .ok (.getfield 10, 3) := dc_at dkX4_turns_b0 1 rfl
theorem dX4_turns_4 : decode cX4_turns 4 = .ok (.iload_n 1, 1) := dc_at dkX4_turns_b0 2 rfl
theorem dX4_turns_5 : decode cX4_turns 5 = .ok (.invokevirtual 94, 3) := dc_at dkX4_turns_b0 3 rfl
theorem dX4_turns_8 : decode cX4_turns 8 = .ok (.ifCond .ne 5, 3) := dc_at dkX4_turns_b0 4 rfl
theorem dX4_turns_11 : decode cX4_turns 11 = .ok (.iconst (-1), 1) := dc_at dkX4_turns_b0 5 rfl
theorem dX4_turns_12 : decode cX4_turns 12 = .ok (.ireturn, 1) := dc_at dkX4_turns_b0 6 rfl
theorem dX4_turns_13 : decode cX4_turns 13 = .ok (.iload_n 2, 1) := dc_at dkX4_turns_b0 7 rfl
theorem dX4_turns_14 : decode cX4_turns 14 = .ok (.ifCond .eq 14, 3) := dc_at dkX4_turns_b0 8 rfl
theorem dX4_turns_17 : decode cX4_turns 17 = .ok (.aload_n 0, 1) := dc_at dkX4_turns_b0 9 rfl
def drX4_turns_b1 : List (Nat × (Instr × Nat)) := [(18, (.getfield 10, 3)), (21, (.iload_n 1, 1)), (22, (.invokevirtual 98, 3)), (25, (.goto 11, 3)), (28, (.aload_n 0, 1)), (29, (.getfield 10, 3)), (32, (.iload_n 1, 1)), (33, (.invokevirtual 101, 3)), (36, (.ireturn, 1))]
theorem dkX4_turns_b1 : ((drX4_turns_b1).all fun r => decide (decode cX4_turns r.1 = .ok r.2)) = true := by decide +kernel
theorem dX4_turns_18 : decode cX4_turns 18 = .ok (.getfield 10, 3) := dc_at dkX4_turns_b1 0 rfl
theorem dX4_turns_21 : decode cX4_turns 21 = .ok (.iload_n 1, 1) := dc_at dkX4_turns_b1 1 rfl
theorem dX4_turns_22 : decode cX4_turns 22 = .ok (.invokevirtual 98, 3) := dc_at dkX4_turns_b1 2 rfl
theorem dX4_turns_25 : decode cX4_turns 25 = .ok (.goto 11, 3) := dc_at dkX4_turns_b1 3 rfl
theorem dX4_turns_28 : decode cX4_turns 28 = .ok (.aload_n 0, 1) := dc_at dkX4_turns_b1 4 rfl
theorem dX4_turns_29 : decode cX4_turns 29 = .ok (.getfield 10, 3) := dc_at dkX4_turns_b1 5 rfl
theorem dX4_turns_32 : decode cX4_turns 32 = .ok (.iload_n 1, 1) := dc_at dkX4_turns_b1 6 rfl
theorem dX4_turns_33 : decode cX4_turns 33 = .ok (.invokevirtual 101, 3) := dc_at dkX4_turns_b1 7 rfl
theorem dX4_turns_36 : decode cX4_turns 36 = .ok (.ireturn, 1) := dc_at dkX4_turns_b1 8 rfl
def drX4_shows_b0 : List (Nat × (Instr × Nat)) := [(0, (.iload_n 1, 1)), (1, (.ifCond .lt 12, 3)), (4, (.iload_n 2, 1)), (5, (.iconst 0, 1)), (6, (.iconst 1, 1)), (7, (.invokestatic 69, 3)), (10, (.ifCond .ne 5, 3)), (13, (.iconst (-1), 1)), (14, (.ireturn, 1)), (15, (.iload_n 2, 1))]
theorem dkX4_shows_b0 : ((drX4_shows_b0).all fun r => decide (decode cX4_shows r.1 = .ok r.2)) = true := by decide +kernel
theorem dX4_shows_0 : decode cX4_shows 0 = .ok (.iload_n 1, 1) := dc_at dkX4_shows_b0 0 rfl
theorem dX4_shows_1 : decode cX4_shows 1 = .ok (.ifCond .lt 12, 3) := dc_at dkX4_shows_b0 1 rfl
theorem dX4_shows_4 : decode cX4_shows 4 = .ok (.iload_n 2, 1) := dc_at dkX4_shows_b0 2 rfl
theorem dX4_shows_5 : decode cX4_shows 5 = .ok (.iconst 0, 1) := dc_at dkX4_shows_b0 3 rfl
theorem dX4_shows_6 : decode cX4_shows 6 = .ok (.iconst 1, 1) := dc_at dkX4_shows_b0 4 rfl
theorem dX4_shows_7 : decode cX4_shows 7 = .ok (.invokestatic 69, 3) := dc_at dkX4_shows_b0 5 rfl
theorem dX4_shows_10 : decode cX4_shows 10 = .ok (.ifCond .ne 5, 3) := dc_at dkX4_shows_b0 6 rfl
theorem dX4_shows_13 : decode cX4_shows 13 = .ok (.iconst (-1), 1) := dc_at dkX4_shows_b0 7 rfl
theorem dX4_shows_14 : decode cX4_shows 14 = .ok (.ireturn, 1) := dc_at dkX4_shows_b0 8 rfl
theorem dX4_shows_15 : decode cX4_shows 15 = .ok (.iload_n 2, 1) := dc_at dkX4_shows_b0 9 rfl
def drX4_shows_b1 : List (Nat × (Instr × Nat)) := [(16, (.ifCond .ne 14, 3)), (19, (.aload_n 0, 1)), (20, (.getfield 10, 3)), (23, (.iload_n 1, 1)), (24, (.invokevirtual 104, 3)), (27, (.goto 11, 3)), (30, (.aload_n 0, 1)), (31, (.getfield 10, 3)), (34, (.iload_n 1, 1)), (35, (.invokevirtual 107, 3))]
theorem dkX4_shows_b1 : ((drX4_shows_b1).all fun r => decide (decode cX4_shows r.1 = .ok r.2)) = true := by decide +kernel
theorem dX4_shows_16 : decode cX4_shows 16 = .ok (.ifCond .ne 14, 3) := dc_at dkX4_shows_b1 0 rfl
theorem dX4_shows_19 : decode cX4_shows 19 = .ok (.aload_n 0, 1) := dc_at dkX4_shows_b1 1 rfl
theorem dX4_shows_20 : decode cX4_shows 20 = .ok (.getfield 10, 3) := dc_at dkX4_shows_b1 2 rfl
theorem dX4_shows_23 : decode cX4_shows 23 = .ok (.iload_n 1, 1) := dc_at dkX4_shows_b1 3 rfl
theorem dX4_shows_24 : decode cX4_shows 24 = .ok (.invokevirtual 104, 3) := dc_at dkX4_shows_b1 4 rfl
theorem dX4_shows_27 : decode cX4_shows 27 = .ok (.goto 11, 3) := dc_at dkX4_shows_b1 5 rfl
theorem dX4_shows_30 : decode cX4_shows 30 = .ok (.aload_n 0, 1) := dc_at dkX4_shows_b1 6 rfl
theorem dX4_shows_31 : decode cX4_shows 31 = .ok (.getfield 10, 3) := dc_at dkX4_shows_b1 7 rfl
theorem dX4_shows_34 : decode cX4_shows 34 = .ok (.iload_n 1, 1) := dc_at dkX4_shows_b1 8 rfl
theorem dX4_shows_35 : decode cX4_shows 35 = .ok (.invokevirtual 107, 3) := dc_at dkX4_shows_b1 9 rfl
def drX4_shows_b2 : List (Nat × (Instr × Nat)) := [(38, (.ireturn, 1))]
theorem dkX4_shows_b2 : ((drX4_shows_b2).all fun r => decide (decode cX4_shows r.1 = .ok r.2)) = true := by decide +kernel
theorem dX4_shows_38 : decode cX4_shows 38 = .ok (.ireturn, 1) := dc_at dkX4_shows_b2 0 rfl
def drX4_meet_b0 : List (Nat × (Instr × Nat)) := [(0, (.aload_n 0, 1)), (1, (.getfield 10, 3)), (4, (.invokevirtual 110, 3)), (7, (.ireturn, 1))]
theorem dkX4_meet_b0 : ((drX4_meet_b0).all fun r => decide (decode cX4_meet r.1 = .ok r.2)) = true := by decide +kernel
theorem dX4_meet_0 : decode cX4_meet 0 = .ok (.aload_n 0, 1) := dc_at dkX4_meet_b0 0 rfl
theorem dX4_meet_1 : decode cX4_meet 1 = .ok (.getfield 10, 3) := dc_at dkX4_meet_b0 1 rfl
theorem dX4_meet_4 : decode cX4_meet 4 = .ok (.invokevirtual 110, 3) := dc_at dkX4_meet_b0 2 rfl
theorem dX4_meet_7 : decode cX4_meet 7 = .ok (.ireturn, 1) := dc_at dkX4_meet_b0 3 rfl
def drX4_ticks_b0 : List (Nat × (Instr × Nat)) := [(0, (.aload_n 0, 1)), (1, (.getfield 10, 3)), (4, (.iload_n 1, 1)), (5, (.invokevirtual 94, 3)), (8, (.ifCond .eq 14, 3)), (11, (.aload_n 0, 1)), (12, (.getfield 10, 3)), (15, (.iload_n 2, 1)), (16, (.invokevirtual 94, 3)), (19, (.ifCond .ne 5, 3))]
theorem dkX4_ticks_b0 : ((drX4_ticks_b0).all fun r => decide (decode cX4_ticks r.1 = .ok r.2)) = true := by decide +kernel
theorem dX4_ticks_0 : decode cX4_ticks 0 = .ok (.aload_n 0, 1) := dc_at dkX4_ticks_b0 0 rfl
theorem dX4_ticks_1 : decode cX4_ticks 1 = .ok (.getfield 10, 3) := dc_at dkX4_ticks_b0 1 rfl
theorem dX4_ticks_4 : decode cX4_ticks 4 = .ok (.iload_n 1, 1) := dc_at dkX4_ticks_b0 2 rfl
theorem dX4_ticks_5 : decode cX4_ticks 5 = .ok (.invokevirtual 94, 3) := dc_at dkX4_ticks_b0 3 rfl
theorem dX4_ticks_8 : decode cX4_ticks 8 = .ok (.ifCond .eq 14, 3) := dc_at dkX4_ticks_b0 4 rfl
theorem dX4_ticks_11 : decode cX4_ticks 11 = .ok (.aload_n 0, 1) := dc_at dkX4_ticks_b0 5 rfl
theorem dX4_ticks_12 : decode cX4_ticks 12 = .ok (.getfield 10, 3) := dc_at dkX4_ticks_b0 6 rfl
theorem dX4_ticks_15 : decode cX4_ticks 15 = .ok (.iload_n 2, 1) := dc_at dkX4_ticks_b0 7 rfl
theorem dX4_ticks_16 : decode cX4_ticks 16 = .ok (.invokevirtual 94, 3) := dc_at dkX4_ticks_b0 8 rfl
theorem dX4_ticks_19 : decode cX4_ticks 19 = .ok (.ifCond .ne 5, 3) := dc_at dkX4_ticks_b0 9 rfl
def drX4_ticks_b1 : List (Nat × (Instr × Nat)) := [(22, (.iconst (-1), 1)), (23, (.ireturn, 1)), (24, (.iload_n 3, 1)), (25, (.tableswitch 57 0 2 #[27, 37, 47], 27)), (52, (.aload_n 0, 1)), (53, (.getfield 10, 3)), (56, (.iload_n 1, 1)), (57, (.iload_n 2, 1)), (58, (.invokevirtual 113, 3)), (61, (.ireturn, 1))]
theorem dkX4_ticks_b1 : ((drX4_ticks_b1).all fun r => decide (decode cX4_ticks r.1 = .ok r.2)) = true := by decide +kernel
theorem dX4_ticks_22 : decode cX4_ticks 22 = .ok (.iconst (-1), 1) := dc_at dkX4_ticks_b1 0 rfl
theorem dX4_ticks_23 : decode cX4_ticks 23 = .ok (.ireturn, 1) := dc_at dkX4_ticks_b1 1 rfl
theorem dX4_ticks_24 : decode cX4_ticks 24 = .ok (.iload_n 3, 1) := dc_at dkX4_ticks_b1 2 rfl
theorem dX4_ticks_25 : decode cX4_ticks 25 = .ok (.tableswitch 57 0 2 #[27, 37, 47], 27) := dc_at dkX4_ticks_b1 3 rfl
theorem dX4_ticks_52 : decode cX4_ticks 52 = .ok (.aload_n 0, 1) := dc_at dkX4_ticks_b1 4 rfl
theorem dX4_ticks_53 : decode cX4_ticks 53 = .ok (.getfield 10, 3) := dc_at dkX4_ticks_b1 5 rfl
theorem dX4_ticks_56 : decode cX4_ticks 56 = .ok (.iload_n 1, 1) := dc_at dkX4_ticks_b1 6 rfl
theorem dX4_ticks_57 : decode cX4_ticks 57 = .ok (.iload_n 2, 1) := dc_at dkX4_ticks_b1 7 rfl
theorem dX4_ticks_58 : decode cX4_ticks 58 = .ok (.invokevirtual 113, 3) := dc_at dkX4_ticks_b1 8 rfl
theorem dX4_ticks_61 : decode cX4_ticks 61 = .ok (.ireturn, 1) := dc_at dkX4_ticks_b1 9 rfl
def drX4_ticks_b2 : List (Nat × (Instr × Nat)) := [(62, (.aload_n 0, 1)), (63, (.getfield 10, 3)), (66, (.iload_n 1, 1)), (67, (.iload_n 2, 1)), (68, (.invokevirtual 117, 3)), (71, (.ireturn, 1)), (72, (.aload_n 0, 1)), (73, (.getfield 10, 3)), (76, (.iload_n 1, 1)), (77, (.iload_n 2, 1))]
theorem dkX4_ticks_b2 : ((drX4_ticks_b2).all fun r => decide (decode cX4_ticks r.1 = .ok r.2)) = true := by decide +kernel
theorem dX4_ticks_62 : decode cX4_ticks 62 = .ok (.aload_n 0, 1) := dc_at dkX4_ticks_b2 0 rfl
theorem dX4_ticks_63 : decode cX4_ticks 63 = .ok (.getfield 10, 3) := dc_at dkX4_ticks_b2 1 rfl
theorem dX4_ticks_66 : decode cX4_ticks 66 = .ok (.iload_n 1, 1) := dc_at dkX4_ticks_b2 2 rfl
theorem dX4_ticks_67 : decode cX4_ticks 67 = .ok (.iload_n 2, 1) := dc_at dkX4_ticks_b2 3 rfl
theorem dX4_ticks_68 : decode cX4_ticks 68 = .ok (.invokevirtual 117, 3) := dc_at dkX4_ticks_b2 4 rfl
theorem dX4_ticks_71 : decode cX4_ticks 71 = .ok (.ireturn, 1) := dc_at dkX4_ticks_b2 5 rfl
theorem dX4_ticks_72 : decode cX4_ticks 72 = .ok (.aload_n 0, 1) := dc_at dkX4_ticks_b2 6 rfl
theorem dX4_ticks_73 : decode cX4_ticks 73 = .ok (.getfield 10, 3) := dc_at dkX4_ticks_b2 7 rfl
theorem dX4_ticks_76 : decode cX4_ticks 76 = .ok (.iload_n 1, 1) := dc_at dkX4_ticks_b2 8 rfl
theorem dX4_ticks_77 : decode cX4_ticks 77 = .ok (.iload_n 2, 1) := dc_at dkX4_ticks_b2 9 rfl
def drX4_ticks_b3 : List (Nat × (Instr × Nat)) := [(78, (.invokevirtual 120, 3)), (81, (.ireturn, 1)), (82, (.iconst (-1), 1)), (83, (.ireturn, 1))]
theorem dkX4_ticks_b3 : ((drX4_ticks_b3).all fun r => decide (decode cX4_ticks r.1 = .ok r.2)) = true := by decide +kernel
theorem dX4_ticks_78 : decode cX4_ticks 78 = .ok (.invokevirtual 120, 3) := dc_at dkX4_ticks_b3 0 rfl
theorem dX4_ticks_81 : decode cX4_ticks 81 = .ok (.ireturn, 1) := dc_at dkX4_ticks_b3 1 rfl
theorem dX4_ticks_82 : decode cX4_ticks 82 = .ok (.iconst (-1), 1) := dc_at dkX4_ticks_b3 2 rfl
theorem dX4_ticks_83 : decode cX4_ticks 83 = .ok (.ireturn, 1) := dc_at dkX4_ticks_b3 3 rfl
def drX4_go_b0 : List (Nat × (Instr × Nat)) := [(0, (.aload_n 0, 1)), (1, (.getfield 10, 3)), (4, (.iload_n 1, 1)), (5, (.invokevirtual 94, 3)), (8, (.ifCond .eq 14, 3)), (11, (.aload_n 0, 1)), (12, (.getfield 10, 3)), (15, (.iload_n 1, 1)), (16, (.invokevirtual 123, 3)), (19, (.goto 4, 3))]
theorem dkX4_go_b0 : ((drX4_go_b0).all fun r => decide (decode cX4_go r.1 = .ok r.2)) = true := by decide +kernel
theorem dX4_go_0 : decode cX4_go 0 = .ok (.aload_n 0, 1) := dc_at dkX4_go_b0 0 rfl
theorem dX4_go_1 : decode cX4_go 1 = .ok (.getfield 10, 3) := dc_at dkX4_go_b0 1 rfl
theorem dX4_go_4 : decode cX4_go 4 = .ok (.iload_n 1, 1) := dc_at dkX4_go_b0 2 rfl
theorem dX4_go_5 : decode cX4_go 5 = .ok (.invokevirtual 94, 3) := dc_at dkX4_go_b0 3 rfl
theorem dX4_go_8 : decode cX4_go 8 = .ok (.ifCond .eq 14, 3) := dc_at dkX4_go_b0 4 rfl
theorem dX4_go_11 : decode cX4_go 11 = .ok (.aload_n 0, 1) := dc_at dkX4_go_b0 5 rfl
theorem dX4_go_12 : decode cX4_go 12 = .ok (.getfield 10, 3) := dc_at dkX4_go_b0 6 rfl
theorem dX4_go_15 : decode cX4_go 15 = .ok (.iload_n 1, 1) := dc_at dkX4_go_b0 7 rfl
theorem dX4_go_16 : decode cX4_go 16 = .ok (.invokevirtual 123, 3) := dc_at dkX4_go_b0 8 rfl
theorem dX4_go_19 : decode cX4_go 19 = .ok (.goto 4, 3) := dc_at dkX4_go_b0 9 rfl
def drX4_go_b1 : List (Nat × (Instr × Nat)) := [(22, (.iconst (-1), 1)), (23, (.ireturn, 1))]
theorem dkX4_go_b1 : ((drX4_go_b1).all fun r => decide (decode cX4_go r.1 = .ok r.2)) = true := by decide +kernel
theorem dX4_go_22 : decode cX4_go 22 = .ok (.iconst (-1), 1) := dc_at dkX4_go_b1 0 rfl
theorem dX4_go_23 : decode cX4_go 23 = .ok (.ireturn, 1) := dc_at dkX4_go_b1 1 rfl
def drX4_now_b0 : List (Nat × (Instr × Nat)) := [(0, (.iload_n 1, 1)), (1, (.tableswitch 112 0 5 #[39, 47, 55, 70, 78, 86], 39)), (40, (.aload_n 0, 1)), (41, (.getfield 10, 3)), (44, (.getfield 126, 3)), (47, (.ireturn, 1)), (48, (.aload_n 0, 1)), (49, (.getfield 10, 3)), (52, (.getfield 129, 3)), (55, (.ireturn, 1))]
theorem dkX4_now_b0 : ((drX4_now_b0).all fun r => decide (decode cX4_now r.1 = .ok r.2)) = true := by decide +kernel
theorem dX4_now_0 : decode cX4_now 0 = .ok (.iload_n 1, 1) := dc_at dkX4_now_b0 0 rfl
theorem dX4_now_1 : decode cX4_now 1 = .ok (.tableswitch 112 0 5 #[39, 47, 55, 70, 78, 86], 39) := dc_at dkX4_now_b0 1 rfl
theorem dX4_now_40 : decode cX4_now 40 = .ok (.aload_n 0, 1) := dc_at dkX4_now_b0 2 rfl
theorem dX4_now_41 : decode cX4_now 41 = .ok (.getfield 10, 3) := dc_at dkX4_now_b0 3 rfl
theorem dX4_now_44 : decode cX4_now 44 = .ok (.getfield 126, 3) := dc_at dkX4_now_b0 4 rfl
theorem dX4_now_47 : decode cX4_now 47 = .ok (.ireturn, 1) := dc_at dkX4_now_b0 5 rfl
theorem dX4_now_48 : decode cX4_now 48 = .ok (.aload_n 0, 1) := dc_at dkX4_now_b0 6 rfl
theorem dX4_now_49 : decode cX4_now 49 = .ok (.getfield 10, 3) := dc_at dkX4_now_b0 7 rfl
theorem dX4_now_52 : decode cX4_now 52 = .ok (.getfield 129, 3) := dc_at dkX4_now_b0 8 rfl
theorem dX4_now_55 : decode cX4_now 55 = .ok (.ireturn, 1) := dc_at dkX4_now_b0 9 rfl
def drX4_now_b1 : List (Nat × (Instr × Nat)) := [(56, (.aload_n 0, 1)), (57, (.getfield 10, 3)), (60, (.aload_n 0, 1)), (61, (.getfield 10, 3)), (64, (.getfield 126, 3)), (67, (.invokevirtual 101, 3)), (70, (.ireturn, 1)), (71, (.aload_n 0, 1)), (72, (.getfield 10, 3)), (75, (.getfield 132, 3))]
theorem dkX4_now_b1 : ((drX4_now_b1).all fun r => decide (decode cX4_now r.1 = .ok r.2)) = true := by decide +kernel
theorem dX4_now_56 : decode cX4_now 56 = .ok (.aload_n 0, 1) := dc_at dkX4_now_b1 0 rfl
theorem dX4_now_57 : decode cX4_now 57 = .ok (.getfield 10, 3) := dc_at dkX4_now_b1 1 rfl
theorem dX4_now_60 : decode cX4_now 60 = .ok (.aload_n 0, 1) := dc_at dkX4_now_b1 2 rfl
theorem dX4_now_61 : decode cX4_now 61 = .ok (.getfield 10, 3) := dc_at dkX4_now_b1 3 rfl
theorem dX4_now_64 : decode cX4_now 64 = .ok (.getfield 126, 3) := dc_at dkX4_now_b1 4 rfl
theorem dX4_now_67 : decode cX4_now 67 = .ok (.invokevirtual 101, 3) := dc_at dkX4_now_b1 5 rfl
theorem dX4_now_70 : decode cX4_now 70 = .ok (.ireturn, 1) := dc_at dkX4_now_b1 6 rfl
theorem dX4_now_71 : decode cX4_now 71 = .ok (.aload_n 0, 1) := dc_at dkX4_now_b1 7 rfl
theorem dX4_now_72 : decode cX4_now 72 = .ok (.getfield 10, 3) := dc_at dkX4_now_b1 8 rfl
theorem dX4_now_75 : decode cX4_now 75 = .ok (.getfield 132, 3) := dc_at dkX4_now_b1 9 rfl
def drX4_now_b2 : List (Nat × (Instr × Nat)) := [(78, (.ireturn, 1)), (79, (.aload_n 0, 1)), (80, (.getfield 10, 3)), (83, (.getfield 135, 3)), (86, (.ireturn, 1)), (87, (.aload_n 0, 1)), (88, (.getfield 10, 3)), (91, (.iconst 0, 1)), (92, (.invokevirtual 90, 3)), (95, (.aload_n 0, 1))]
theorem dkX4_now_b2 : ((drX4_now_b2).all fun r => decide (decode cX4_now r.1 = .ok r.2)) = true := by decide +kernel
theorem dX4_now_78 : decode cX4_now 78 = .ok (.ireturn, 1) := dc_at dkX4_now_b2 0 rfl
theorem dX4_now_79 : decode cX4_now 79 = .ok (.aload_n 0, 1) := dc_at dkX4_now_b2 1 rfl
theorem dX4_now_80 : decode cX4_now 80 = .ok (.getfield 10, 3) := dc_at dkX4_now_b2 2 rfl
theorem dX4_now_83 : decode cX4_now 83 = .ok (.getfield 135, 3) := dc_at dkX4_now_b2 3 rfl
theorem dX4_now_86 : decode cX4_now 86 = .ok (.ireturn, 1) := dc_at dkX4_now_b2 4 rfl
theorem dX4_now_87 : decode cX4_now 87 = .ok (.aload_n 0, 1) := dc_at dkX4_now_b2 5 rfl
theorem dX4_now_88 : decode cX4_now 88 = .ok (.getfield 10, 3) := dc_at dkX4_now_b2 6 rfl
theorem dX4_now_91 : decode cX4_now 91 = .ok (.iconst 0, 1) := dc_at dkX4_now_b2 7 rfl
theorem dX4_now_92 : decode cX4_now 92 = .ok (.invokevirtual 90, 3) := dc_at dkX4_now_b2 8 rfl
theorem dX4_now_95 : decode cX4_now 95 = .ok (.aload_n 0, 1) := dc_at dkX4_now_b2 9 rfl
def drX4_now_b3 : List (Nat × (Instr × Nat)) := [(96, (.getfield 10, 3)), (99, (.aload_n 0, 1)), (100, (.getfield 10, 3)), (103, (.getfield 138, 3)), (106, (.iconst 1, 1)), (107, (.isub, 1)), (108, (.invokevirtual 141, 3)), (111, (.isub, 1)), (112, (.ireturn, 1)), (113, (.iconst (-1), 1))]
theorem dkX4_now_b3 : ((drX4_now_b3).all fun r => decide (decode cX4_now r.1 = .ok r.2)) = true := by decide +kernel
theorem dX4_now_96 : decode cX4_now 96 = .ok (.getfield 10, 3) := dc_at dkX4_now_b3 0 rfl
theorem dX4_now_99 : decode cX4_now 99 = .ok (.aload_n 0, 1) := dc_at dkX4_now_b3 1 rfl
theorem dX4_now_100 : decode cX4_now 100 = .ok (.getfield 10, 3) := dc_at dkX4_now_b3 2 rfl
theorem dX4_now_103 : decode cX4_now 103 = .ok (.getfield 138, 3) := dc_at dkX4_now_b3 3 rfl
theorem dX4_now_106 : decode cX4_now 106 = .ok (.iconst 1, 1) := dc_at dkX4_now_b3 4 rfl
theorem dX4_now_107 : decode cX4_now 107 = .ok (.isub, 1) := dc_at dkX4_now_b3 5 rfl
theorem dX4_now_108 : decode cX4_now 108 = .ok (.invokevirtual 141, 3) := dc_at dkX4_now_b3 6 rfl
theorem dX4_now_111 : decode cX4_now 111 = .ok (.isub, 1) := dc_at dkX4_now_b3 7 rfl
theorem dX4_now_112 : decode cX4_now 112 = .ok (.ireturn, 1) := dc_at dkX4_now_b3 8 rfl
theorem dX4_now_113 : decode cX4_now 113 = .ok (.iconst (-1), 1) := dc_at dkX4_now_b3 9 rfl
def drX4_now_b4 : List (Nat × (Instr × Nat)) := [(114, (.ireturn, 1))]
theorem dkX4_now_b4 : ((drX4_now_b4).all fun r => decide (decode cX4_now r.1 = .ok r.2)) = true := by decide +kernel
theorem dX4_now_114 : decode cX4_now 114 = .ok (.ireturn, 1) := dc_at dkX4_now_b4 0 rfl
def drX4_within_b0 : List (Nat × (Instr × Nat)) := [(0, (.iload_n 1, 1)), (1, (.iconst 0, 1)), (2, (.ldc 144, 2)), (4, (.invokestatic 69, 3)), (7, (.ifCond .ne 5, 3)), (10, (.iconst (-1), 1)), (11, (.ireturn, 1)), (12, (.aload_n 0, 1)), (13, (.getfield 10, 3)), (16, (.getfield 126, 3))]
theorem dkX4_within_b0 : ((drX4_within_b0).all fun r => decide (decode cX4_within r.1 = .ok r.2)) = true := by decide +kernel
theorem dX4_within_0 : decode cX4_within 0 = .ok (.iload_n 1, 1) := dc_at dkX4_within_b0 0 rfl
theorem dX4_within_1 : decode cX4_within 1 = .ok (.iconst 0, 1) := dc_at dkX4_within_b0 1 rfl
theorem dX4_within_2 : decode cX4_within 2 = .ok (.ldc 144, 2) := dc_at dkX4_within_b0 2 rfl
theorem dX4_within_4 : decode cX4_within 4 = .ok (.invokestatic 69, 3) := dc_at dkX4_within_b0 3 rfl
theorem dX4_within_7 : decode cX4_within 7 = .ok (.ifCond .ne 5, 3) := dc_at dkX4_within_b0 4 rfl
theorem dX4_within_10 : decode cX4_within 10 = .ok (.iconst (-1), 1) := dc_at dkX4_within_b0 5 rfl
theorem dX4_within_11 : decode cX4_within 11 = .ok (.ireturn, 1) := dc_at dkX4_within_b0 6 rfl
theorem dX4_within_12 : decode cX4_within 12 = .ok (.aload_n 0, 1) := dc_at dkX4_within_b0 7 rfl
theorem dX4_within_13 : decode cX4_within 13 = .ok (.getfield 10, 3) := dc_at dkX4_within_b0 8 rfl
theorem dX4_within_16 : decode cX4_within 16 = .ok (.getfield 126, 3) := dc_at dkX4_within_b0 9 rfl
def drX4_within_b1 : List (Nat × (Instr × Nat)) := [(19, (.iload_n 2, 1)), (20, (.ifCond .eq 23, 3)), (23, (.aload_n 0, 1)), (24, (.getfield 10, 3)), (27, (.iload_n 1, 1)), (28, (.aload_n 0, 1)), (29, (.getfield 10, 3)), (32, (.getfield 126, 3)), (35, (.iconst (-1), 1)), (36, (.invokevirtual 145, 3))]
theorem dkX4_within_b1 : ((drX4_within_b1).all fun r => decide (decode cX4_within r.1 = .ok r.2)) = true := by decide +kernel
theorem dX4_within_19 : decode cX4_within 19 = .ok (.iload_n 2, 1) := dc_at dkX4_within_b1 0 rfl
theorem dX4_within_20 : decode cX4_within 20 = .ok (.ifCond .eq 23, 3) := dc_at dkX4_within_b1 1 rfl
theorem dX4_within_23 : decode cX4_within 23 = .ok (.aload_n 0, 1) := dc_at dkX4_within_b1 2 rfl
theorem dX4_within_24 : decode cX4_within 24 = .ok (.getfield 10, 3) := dc_at dkX4_within_b1 3 rfl
theorem dX4_within_27 : decode cX4_within 27 = .ok (.iload_n 1, 1) := dc_at dkX4_within_b1 4 rfl
theorem dX4_within_28 : decode cX4_within 28 = .ok (.aload_n 0, 1) := dc_at dkX4_within_b1 5 rfl
theorem dX4_within_29 : decode cX4_within 29 = .ok (.getfield 10, 3) := dc_at dkX4_within_b1 6 rfl
theorem dX4_within_32 : decode cX4_within 32 = .ok (.getfield 126, 3) := dc_at dkX4_within_b1 7 rfl
theorem dX4_within_35 : decode cX4_within 35 = .ok (.iconst (-1), 1) := dc_at dkX4_within_b1 8 rfl
theorem dX4_within_36 : decode cX4_within 36 = .ok (.invokevirtual 145, 3) := dc_at dkX4_within_b1 9 rfl
def drX4_within_b2 : List (Nat × (Instr × Nat)) := [(39, (.ineg, 1)), (40, (.goto 28, 3)), (43, (.aload_n 0, 1)), (44, (.getfield 10, 3)), (47, (.iload_n 1, 1)), (48, (.aload_n 0, 1)), (49, (.getfield 10, 3)), (52, (.iconst 0, 1)), (53, (.invokevirtual 90, 3)), (56, (.aload_n 0, 1))]
theorem dkX4_within_b2 : ((drX4_within_b2).all fun r => decide (decode cX4_within r.1 = .ok r.2)) = true := by decide +kernel
theorem dX4_within_39 : decode cX4_within 39 = .ok (.ineg, 1) := dc_at dkX4_within_b2 0 rfl
theorem dX4_within_40 : decode cX4_within 40 = .ok (.goto 28, 3) := dc_at dkX4_within_b2 1 rfl
theorem dX4_within_43 : decode cX4_within 43 = .ok (.aload_n 0, 1) := dc_at dkX4_within_b2 2 rfl
theorem dX4_within_44 : decode cX4_within 44 = .ok (.getfield 10, 3) := dc_at dkX4_within_b2 3 rfl
theorem dX4_within_47 : decode cX4_within 47 = .ok (.iload_n 1, 1) := dc_at dkX4_within_b2 4 rfl
theorem dX4_within_48 : decode cX4_within 48 = .ok (.aload_n 0, 1) := dc_at dkX4_within_b2 5 rfl
theorem dX4_within_49 : decode cX4_within 49 = .ok (.getfield 10, 3) := dc_at dkX4_within_b2 6 rfl
theorem dX4_within_52 : decode cX4_within 52 = .ok (.iconst 0, 1) := dc_at dkX4_within_b2 7 rfl
theorem dX4_within_53 : decode cX4_within 53 = .ok (.invokevirtual 90, 3) := dc_at dkX4_within_b2 8 rfl
theorem dX4_within_56 : decode cX4_within 56 = .ok (.aload_n 0, 1) := dc_at dkX4_within_b2 9 rfl
def drX4_within_b3 : List (Nat × (Instr × Nat)) := [(57, (.getfield 10, 3)), (60, (.getfield 126, 3)), (63, (.isub, 1)), (64, (.iconst 1, 1)), (65, (.invokevirtual 145, 3)), (68, (.iadd, 1)), (69, (.ireturn, 1))]
theorem dkX4_within_b3 : ((drX4_within_b3).all fun r => decide (decode cX4_within r.1 = .ok r.2)) = true := by decide +kernel
theorem dX4_within_57 : decode cX4_within 57 = .ok (.getfield 10, 3) := dc_at dkX4_within_b3 0 rfl
theorem dX4_within_60 : decode cX4_within 60 = .ok (.getfield 126, 3) := dc_at dkX4_within_b3 1 rfl
theorem dX4_within_63 : decode cX4_within 63 = .ok (.isub, 1) := dc_at dkX4_within_b3 2 rfl
theorem dX4_within_64 : decode cX4_within 64 = .ok (.iconst 1, 1) := dc_at dkX4_within_b3 3 rfl
theorem dX4_within_65 : decode cX4_within 65 = .ok (.invokevirtual 145, 3) := dc_at dkX4_within_b3 4 rfl
theorem dX4_within_68 : decode cX4_within 68 = .ok (.iadd, 1) := dc_at dkX4_within_b3 5 rfl
theorem dX4_within_69 : decode cX4_within 69 = .ok (.ireturn, 1) := dc_at dkX4_within_b3 6 rfl
def drX4_block_b0 : List (Nat × (Instr × Nat)) := [(0, (.aload_n 0, 1)), (1, (.getfield 10, 3)), (4, (.iload_n 1, 1)), (5, (.invokevirtual 149, 3)), (8, (.ifCond .ne 5, 3)), (11, (.iconst (-1), 1)), (12, (.ireturn, 1)), (13, (.iload_n 2, 1)), (14, (.tableswitch 102 0 4 #[34, 43, 52, 61, 93], 34)), (48, (.aload_n 0, 1))]
theorem dkX4_block_b0 : ((drX4_block_b0).all fun r => decide (decode cX4_block r.1 = .ok r.2)) = true := by decide +kernel
theorem dX4_block_0 : decode cX4_block 0 = .ok (.aload_n 0, 1) := dc_at dkX4_block_b0 0 rfl
theorem dX4_block_1 : decode cX4_block 1 = .ok (.getfield 10, 3) := dc_at dkX4_block_b0 1 rfl
theorem dX4_block_4 : decode cX4_block 4 = .ok (.iload_n 1, 1) := dc_at dkX4_block_b0 2 rfl
theorem dX4_block_5 : decode cX4_block 5 = .ok (.invokevirtual 149, 3) := dc_at dkX4_block_b0 3 rfl
theorem dX4_block_8 : decode cX4_block 8 = .ok (.ifCond .ne 5, 3) := dc_at dkX4_block_b0 4 rfl
theorem dX4_block_11 : decode cX4_block 11 = .ok (.iconst (-1), 1) := dc_at dkX4_block_b0 5 rfl
theorem dX4_block_12 : decode cX4_block 12 = .ok (.ireturn, 1) := dc_at dkX4_block_b0 6 rfl
theorem dX4_block_13 : decode cX4_block 13 = .ok (.iload_n 2, 1) := dc_at dkX4_block_b0 7 rfl
theorem dX4_block_14 : decode cX4_block 14 = .ok (.tableswitch 102 0 4 #[34, 43, 52, 61, 93], 34) := dc_at dkX4_block_b0 8 rfl
theorem dX4_block_48 : decode cX4_block 48 = .ok (.aload_n 0, 1) := dc_at dkX4_block_b0 9 rfl
def drX4_block_b1 : List (Nat × (Instr × Nat)) := [(49, (.getfield 10, 3)), (52, (.iload_n 1, 1)), (53, (.invokevirtual 152, 3)), (56, (.ireturn, 1)), (57, (.aload_n 0, 1)), (58, (.getfield 10, 3)), (61, (.iload_n 1, 1)), (62, (.invokevirtual 155, 3)), (65, (.ireturn, 1)), (66, (.aload_n 0, 1))]
theorem dkX4_block_b1 : ((drX4_block_b1).all fun r => decide (decode cX4_block r.1 = .ok r.2)) = true := by decide +kernel
theorem dX4_block_49 : decode cX4_block 49 = .ok (.getfield 10, 3) := dc_at dkX4_block_b1 0 rfl
theorem dX4_block_52 : decode cX4_block 52 = .ok (.iload_n 1, 1) := dc_at dkX4_block_b1 1 rfl
theorem dX4_block_53 : decode cX4_block 53 = .ok (.invokevirtual 152, 3) := dc_at dkX4_block_b1 2 rfl
theorem dX4_block_56 : decode cX4_block 56 = .ok (.ireturn, 1) := dc_at dkX4_block_b1 3 rfl
theorem dX4_block_57 : decode cX4_block 57 = .ok (.aload_n 0, 1) := dc_at dkX4_block_b1 4 rfl
theorem dX4_block_58 : decode cX4_block 58 = .ok (.getfield 10, 3) := dc_at dkX4_block_b1 5 rfl
theorem dX4_block_61 : decode cX4_block 61 = .ok (.iload_n 1, 1) := dc_at dkX4_block_b1 6 rfl
theorem dX4_block_62 : decode cX4_block 62 = .ok (.invokevirtual 155, 3) := dc_at dkX4_block_b1 7 rfl
theorem dX4_block_65 : decode cX4_block 65 = .ok (.ireturn, 1) := dc_at dkX4_block_b1 8 rfl
theorem dX4_block_66 : decode cX4_block 66 = .ok (.aload_n 0, 1) := dc_at dkX4_block_b1 9 rfl
def drX4_block_b2 : List (Nat × (Instr × Nat)) := [(67, (.getfield 10, 3)), (70, (.iload_n 1, 1)), (71, (.invokevirtual 158, 3)), (74, (.ireturn, 1)), (75, (.aload_n 0, 1)), (76, (.getfield 10, 3)), (79, (.iload_n 1, 1)), (80, (.invokevirtual 161, 3)), (83, (.ifCond .eq 7, 3)), (86, (.iconst 0, 1))]
theorem dkX4_block_b2 : ((drX4_block_b2).all fun r => decide (decode cX4_block r.1 = .ok r.2)) = true := by decide +kernel
theorem dX4_block_67 : decode cX4_block 67 = .ok (.getfield 10, 3) := dc_at dkX4_block_b2 0 rfl
theorem dX4_block_70 : decode cX4_block 70 = .ok (.iload_n 1, 1) := dc_at dkX4_block_b2 1 rfl
theorem dX4_block_71 : decode cX4_block 71 = .ok (.invokevirtual 158, 3) := dc_at dkX4_block_b2 2 rfl
theorem dX4_block_74 : decode cX4_block 74 = .ok (.ireturn, 1) := dc_at dkX4_block_b2 3 rfl
theorem dX4_block_75 : decode cX4_block 75 = .ok (.aload_n 0, 1) := dc_at dkX4_block_b2 4 rfl
theorem dX4_block_76 : decode cX4_block 76 = .ok (.getfield 10, 3) := dc_at dkX4_block_b2 5 rfl
theorem dX4_block_79 : decode cX4_block 79 = .ok (.iload_n 1, 1) := dc_at dkX4_block_b2 6 rfl
theorem dX4_block_80 : decode cX4_block 80 = .ok (.invokevirtual 161, 3) := dc_at dkX4_block_b2 7 rfl
theorem dX4_block_83 : decode cX4_block 83 = .ok (.ifCond .eq 7, 3) := dc_at dkX4_block_b2 8 rfl
theorem dX4_block_86 : decode cX4_block 86 = .ok (.iconst 0, 1) := dc_at dkX4_block_b2 9 rfl
def drX4_block_b3 : List (Nat × (Instr × Nat)) := [(87, (.goto 19, 3)), (90, (.aload_n 0, 1)), (91, (.getfield 10, 3)), (94, (.iload_n 1, 1)), (95, (.aload_n 0, 1)), (96, (.getfield 10, 3)), (99, (.iload_n 1, 1)), (100, (.invokevirtual 158, 3)), (103, (.invokevirtual 164, 3)), (106, (.ireturn, 1))]
theorem dkX4_block_b3 : ((drX4_block_b3).all fun r => decide (decode cX4_block r.1 = .ok r.2)) = true := by decide +kernel
theorem dX4_block_87 : decode cX4_block 87 = .ok (.goto 19, 3) := dc_at dkX4_block_b3 0 rfl
theorem dX4_block_90 : decode cX4_block 90 = .ok (.aload_n 0, 1) := dc_at dkX4_block_b3 1 rfl
theorem dX4_block_91 : decode cX4_block 91 = .ok (.getfield 10, 3) := dc_at dkX4_block_b3 2 rfl
theorem dX4_block_94 : decode cX4_block 94 = .ok (.iload_n 1, 1) := dc_at dkX4_block_b3 3 rfl
theorem dX4_block_95 : decode cX4_block 95 = .ok (.aload_n 0, 1) := dc_at dkX4_block_b3 4 rfl
theorem dX4_block_96 : decode cX4_block 96 = .ok (.getfield 10, 3) := dc_at dkX4_block_b3 5 rfl
theorem dX4_block_99 : decode cX4_block 99 = .ok (.iload_n 1, 1) := dc_at dkX4_block_b3 6 rfl
theorem dX4_block_100 : decode cX4_block 100 = .ok (.invokevirtual 158, 3) := dc_at dkX4_block_b3 7 rfl
theorem dX4_block_103 : decode cX4_block 103 = .ok (.invokevirtual 164, 3) := dc_at dkX4_block_b3 8 rfl
theorem dX4_block_106 : decode cX4_block 106 = .ok (.ireturn, 1) := dc_at dkX4_block_b3 9 rfl
def drX4_block_b4 : List (Nat × (Instr × Nat)) := [(107, (.aload_n 0, 1)), (108, (.getfield 10, 3)), (111, (.iload_n 1, 1)), (112, (.invokevirtual 141, 3)), (115, (.ireturn, 1)), (116, (.iconst (-1), 1)), (117, (.ireturn, 1))]
theorem dkX4_block_b4 : ((drX4_block_b4).all fun r => decide (decode cX4_block r.1 = .ok r.2)) = true := by decide +kernel
theorem dX4_block_107 : decode cX4_block 107 = .ok (.aload_n 0, 1) := dc_at dkX4_block_b4 0 rfl
theorem dX4_block_108 : decode cX4_block 108 = .ok (.getfield 10, 3) := dc_at dkX4_block_b4 1 rfl
theorem dX4_block_111 : decode cX4_block 111 = .ok (.iload_n 1, 1) := dc_at dkX4_block_b4 2 rfl
theorem dX4_block_112 : decode cX4_block 112 = .ok (.invokevirtual 141, 3) := dc_at dkX4_block_b4 3 rfl
theorem dX4_block_115 : decode cX4_block 115 = .ok (.ireturn, 1) := dc_at dkX4_block_b4 4 rfl
theorem dX4_block_116 : decode cX4_block 116 = .ok (.iconst (-1), 1) := dc_at dkX4_block_b4 5 rfl
theorem dX4_block_117 : decode cX4_block 117 = .ok (.ireturn, 1) := dc_at dkX4_block_b4 6 rfl
def drX4_blockAt_b0 : List (Nat × (Instr × Nat)) := [(0, (.aload_n 0, 1)), (1, (.getfield 10, 3)), (4, (.iload_n 1, 1)), (5, (.invokevirtual 94, 3)), (8, (.ifCond .eq 14, 3)), (11, (.aload_n 0, 1)), (12, (.getfield 10, 3)), (15, (.iload_n 1, 1)), (16, (.invokevirtual 167, 3)), (19, (.goto 4, 3))]
theorem dkX4_blockAt_b0 : ((drX4_blockAt_b0).all fun r => decide (decode cX4_blockAt r.1 = .ok r.2)) = true := by decide +kernel
theorem dX4_blockAt_0 : decode cX4_blockAt 0 = .ok (.aload_n 0, 1) := dc_at dkX4_blockAt_b0 0 rfl
theorem dX4_blockAt_1 : decode cX4_blockAt 1 = .ok (.getfield 10, 3) := dc_at dkX4_blockAt_b0 1 rfl
theorem dX4_blockAt_4 : decode cX4_blockAt 4 = .ok (.iload_n 1, 1) := dc_at dkX4_blockAt_b0 2 rfl
theorem dX4_blockAt_5 : decode cX4_blockAt 5 = .ok (.invokevirtual 94, 3) := dc_at dkX4_blockAt_b0 3 rfl
theorem dX4_blockAt_8 : decode cX4_blockAt 8 = .ok (.ifCond .eq 14, 3) := dc_at dkX4_blockAt_b0 4 rfl
theorem dX4_blockAt_11 : decode cX4_blockAt 11 = .ok (.aload_n 0, 1) := dc_at dkX4_blockAt_b0 5 rfl
theorem dX4_blockAt_12 : decode cX4_blockAt 12 = .ok (.getfield 10, 3) := dc_at dkX4_blockAt_b0 6 rfl
theorem dX4_blockAt_15 : decode cX4_blockAt 15 = .ok (.iload_n 1, 1) := dc_at dkX4_blockAt_b0 7 rfl
theorem dX4_blockAt_16 : decode cX4_blockAt 16 = .ok (.invokevirtual 167, 3) := dc_at dkX4_blockAt_b0 8 rfl
theorem dX4_blockAt_19 : decode cX4_blockAt 19 = .ok (.goto 4, 3) := dc_at dkX4_blockAt_b0 9 rfl
def drX4_blockAt_b1 : List (Nat × (Instr × Nat)) := [(22, (.iconst (-1), 1)), (23, (.ireturn, 1))]
theorem dkX4_blockAt_b1 : ((drX4_blockAt_b1).all fun r => decide (decode cX4_blockAt r.1 = .ok r.2)) = true := by decide +kernel
theorem dX4_blockAt_22 : decode cX4_blockAt 22 = .ok (.iconst (-1), 1) := dc_at dkX4_blockAt_b1 0 rfl
theorem dX4_blockAt_23 : decode cX4_blockAt 23 = .ok (.ireturn, 1) := dc_at dkX4_blockAt_b1 1 rfl
def drX4_type_b0 : List (Nat × (Instr × Nat)) := [(0, (.iload_n 1, 1)), (1, (.iconst 0, 1)), (2, (.sipush 255, 3)), (5, (.invokestatic 69, 3)), (8, (.ifCond .ne 5, 3)), (11, (.iconst (-1), 1)), (12, (.ireturn, 1)), (13, (.aload_n 0, 1)), (14, (.getfield 10, 3)), (17, (.getfield 135, 3))]
theorem dkX4_type_b0 : ((drX4_type_b0).all fun r => decide (decode cX4_type r.1 = .ok r.2)) = true := by decide +kernel
theorem dX4_type_0 : decode cX4_type 0 = .ok (.iload_n 1, 1) := dc_at dkX4_type_b0 0 rfl
theorem dX4_type_1 : decode cX4_type 1 = .ok (.iconst 0, 1) := dc_at dkX4_type_b0 1 rfl
theorem dX4_type_2 : decode cX4_type 2 = .ok (.sipush 255, 3) := dc_at dkX4_type_b0 2 rfl
theorem dX4_type_5 : decode cX4_type 5 = .ok (.invokestatic 69, 3) := dc_at dkX4_type_b0 3 rfl
theorem dX4_type_8 : decode cX4_type 8 = .ok (.ifCond .ne 5, 3) := dc_at dkX4_type_b0 4 rfl
theorem dX4_type_11 : decode cX4_type 11 = .ok (.iconst (-1), 1) := dc_at dkX4_type_b0 5 rfl
theorem dX4_type_12 : decode cX4_type 12 = .ok (.ireturn, 1) := dc_at dkX4_type_b0 6 rfl
theorem dX4_type_13 : decode cX4_type 13 = .ok (.aload_n 0, 1) := dc_at dkX4_type_b0 7 rfl
theorem dX4_type_14 : decode cX4_type 14 = .ok (.getfield 10, 3) := dc_at dkX4_type_b0 8 rfl
theorem dX4_type_17 : decode cX4_type 17 = .ok (.getfield 135, 3) := dc_at dkX4_type_b0 9 rfl
def drX4_type_b1 : List (Nat × (Instr × Nat)) := [(20, (.bipush 12, 2)), (22, (.if_icmp .lt 6, 3)), (25, (.bipush (-3), 2)), (27, (.ireturn, 1)), (28, (.aload_n 0, 1)), (29, (.getfield 10, 3)), (32, (.iload_n 1, 1)), (33, (.invokevirtual 170, 3)), (36, (.ireturn, 1))]
theorem dkX4_type_b1 : ((drX4_type_b1).all fun r => decide (decode cX4_type r.1 = .ok r.2)) = true := by decide +kernel
theorem dX4_type_20 : decode cX4_type 20 = .ok (.bipush 12, 2) := dc_at dkX4_type_b1 0 rfl
theorem dX4_type_22 : decode cX4_type 22 = .ok (.if_icmp .lt 6, 3) := dc_at dkX4_type_b1 1 rfl
theorem dX4_type_25 : decode cX4_type 25 = .ok (.bipush (-3), 2) := dc_at dkX4_type_b1 2 rfl
theorem dX4_type_27 : decode cX4_type 27 = .ok (.ireturn, 1) := dc_at dkX4_type_b1 3 rfl
theorem dX4_type_28 : decode cX4_type 28 = .ok (.aload_n 0, 1) := dc_at dkX4_type_b1 4 rfl
theorem dX4_type_29 : decode cX4_type 29 = .ok (.getfield 10, 3) := dc_at dkX4_type_b1 5 rfl
theorem dX4_type_32 : decode cX4_type 32 = .ok (.iload_n 1, 1) := dc_at dkX4_type_b1 6 rfl
theorem dX4_type_33 : decode cX4_type 33 = .ok (.invokevirtual 170, 3) := dc_at dkX4_type_b1 7 rfl
theorem dX4_type_36 : decode cX4_type 36 = .ok (.ireturn, 1) := dc_at dkX4_type_b1 8 rfl
def drX4_write_b0 : List (Nat × (Instr × Nat)) := [(0, (.iload_n 1, 1)), (1, (.iconst 0, 1)), (2, (.aload_n 0, 1)), (3, (.getfield 10, 3)), (6, (.getfield 138, 3)), (9, (.invokestatic 69, 3)), (12, (.ifCond .ne 5, 3)), (15, (.iconst (-1), 1)), (16, (.ireturn, 1)), (17, (.aload_n 0, 1))]
theorem dkX4_write_b0 : ((drX4_write_b0).all fun r => decide (decode cX4_write r.1 = .ok r.2)) = true := by decide +kernel
theorem dX4_write_0 : decode cX4_write 0 = .ok (.iload_n 1, 1) := dc_at dkX4_write_b0 0 rfl
theorem dX4_write_1 : decode cX4_write 1 = .ok (.iconst 0, 1) := dc_at dkX4_write_b0 1 rfl
theorem dX4_write_2 : decode cX4_write 2 = .ok (.aload_n 0, 1) := dc_at dkX4_write_b0 2 rfl
theorem dX4_write_3 : decode cX4_write 3 = .ok (.getfield 10, 3) := dc_at dkX4_write_b0 3 rfl
theorem dX4_write_6 : decode cX4_write 6 = .ok (.getfield 138, 3) := dc_at dkX4_write_b0 4 rfl
theorem dX4_write_9 : decode cX4_write 9 = .ok (.invokestatic 69, 3) := dc_at dkX4_write_b0 5 rfl
theorem dX4_write_12 : decode cX4_write 12 = .ok (.ifCond .ne 5, 3) := dc_at dkX4_write_b0 6 rfl
theorem dX4_write_15 : decode cX4_write 15 = .ok (.iconst (-1), 1) := dc_at dkX4_write_b0 7 rfl
theorem dX4_write_16 : decode cX4_write 16 = .ok (.ireturn, 1) := dc_at dkX4_write_b0 8 rfl
theorem dX4_write_17 : decode cX4_write 17 = .ok (.aload_n 0, 1) := dc_at dkX4_write_b0 9 rfl
def drX4_write_b1 : List (Nat × (Instr × Nat)) := [(18, (.getfield 10, 3)), (21, (.getfield 135, 3)), (24, (.ifCond .ne 6, 3)), (27, (.bipush (-2), 2)), (29, (.ireturn, 1)), (30, (.aload_n 0, 1)), (31, (.getfield 10, 3)), (34, (.iload_n 1, 1)), (35, (.aload_n 0, 1)), (36, (.getfield 10, 3))]
theorem dkX4_write_b1 : ((drX4_write_b1).all fun r => decide (decode cX4_write r.1 = .ok r.2)) = true := by decide +kernel
theorem dX4_write_18 : decode cX4_write 18 = .ok (.getfield 10, 3) := dc_at dkX4_write_b1 0 rfl
theorem dX4_write_21 : decode cX4_write 21 = .ok (.getfield 135, 3) := dc_at dkX4_write_b1 1 rfl
theorem dX4_write_24 : decode cX4_write 24 = .ok (.ifCond .ne 6, 3) := dc_at dkX4_write_b1 2 rfl
theorem dX4_write_27 : decode cX4_write 27 = .ok (.bipush (-2), 2) := dc_at dkX4_write_b1 3 rfl
theorem dX4_write_29 : decode cX4_write 29 = .ok (.ireturn, 1) := dc_at dkX4_write_b1 4 rfl
theorem dX4_write_30 : decode cX4_write 30 = .ok (.aload_n 0, 1) := dc_at dkX4_write_b1 5 rfl
theorem dX4_write_31 : decode cX4_write 31 = .ok (.getfield 10, 3) := dc_at dkX4_write_b1 6 rfl
theorem dX4_write_34 : decode cX4_write 34 = .ok (.iload_n 1, 1) := dc_at dkX4_write_b1 7 rfl
theorem dX4_write_35 : decode cX4_write 35 = .ok (.aload_n 0, 1) := dc_at dkX4_write_b1 8 rfl
theorem dX4_write_36 : decode cX4_write 36 = .ok (.getfield 10, 3) := dc_at dkX4_write_b1 9 rfl
def drX4_write_b2 : List (Nat × (Instr × Nat)) := [(39, (.getfield 135, 3)), (42, (.invokevirtual 173, 3)), (45, (.ifCond .ne 6, 3)), (48, (.bipush (-3), 2)), (50, (.ireturn, 1)), (51, (.aload_n 0, 1)), (52, (.getfield 10, 3)), (55, (.iload_n 1, 1)), (56, (.aload_n 0, 1)), (57, (.getfield 10, 3))]
theorem dkX4_write_b2 : ((drX4_write_b2).all fun r => decide (decode cX4_write r.1 = .ok r.2)) = true := by decide +kernel
theorem dX4_write_39 : decode cX4_write 39 = .ok (.getfield 135, 3) := dc_at dkX4_write_b2 0 rfl
theorem dX4_write_42 : decode cX4_write 42 = .ok (.invokevirtual 173, 3) := dc_at dkX4_write_b2 1 rfl
theorem dX4_write_45 : decode cX4_write 45 = .ok (.ifCond .ne 6, 3) := dc_at dkX4_write_b2 2 rfl
theorem dX4_write_48 : decode cX4_write 48 = .ok (.bipush (-3), 2) := dc_at dkX4_write_b2 3 rfl
theorem dX4_write_50 : decode cX4_write 50 = .ok (.ireturn, 1) := dc_at dkX4_write_b2 4 rfl
theorem dX4_write_51 : decode cX4_write 51 = .ok (.aload_n 0, 1) := dc_at dkX4_write_b2 5 rfl
theorem dX4_write_52 : decode cX4_write 52 = .ok (.getfield 10, 3) := dc_at dkX4_write_b2 6 rfl
theorem dX4_write_55 : decode cX4_write 55 = .ok (.iload_n 1, 1) := dc_at dkX4_write_b2 7 rfl
theorem dX4_write_56 : decode cX4_write 56 = .ok (.aload_n 0, 1) := dc_at dkX4_write_b2 8 rfl
theorem dX4_write_57 : decode cX4_write 57 = .ok (.getfield 10, 3) := dc_at dkX4_write_b2 9 rfl
def drX4_write_b3 : List (Nat × (Instr × Nat)) := [(60, (.getfield 135, 3)), (63, (.invokevirtual 177, 3)), (66, (.istore_n 2, 1)), (67, (.aload_n 0, 1)), (68, (.getfield 10, 3)), (71, (.iconst 0, 1)), (72, (.putfield 135, 3)), (75, (.iload_n 2, 1)), (76, (.ireturn, 1))]
theorem dkX4_write_b3 : ((drX4_write_b3).all fun r => decide (decode cX4_write r.1 = .ok r.2)) = true := by decide +kernel
theorem dX4_write_60 : decode cX4_write 60 = .ok (.getfield 135, 3) := dc_at dkX4_write_b3 0 rfl
theorem dX4_write_63 : decode cX4_write 63 = .ok (.invokevirtual 177, 3) := dc_at dkX4_write_b3 1 rfl
theorem dX4_write_66 : decode cX4_write 66 = .ok (.istore_n 2, 1) := dc_at dkX4_write_b3 2 rfl
theorem dX4_write_67 : decode cX4_write 67 = .ok (.aload_n 0, 1) := dc_at dkX4_write_b3 3 rfl
theorem dX4_write_68 : decode cX4_write 68 = .ok (.getfield 10, 3) := dc_at dkX4_write_b3 4 rfl
theorem dX4_write_71 : decode cX4_write 71 = .ok (.iconst 0, 1) := dc_at dkX4_write_b3 5 rfl
theorem dX4_write_72 : decode cX4_write 72 = .ok (.putfield 135, 3) := dc_at dkX4_write_b3 6 rfl
theorem dX4_write_75 : decode cX4_write 75 = .ok (.iload_n 2, 1) := dc_at dkX4_write_b3 7 rfl
theorem dX4_write_76 : decode cX4_write 76 = .ok (.ireturn, 1) := dc_at dkX4_write_b3 8 rfl
def drX4_mark_b0 : List (Nat × (Instr × Nat)) := [(0, (.iload_n 1, 1)), (1, (.iconst 0, 1)), (2, (.aload_n 0, 1)), (3, (.getfield 10, 3)), (6, (.getfield 138, 3)), (9, (.invokestatic 69, 3)), (12, (.ifCond .ne 5, 3)), (15, (.iconst (-1), 1)), (16, (.ireturn, 1)), (17, (.aload_n 0, 1))]
theorem dkX4_mark_b0 : ((drX4_mark_b0).all fun r => decide (decode cX4_mark r.1 = .ok r.2)) = true := by decide +kernel
theorem dX4_mark_0 : decode cX4_mark 0 = .ok (.iload_n 1, 1) := dc_at dkX4_mark_b0 0 rfl
theorem dX4_mark_1 : decode cX4_mark 1 = .ok (.iconst 0, 1) := dc_at dkX4_mark_b0 1 rfl
theorem dX4_mark_2 : decode cX4_mark 2 = .ok (.aload_n 0, 1) := dc_at dkX4_mark_b0 2 rfl
theorem dX4_mark_3 : decode cX4_mark 3 = .ok (.getfield 10, 3) := dc_at dkX4_mark_b0 3 rfl
theorem dX4_mark_6 : decode cX4_mark 6 = .ok (.getfield 138, 3) := dc_at dkX4_mark_b0 4 rfl
theorem dX4_mark_9 : decode cX4_mark 9 = .ok (.invokestatic 69, 3) := dc_at dkX4_mark_b0 5 rfl
theorem dX4_mark_12 : decode cX4_mark 12 = .ok (.ifCond .ne 5, 3) := dc_at dkX4_mark_b0 6 rfl
theorem dX4_mark_15 : decode cX4_mark 15 = .ok (.iconst (-1), 1) := dc_at dkX4_mark_b0 7 rfl
theorem dX4_mark_16 : decode cX4_mark 16 = .ok (.ireturn, 1) := dc_at dkX4_mark_b0 8 rfl
theorem dX4_mark_17 : decode cX4_mark 17 = .ok (.aload_n 0, 1) := dc_at dkX4_mark_b0 9 rfl
def drX4_mark_b1 : List (Nat × (Instr × Nat)) := [(18, (.getfield 10, 3)), (21, (.iload_n 1, 1)), (22, (.iconst 0, 1)), (23, (.invokevirtual 173, 3)), (26, (.ifCond .ne 6, 3)), (29, (.bipush (-3), 2)), (31, (.ireturn, 1)), (32, (.aload_n 0, 1)), (33, (.getfield 10, 3)), (36, (.iload_n 1, 1))]
theorem dkX4_mark_b1 : ((drX4_mark_b1).all fun r => decide (decode cX4_mark r.1 = .ok r.2)) = true := by decide +kernel
theorem dX4_mark_18 : decode cX4_mark 18 = .ok (.getfield 10, 3) := dc_at dkX4_mark_b1 0 rfl
theorem dX4_mark_21 : decode cX4_mark 21 = .ok (.iload_n 1, 1) := dc_at dkX4_mark_b1 1 rfl
theorem dX4_mark_22 : decode cX4_mark 22 = .ok (.iconst 0, 1) := dc_at dkX4_mark_b1 2 rfl
theorem dX4_mark_23 : decode cX4_mark 23 = .ok (.invokevirtual 173, 3) := dc_at dkX4_mark_b1 3 rfl
theorem dX4_mark_26 : decode cX4_mark 26 = .ok (.ifCond .ne 6, 3) := dc_at dkX4_mark_b1 4 rfl
theorem dX4_mark_29 : decode cX4_mark 29 = .ok (.bipush (-3), 2) := dc_at dkX4_mark_b1 5 rfl
theorem dX4_mark_31 : decode cX4_mark 31 = .ok (.ireturn, 1) := dc_at dkX4_mark_b1 6 rfl
theorem dX4_mark_32 : decode cX4_mark 32 = .ok (.aload_n 0, 1) := dc_at dkX4_mark_b1 7 rfl
theorem dX4_mark_33 : decode cX4_mark 33 = .ok (.getfield 10, 3) := dc_at dkX4_mark_b1 8 rfl
theorem dX4_mark_36 : decode cX4_mark 36 = .ok (.iload_n 1, 1) := dc_at dkX4_mark_b1 9 rfl
def drX4_mark_b2 : List (Nat × (Instr × Nat)) := [(37, (.iconst 0, 1)), (38, (.invokevirtual 177, 3)), (41, (.ireturn, 1))]
theorem dkX4_mark_b2 : ((drX4_mark_b2).all fun r => decide (decode cX4_mark r.1 = .ok r.2)) = true := by decide +kernel
theorem dX4_mark_37 : decode cX4_mark 37 = .ok (.iconst 0, 1) := dc_at dkX4_mark_b2 0 rfl
theorem dX4_mark_38 : decode cX4_mark 38 = .ok (.invokevirtual 177, 3) := dc_at dkX4_mark_b2 1 rfl
theorem dX4_mark_41 : decode cX4_mark 41 = .ok (.ireturn, 1) := dc_at dkX4_mark_b2 2 rfl
def drX4_spoil_b0 : List (Nat × (Instr × Nat)) := [(0, (.aload_n 0, 1)), (1, (.getfield 10, 3)), (4, (.iload_n 1, 1)), (5, (.iload_n 2, 1)), (6, (.invokevirtual 180, 3)), (9, (.ifCond .eq 13, 3)), (12, (.iload_n 3, 1)), (13, (.iconst 0, 1)), (14, (.bipush 8, 2)), (16, (.invokestatic 69, 3))]
theorem dkX4_spoil_b0 : ((drX4_spoil_b0).all fun r => decide (decode cX4_spoil r.1 = .ok r.2)) = true := by decide +kernel
theorem dX4_spoil_0 : decode cX4_spoil 0 = .ok (.aload_n 0, 1) := dc_at dkX4_spoil_b0 0 rfl
theorem dX4_spoil_1 : decode cX4_spoil 1 = .ok (.getfield 10, 3) := dc_at dkX4_spoil_b0 1 rfl
theorem dX4_spoil_4 : decode cX4_spoil 4 = .ok (.iload_n 1, 1) := dc_at dkX4_spoil_b0 2 rfl
theorem dX4_spoil_5 : decode cX4_spoil 5 = .ok (.iload_n 2, 1) := dc_at dkX4_spoil_b0 3 rfl
theorem dX4_spoil_6 : decode cX4_spoil 6 = .ok (.invokevirtual 180, 3) := dc_at dkX4_spoil_b0 4 rfl
theorem dX4_spoil_9 : decode cX4_spoil 9 = .ok (.ifCond .eq 13, 3) := dc_at dkX4_spoil_b0 5 rfl
theorem dX4_spoil_12 : decode cX4_spoil 12 = .ok (.iload_n 3, 1) := dc_at dkX4_spoil_b0 6 rfl
theorem dX4_spoil_13 : decode cX4_spoil 13 = .ok (.iconst 0, 1) := dc_at dkX4_spoil_b0 7 rfl
theorem dX4_spoil_14 : decode cX4_spoil 14 = .ok (.bipush 8, 2) := dc_at dkX4_spoil_b0 8 rfl
theorem dX4_spoil_16 : decode cX4_spoil 16 = .ok (.invokestatic 69, 3) := dc_at dkX4_spoil_b0 9 rfl
def drX4_spoil_b1 : List (Nat × (Instr × Nat)) := [(19, (.ifCond .ne 5, 3)), (22, (.iconst (-1), 1)), (23, (.ireturn, 1)), (24, (.aload_n 0, 1)), (25, (.getfield 10, 3)), (28, (.iload_n 1, 1)), (29, (.iload_n 2, 1)), (30, (.iload_n 3, 1)), (31, (.invokevirtual 183, 3)), (34, (.ireturn, 1))]
theorem dkX4_spoil_b1 : ((drX4_spoil_b1).all fun r => decide (decode cX4_spoil r.1 = .ok r.2)) = true := by decide +kernel
theorem dX4_spoil_19 : decode cX4_spoil 19 = .ok (.ifCond .ne 5, 3) := dc_at dkX4_spoil_b1 0 rfl
theorem dX4_spoil_22 : decode cX4_spoil 22 = .ok (.iconst (-1), 1) := dc_at dkX4_spoil_b1 1 rfl
theorem dX4_spoil_23 : decode cX4_spoil 23 = .ok (.ireturn, 1) := dc_at dkX4_spoil_b1 2 rfl
theorem dX4_spoil_24 : decode cX4_spoil 24 = .ok (.aload_n 0, 1) := dc_at dkX4_spoil_b1 3 rfl
theorem dX4_spoil_25 : decode cX4_spoil 25 = .ok (.getfield 10, 3) := dc_at dkX4_spoil_b1 4 rfl
theorem dX4_spoil_28 : decode cX4_spoil 28 = .ok (.iload_n 1, 1) := dc_at dkX4_spoil_b1 5 rfl
theorem dX4_spoil_29 : decode cX4_spoil 29 = .ok (.iload_n 2, 1) := dc_at dkX4_spoil_b1 6 rfl
theorem dX4_spoil_30 : decode cX4_spoil 30 = .ok (.iload_n 3, 1) := dc_at dkX4_spoil_b1 7 rfl
theorem dX4_spoil_31 : decode cX4_spoil 31 = .ok (.invokevirtual 183, 3) := dc_at dkX4_spoil_b1 8 rfl
theorem dX4_spoil_34 : decode cX4_spoil 34 = .ok (.ireturn, 1) := dc_at dkX4_spoil_b1 9 rfl
def drX4_dead_b0 : List (Nat × (Instr × Nat)) := [(0, (.iload_n 1, 1)), (1, (.bipush (-4), 2)), (3, (.if_icmp .eq 15, 3)), (6, (.iload_n 1, 1)), (7, (.iconst 0, 1)), (8, (.bipush 8, 2)), (10, (.invokestatic 69, 3)), (13, (.ifCond .ne 5, 3)), (16, (.iconst (-1), 1)), (17, (.ireturn, 1))]
theorem dkX4_dead_b0 : ((drX4_dead_b0).all fun r => decide (decode cX4_dead r.1 = .ok r.2)) = true := by decide +kernel
theorem dX4_dead_0 : decode cX4_dead 0 = .ok (.iload_n 1, 1) := dc_at dkX4_dead_b0 0 rfl
theorem dX4_dead_1 : decode cX4_dead 1 = .ok (.bipush (-4), 2) := dc_at dkX4_dead_b0 1 rfl
theorem dX4_dead_3 : decode cX4_dead 3 = .ok (.if_icmp .eq 15, 3) := dc_at dkX4_dead_b0 2 rfl
theorem dX4_dead_6 : decode cX4_dead 6 = .ok (.iload_n 1, 1) := dc_at dkX4_dead_b0 3 rfl
theorem dX4_dead_7 : decode cX4_dead 7 = .ok (.iconst 0, 1) := dc_at dkX4_dead_b0 4 rfl
theorem dX4_dead_8 : decode cX4_dead 8 = .ok (.bipush 8, 2) := dc_at dkX4_dead_b0 5 rfl
theorem dX4_dead_10 : decode cX4_dead 10 = .ok (.invokestatic 69, 3) := dc_at dkX4_dead_b0 6 rfl
theorem dX4_dead_13 : decode cX4_dead 13 = .ok (.ifCond .ne 5, 3) := dc_at dkX4_dead_b0 7 rfl
theorem dX4_dead_16 : decode cX4_dead 16 = .ok (.iconst (-1), 1) := dc_at dkX4_dead_b0 8 rfl
theorem dX4_dead_17 : decode cX4_dead 17 = .ok (.ireturn, 1) := dc_at dkX4_dead_b0 9 rfl
def drX4_dead_b1 : List (Nat × (Instr × Nat)) := [(18, (.aload_n 0, 1)), (19, (.getfield 10, 3)), (22, (.getfield 132, 3)), (25, (.istore_n 2, 1)), (26, (.aload_n 0, 1)), (27, (.getfield 10, 3)), (30, (.iload_n 1, 1)), (31, (.putfield 132, 3)), (34, (.iload_n 2, 1)), (35, (.ireturn, 1))]
theorem dkX4_dead_b1 : ((drX4_dead_b1).all fun r => decide (decode cX4_dead r.1 = .ok r.2)) = true := by decide +kernel
theorem dX4_dead_18 : decode cX4_dead 18 = .ok (.aload_n 0, 1) := dc_at dkX4_dead_b1 0 rfl
theorem dX4_dead_19 : decode cX4_dead 19 = .ok (.getfield 10, 3) := dc_at dkX4_dead_b1 1 rfl
theorem dX4_dead_22 : decode cX4_dead 22 = .ok (.getfield 132, 3) := dc_at dkX4_dead_b1 2 rfl
theorem dX4_dead_25 : decode cX4_dead 25 = .ok (.istore_n 2, 1) := dc_at dkX4_dead_b1 3 rfl
theorem dX4_dead_26 : decode cX4_dead 26 = .ok (.aload_n 0, 1) := dc_at dkX4_dead_b1 4 rfl
theorem dX4_dead_27 : decode cX4_dead 27 = .ok (.getfield 10, 3) := dc_at dkX4_dead_b1 5 rfl
theorem dX4_dead_30 : decode cX4_dead 30 = .ok (.iload_n 1, 1) := dc_at dkX4_dead_b1 6 rfl
theorem dX4_dead_31 : decode cX4_dead 31 = .ok (.putfield 132, 3) := dc_at dkX4_dead_b1 7 rfl
theorem dX4_dead_34 : decode cX4_dead 34 = .ok (.iload_n 2, 1) := dc_at dkX4_dead_b1 8 rfl
theorem dX4_dead_35 : decode cX4_dead 35 = .ok (.ireturn, 1) := dc_at dkX4_dead_b1 9 rfl
def drX4_check_b0 : List (Nat × (Instr × Nat)) := [(0, (.aload_n 0, 1)), (1, (.getfield 10, 3)), (4, (.iload_n 1, 1)), (5, (.invokevirtual 149, 3)), (8, (.ifCond .eq 21, 3)), (11, (.aload_n 0, 1)), (12, (.getfield 10, 3)), (15, (.iload_n 1, 1)), (16, (.aload_n 0, 1)), (17, (.getfield 10, 3))]
theorem dkX4_check_b0 : ((drX4_check_b0).all fun r => decide (decode cX4_check r.1 = .ok r.2)) = true := by decide +kernel
theorem dX4_check_0 : decode cX4_check 0 = .ok (.aload_n 0, 1) := dc_at dkX4_check_b0 0 rfl
theorem dX4_check_1 : decode cX4_check 1 = .ok (.getfield 10, 3) := dc_at dkX4_check_b0 1 rfl
theorem dX4_check_4 : decode cX4_check 4 = .ok (.iload_n 1, 1) := dc_at dkX4_check_b0 2 rfl
theorem dX4_check_5 : decode cX4_check 5 = .ok (.invokevirtual 149, 3) := dc_at dkX4_check_b0 3 rfl
theorem dX4_check_8 : decode cX4_check 8 = .ok (.ifCond .eq 21, 3) := dc_at dkX4_check_b0 4 rfl
theorem dX4_check_11 : decode cX4_check 11 = .ok (.aload_n 0, 1) := dc_at dkX4_check_b0 5 rfl
theorem dX4_check_12 : decode cX4_check 12 = .ok (.getfield 10, 3) := dc_at dkX4_check_b0 6 rfl
theorem dX4_check_15 : decode cX4_check 15 = .ok (.iload_n 1, 1) := dc_at dkX4_check_b0 7 rfl
theorem dX4_check_16 : decode cX4_check 16 = .ok (.aload_n 0, 1) := dc_at dkX4_check_b0 8 rfl
theorem dX4_check_17 : decode cX4_check 17 = .ok (.getfield 10, 3) := dc_at dkX4_check_b0 9 rfl
def drX4_check_b1 : List (Nat × (Instr × Nat)) := [(20, (.getfield 132, 3)), (23, (.invokevirtual 186, 3)), (26, (.goto 4, 3)), (29, (.iconst (-1), 1)), (30, (.ireturn, 1))]
theorem dkX4_check_b1 : ((drX4_check_b1).all fun r => decide (decode cX4_check r.1 = .ok r.2)) = true := by decide +kernel
theorem dX4_check_20 : decode cX4_check 20 = .ok (.getfield 132, 3) := dc_at dkX4_check_b1 0 rfl
theorem dX4_check_23 : decode cX4_check 23 = .ok (.invokevirtual 186, 3) := dc_at dkX4_check_b1 1 rfl
theorem dX4_check_26 : decode cX4_check 26 = .ok (.goto 4, 3) := dc_at dkX4_check_b1 2 rfl
theorem dX4_check_29 : decode cX4_check 29 = .ok (.iconst (-1), 1) := dc_at dkX4_check_b1 3 rfl
theorem dX4_check_30 : decode cX4_check 30 = .ok (.ireturn, 1) := dc_at dkX4_check_b1 4 rfl
def drX4_got_b0 : List (Nat × (Instr × Nat)) := [(0, (.aload_n 0, 1)), (1, (.getfield 10, 3)), (4, (.iload_n 1, 1)), (5, (.invokevirtual 149, 3)), (8, (.ifCond .eq 21, 3)), (11, (.iload_n 2, 1)), (12, (.iconst 0, 1)), (13, (.aload_n 0, 1)), (14, (.getfield 10, 3)), (17, (.iload_n 1, 1))]
theorem dkX4_got_b0 : ((drX4_got_b0).all fun r => decide (decode cX4_got r.1 = .ok r.2)) = true := by decide +kernel
theorem dX4_got_0 : decode cX4_got 0 = .ok (.aload_n 0, 1) := dc_at dkX4_got_b0 0 rfl
theorem dX4_got_1 : decode cX4_got 1 = .ok (.getfield 10, 3) := dc_at dkX4_got_b0 1 rfl
theorem dX4_got_4 : decode cX4_got 4 = .ok (.iload_n 1, 1) := dc_at dkX4_got_b0 2 rfl
theorem dX4_got_5 : decode cX4_got 5 = .ok (.invokevirtual 149, 3) := dc_at dkX4_got_b0 3 rfl
theorem dX4_got_8 : decode cX4_got 8 = .ok (.ifCond .eq 21, 3) := dc_at dkX4_got_b0 4 rfl
theorem dX4_got_11 : decode cX4_got 11 = .ok (.iload_n 2, 1) := dc_at dkX4_got_b0 5 rfl
theorem dX4_got_12 : decode cX4_got 12 = .ok (.iconst 0, 1) := dc_at dkX4_got_b0 6 rfl
theorem dX4_got_13 : decode cX4_got 13 = .ok (.aload_n 0, 1) := dc_at dkX4_got_b0 7 rfl
theorem dX4_got_14 : decode cX4_got 14 = .ok (.getfield 10, 3) := dc_at dkX4_got_b0 8 rfl
theorem dX4_got_17 : decode cX4_got 17 = .ok (.iload_n 1, 1) := dc_at dkX4_got_b0 9 rfl
def drX4_got_b1 : List (Nat × (Instr × Nat)) := [(18, (.invokevirtual 158, 3)), (21, (.iconst 1, 1)), (22, (.isub, 1)), (23, (.invokestatic 69, 3)), (26, (.ifCond .ne 5, 3)), (29, (.iconst (-1), 1)), (30, (.ireturn, 1)), (31, (.aload_n 0, 1)), (32, (.getfield 10, 3)), (35, (.iload_n 1, 1))]
theorem dkX4_got_b1 : ((drX4_got_b1).all fun r => decide (decode cX4_got r.1 = .ok r.2)) = true := by decide +kernel
theorem dX4_got_18 : decode cX4_got 18 = .ok (.invokevirtual 158, 3) := dc_at dkX4_got_b1 0 rfl
theorem dX4_got_21 : decode cX4_got 21 = .ok (.iconst 1, 1) := dc_at dkX4_got_b1 1 rfl
theorem dX4_got_22 : decode cX4_got 22 = .ok (.isub, 1) := dc_at dkX4_got_b1 2 rfl
theorem dX4_got_23 : decode cX4_got 23 = .ok (.invokestatic 69, 3) := dc_at dkX4_got_b1 3 rfl
theorem dX4_got_26 : decode cX4_got 26 = .ok (.ifCond .ne 5, 3) := dc_at dkX4_got_b1 4 rfl
theorem dX4_got_29 : decode cX4_got 29 = .ok (.iconst (-1), 1) := dc_at dkX4_got_b1 5 rfl
theorem dX4_got_30 : decode cX4_got 30 = .ok (.ireturn, 1) := dc_at dkX4_got_b1 6 rfl
theorem dX4_got_31 : decode cX4_got 31 = .ok (.aload_n 0, 1) := dc_at dkX4_got_b1 7 rfl
theorem dX4_got_32 : decode cX4_got 32 = .ok (.getfield 10, 3) := dc_at dkX4_got_b1 8 rfl
theorem dX4_got_35 : decode cX4_got 35 = .ok (.iload_n 1, 1) := dc_at dkX4_got_b1 9 rfl
def drX4_got_b2 : List (Nat × (Instr × Nat)) := [(36, (.aload_n 0, 1)), (37, (.getfield 10, 3)), (40, (.getfield 132, 3)), (43, (.invokevirtual 186, 3)), (46, (.iconst 3, 1)), (47, (.if_icmp .ne 6, 3)), (50, (.bipush (-4), 2)), (52, (.ireturn, 1)), (53, (.aload_n 0, 1)), (54, (.getfield 10, 3))]
theorem dkX4_got_b2 : ((drX4_got_b2).all fun r => decide (decode cX4_got r.1 = .ok r.2)) = true := by decide +kernel
theorem dX4_got_36 : decode cX4_got 36 = .ok (.aload_n 0, 1) := dc_at dkX4_got_b2 0 rfl
theorem dX4_got_37 : decode cX4_got 37 = .ok (.getfield 10, 3) := dc_at dkX4_got_b2 1 rfl
theorem dX4_got_40 : decode cX4_got 40 = .ok (.getfield 132, 3) := dc_at dkX4_got_b2 2 rfl
theorem dX4_got_43 : decode cX4_got 43 = .ok (.invokevirtual 186, 3) := dc_at dkX4_got_b2 3 rfl
theorem dX4_got_46 : decode cX4_got 46 = .ok (.iconst 3, 1) := dc_at dkX4_got_b2 4 rfl
theorem dX4_got_47 : decode cX4_got 47 = .ok (.if_icmp .ne 6, 3) := dc_at dkX4_got_b2 5 rfl
theorem dX4_got_50 : decode cX4_got 50 = .ok (.bipush (-4), 2) := dc_at dkX4_got_b2 6 rfl
theorem dX4_got_52 : decode cX4_got 52 = .ok (.ireturn, 1) := dc_at dkX4_got_b2 7 rfl
theorem dX4_got_53 : decode cX4_got 53 = .ok (.aload_n 0, 1) := dc_at dkX4_got_b2 8 rfl
theorem dX4_got_54 : decode cX4_got 54 = .ok (.getfield 10, 3) := dc_at dkX4_got_b2 9 rfl
def drX4_got_b3 : List (Nat × (Instr × Nat)) := [(57, (.iload_n 1, 1)), (58, (.iload_n 2, 1)), (59, (.invokevirtual 189, 3)), (62, (.ireturn, 1))]
theorem dkX4_got_b3 : ((drX4_got_b3).all fun r => decide (decode cX4_got r.1 = .ok r.2)) = true := by decide +kernel
theorem dX4_got_57 : decode cX4_got 57 = .ok (.iload_n 1, 1) := dc_at dkX4_got_b3 0 rfl
theorem dX4_got_58 : decode cX4_got 58 = .ok (.iload_n 2, 1) := dc_at dkX4_got_b3 1 rfl
theorem dX4_got_59 : decode cX4_got 59 = .ok (.invokevirtual 189, 3) := dc_at dkX4_got_b3 2 rfl
theorem dX4_got_62 : decode cX4_got 62 = .ok (.ireturn, 1) := dc_at dkX4_got_b3 3 rfl
def drX4_column_b0 : List (Nat × (Instr × Nat)) := [(0, (.aload_n 0, 1)), (1, (.getfield 10, 3)), (4, (.iload_n 1, 1)), (5, (.iload_n 2, 1)), (6, (.invokevirtual 180, 3)), (9, (.ifCond .eq 15, 3)), (12, (.aload_n 0, 1)), (13, (.getfield 10, 3)), (16, (.iload_n 1, 1)), (17, (.iload_n 2, 1))]
theorem dkX4_column_b0 : ((drX4_column_b0).all fun r => decide (decode cX4_column r.1 = .ok r.2)) = true := by decide +kernel
theorem dX4_column_0 : decode cX4_column 0 = .ok (.aload_n 0, 1) := dc_at dkX4_column_b0 0 rfl
theorem dX4_column_1 : decode cX4_column 1 = .ok (.getfield 10, 3) := dc_at dkX4_column_b0 1 rfl
theorem dX4_column_4 : decode cX4_column 4 = .ok (.iload_n 1, 1) := dc_at dkX4_column_b0 2 rfl
theorem dX4_column_5 : decode cX4_column 5 = .ok (.iload_n 2, 1) := dc_at dkX4_column_b0 3 rfl
theorem dX4_column_6 : decode cX4_column 6 = .ok (.invokevirtual 180, 3) := dc_at dkX4_column_b0 4 rfl
theorem dX4_column_9 : decode cX4_column 9 = .ok (.ifCond .eq 15, 3) := dc_at dkX4_column_b0 5 rfl
theorem dX4_column_12 : decode cX4_column 12 = .ok (.aload_n 0, 1) := dc_at dkX4_column_b0 6 rfl
theorem dX4_column_13 : decode cX4_column 13 = .ok (.getfield 10, 3) := dc_at dkX4_column_b0 7 rfl
theorem dX4_column_16 : decode cX4_column 16 = .ok (.iload_n 1, 1) := dc_at dkX4_column_b0 8 rfl
theorem dX4_column_17 : decode cX4_column 17 = .ok (.iload_n 2, 1) := dc_at dkX4_column_b0 9 rfl
def drX4_column_b1 : List (Nat × (Instr × Nat)) := [(18, (.invokevirtual 164, 3)), (21, (.goto 4, 3)), (24, (.iconst (-1), 1)), (25, (.ireturn, 1))]
theorem dkX4_column_b1 : ((drX4_column_b1).all fun r => decide (decode cX4_column r.1 = .ok r.2)) = true := by decide +kernel
theorem dX4_column_18 : decode cX4_column 18 = .ok (.invokevirtual 164, 3) := dc_at dkX4_column_b1 0 rfl
theorem dX4_column_21 : decode cX4_column 21 = .ok (.goto 4, 3) := dc_at dkX4_column_b1 1 rfl
theorem dX4_column_24 : decode cX4_column 24 = .ok (.iconst (-1), 1) := dc_at dkX4_column_b1 2 rfl
theorem dX4_column_25 : decode cX4_column 25 = .ok (.ireturn, 1) := dc_at dkX4_column_b1 3 rfl
def drX4_state_b0 : List (Nat × (Instr × Nat)) := [(0, (.iload_n 1, 1)), (1, (.tableswitch 58 0 2 #[27, 42, 50], 27)), (28, (.aload_n 0, 1)), (29, (.getfield 10, 3)), (32, (.aload_n 0, 1)), (33, (.getfield 10, 3)), (36, (.getfield 132, 3)), (39, (.invokevirtual 192, 3)), (42, (.ireturn, 1)), (43, (.aload_n 0, 1))]
theorem dkX4_state_b0 : ((drX4_state_b0).all fun r => decide (decode cX4_state r.1 = .ok r.2)) = true := by decide +kernel
theorem dX4_state_0 : decode cX4_state 0 = .ok (.iload_n 1, 1) := dc_at dkX4_state_b0 0 rfl
theorem dX4_state_1 : decode cX4_state 1 = .ok (.tableswitch 58 0 2 #[27, 42, 50], 27) := dc_at dkX4_state_b0 1 rfl
theorem dX4_state_28 : decode cX4_state 28 = .ok (.aload_n 0, 1) := dc_at dkX4_state_b0 2 rfl
theorem dX4_state_29 : decode cX4_state 29 = .ok (.getfield 10, 3) := dc_at dkX4_state_b0 3 rfl
theorem dX4_state_32 : decode cX4_state 32 = .ok (.aload_n 0, 1) := dc_at dkX4_state_b0 4 rfl
theorem dX4_state_33 : decode cX4_state 33 = .ok (.getfield 10, 3) := dc_at dkX4_state_b0 5 rfl
theorem dX4_state_36 : decode cX4_state 36 = .ok (.getfield 132, 3) := dc_at dkX4_state_b0 6 rfl
theorem dX4_state_39 : decode cX4_state 39 = .ok (.invokevirtual 192, 3) := dc_at dkX4_state_b0 7 rfl
theorem dX4_state_42 : decode cX4_state 42 = .ok (.ireturn, 1) := dc_at dkX4_state_b0 8 rfl
theorem dX4_state_43 : decode cX4_state 43 = .ok (.aload_n 0, 1) := dc_at dkX4_state_b0 9 rfl
def drX4_state_b1 : List (Nat × (Instr × Nat)) := [(44, (.getfield 10, 3)), (47, (.invokevirtual 195, 3)), (50, (.ireturn, 1)), (51, (.aload_n 0, 1)), (52, (.getfield 10, 3)), (55, (.invokevirtual 198, 3)), (58, (.ireturn, 1)), (59, (.iconst (-1), 1)), (60, (.ireturn, 1))]
theorem dkX4_state_b1 : ((drX4_state_b1).all fun r => decide (decode cX4_state r.1 = .ok r.2)) = true := by decide +kernel
theorem dX4_state_44 : decode cX4_state 44 = .ok (.getfield 10, 3) := dc_at dkX4_state_b1 0 rfl
theorem dX4_state_47 : decode cX4_state 47 = .ok (.invokevirtual 195, 3) := dc_at dkX4_state_b1 1 rfl
theorem dX4_state_50 : decode cX4_state 50 = .ok (.ireturn, 1) := dc_at dkX4_state_b1 2 rfl
theorem dX4_state_51 : decode cX4_state 51 = .ok (.aload_n 0, 1) := dc_at dkX4_state_b1 3 rfl
theorem dX4_state_52 : decode cX4_state 52 = .ok (.getfield 10, 3) := dc_at dkX4_state_b1 4 rfl
theorem dX4_state_55 : decode cX4_state 55 = .ok (.invokevirtual 198, 3) := dc_at dkX4_state_b1 5 rfl
theorem dX4_state_58 : decode cX4_state 58 = .ok (.ireturn, 1) := dc_at dkX4_state_b1 6 rfl
theorem dX4_state_59 : decode cX4_state 59 = .ok (.iconst (-1), 1) := dc_at dkX4_state_b1 7 rfl
theorem dX4_state_60 : decode cX4_state 60 = .ok (.ireturn, 1) := dc_at dkX4_state_b1 8 rfl
def drX4_best_b0 : List (Nat × (Instr × Nat)) := [(0, (.iload_n 1, 1)), (1, (.iconst 0, 1)), (2, (.iconst 1, 1)), (3, (.invokestatic 69, 3)), (6, (.ifCond .ne 5, 3)), (9, (.iconst (-1), 1)), (10, (.ireturn, 1)), (11, (.iconst 0, 1)), (12, (.istore_n 2, 1)), (13, (.aload_n 0, 1))]
theorem dkX4_best_b0 : ((drX4_best_b0).all fun r => decide (decode cX4_best r.1 = .ok r.2)) = true := by decide +kernel
theorem dX4_best_0 : decode cX4_best 0 = .ok (.iload_n 1, 1) := dc_at dkX4_best_b0 0 rfl
theorem dX4_best_1 : decode cX4_best 1 = .ok (.iconst 0, 1) := dc_at dkX4_best_b0 1 rfl
theorem dX4_best_2 : decode cX4_best 2 = .ok (.iconst 1, 1) := dc_at dkX4_best_b0 2 rfl
theorem dX4_best_3 : decode cX4_best 3 = .ok (.invokestatic 69, 3) := dc_at dkX4_best_b0 3 rfl
theorem dX4_best_6 : decode cX4_best 6 = .ok (.ifCond .ne 5, 3) := dc_at dkX4_best_b0 4 rfl
theorem dX4_best_9 : decode cX4_best 9 = .ok (.iconst (-1), 1) := dc_at dkX4_best_b0 5 rfl
theorem dX4_best_10 : decode cX4_best 10 = .ok (.ireturn, 1) := dc_at dkX4_best_b0 6 rfl
theorem dX4_best_11 : decode cX4_best 11 = .ok (.iconst 0, 1) := dc_at dkX4_best_b0 7 rfl
theorem dX4_best_12 : decode cX4_best 12 = .ok (.istore_n 2, 1) := dc_at dkX4_best_b0 8 rfl
theorem dX4_best_13 : decode cX4_best 13 = .ok (.aload_n 0, 1) := dc_at dkX4_best_b0 9 rfl
def drX4_best_b1 : List (Nat × (Instr × Nat)) := [(14, (.getfield 10, 3)), (17, (.iconst 0, 1)), (18, (.invokevirtual 192, 3)), (21, (.invokestatic 201, 3)), (24, (.istore_n 3, 1)), (25, (.iconst 1, 1)), (26, (.istore 4, 2)), (28, (.iload 4, 2)), (30, (.bipush 9, 2)), (32, (.if_icmp .ge 35, 3))]
theorem dkX4_best_b1 : ((drX4_best_b1).all fun r => decide (decode cX4_best r.1 = .ok r.2)) = true := by decide +kernel
theorem dX4_best_14 : decode cX4_best 14 = .ok (.getfield 10, 3) := dc_at dkX4_best_b1 0 rfl
theorem dX4_best_17 : decode cX4_best 17 = .ok (.iconst 0, 1) := dc_at dkX4_best_b1 1 rfl
theorem dX4_best_18 : decode cX4_best 18 = .ok (.invokevirtual 192, 3) := dc_at dkX4_best_b1 2 rfl
theorem dX4_best_21 : decode cX4_best 21 = .ok (.invokestatic 201, 3) := dc_at dkX4_best_b1 3 rfl
theorem dX4_best_24 : decode cX4_best 24 = .ok (.istore_n 3, 1) := dc_at dkX4_best_b1 4 rfl
theorem dX4_best_25 : decode cX4_best 25 = .ok (.iconst 1, 1) := dc_at dkX4_best_b1 5 rfl
theorem dX4_best_26 : decode cX4_best 26 = .ok (.istore 4, 2) := dc_at dkX4_best_b1 6 rfl
theorem dX4_best_28 : decode cX4_best 28 = .ok (.iload 4, 2) := dc_at dkX4_best_b1 7 rfl
theorem dX4_best_30 : decode cX4_best 30 = .ok (.bipush 9, 2) := dc_at dkX4_best_b1 8 rfl
theorem dX4_best_32 : decode cX4_best 32 = .ok (.if_icmp .ge 35, 3) := dc_at dkX4_best_b1 9 rfl
def drX4_best_b2 : List (Nat × (Instr × Nat)) := [(35, (.aload_n 0, 1)), (36, (.getfield 10, 3)), (39, (.iload 4, 2)), (41, (.invokevirtual 192, 3)), (44, (.invokestatic 201, 3)), (47, (.istore 5, 2)), (49, (.iload 5, 2)), (51, (.iload_n 3, 1)), (52, (.if_icmp .ge 9, 3)), (55, (.iload 5, 2))]
theorem dkX4_best_b2 : ((drX4_best_b2).all fun r => decide (decode cX4_best r.1 = .ok r.2)) = true := by decide +kernel
theorem dX4_best_35 : decode cX4_best 35 = .ok (.aload_n 0, 1) := dc_at dkX4_best_b2 0 rfl
theorem dX4_best_36 : decode cX4_best 36 = .ok (.getfield 10, 3) := dc_at dkX4_best_b2 1 rfl
theorem dX4_best_39 : decode cX4_best 39 = .ok (.iload 4, 2) := dc_at dkX4_best_b2 2 rfl
theorem dX4_best_41 : decode cX4_best 41 = .ok (.invokevirtual 192, 3) := dc_at dkX4_best_b2 3 rfl
theorem dX4_best_44 : decode cX4_best 44 = .ok (.invokestatic 201, 3) := dc_at dkX4_best_b2 4 rfl
theorem dX4_best_47 : decode cX4_best 47 = .ok (.istore 5, 2) := dc_at dkX4_best_b2 5 rfl
theorem dX4_best_49 : decode cX4_best 49 = .ok (.iload 5, 2) := dc_at dkX4_best_b2 6 rfl
theorem dX4_best_51 : decode cX4_best 51 = .ok (.iload_n 3, 1) := dc_at dkX4_best_b2 7 rfl
theorem dX4_best_52 : decode cX4_best 52 = .ok (.if_icmp .ge 9, 3) := dc_at dkX4_best_b2 8 rfl
theorem dX4_best_55 : decode cX4_best 55 = .ok (.iload 5, 2) := dc_at dkX4_best_b2 9 rfl
def drX4_best_b3 : List (Nat × (Instr × Nat)) := [(57, (.istore_n 3, 1)), (58, (.iload 4, 2)), (60, (.istore_n 2, 1)), (61, (.iinc 4 1, 3)), (64, (.goto (-36), 3)), (67, (.iload_n 1, 1)), (68, (.ifCond .ne 7, 3)), (71, (.iload_n 2, 1)), (72, (.goto 4, 3)), (75, (.iload_n 3, 1))]
theorem dkX4_best_b3 : ((drX4_best_b3).all fun r => decide (decode cX4_best r.1 = .ok r.2)) = true := by decide +kernel
theorem dX4_best_57 : decode cX4_best 57 = .ok (.istore_n 3, 1) := dc_at dkX4_best_b3 0 rfl
theorem dX4_best_58 : decode cX4_best 58 = .ok (.iload 4, 2) := dc_at dkX4_best_b3 1 rfl
theorem dX4_best_60 : decode cX4_best 60 = .ok (.istore_n 2, 1) := dc_at dkX4_best_b3 2 rfl
theorem dX4_best_61 : decode cX4_best 61 = .ok (.iinc 4 1, 3) := dc_at dkX4_best_b3 3 rfl
theorem dX4_best_64 : decode cX4_best 64 = .ok (.goto (-36), 3) := dc_at dkX4_best_b3 4 rfl
theorem dX4_best_67 : decode cX4_best 67 = .ok (.iload_n 1, 1) := dc_at dkX4_best_b3 5 rfl
theorem dX4_best_68 : decode cX4_best 68 = .ok (.ifCond .ne 7, 3) := dc_at dkX4_best_b3 6 rfl
theorem dX4_best_71 : decode cX4_best 71 = .ok (.iload_n 2, 1) := dc_at dkX4_best_b3 7 rfl
theorem dX4_best_72 : decode cX4_best 72 = .ok (.goto 4, 3) := dc_at dkX4_best_b3 8 rfl
theorem dX4_best_75 : decode cX4_best 75 = .ok (.iload_n 3, 1) := dc_at dkX4_best_b3 9 rfl
def drX4_best_b4 : List (Nat × (Instr × Nat)) := [(76, (.ireturn, 1))]
theorem dkX4_best_b4 : ((drX4_best_b4).all fun r => decide (decode cX4_best r.1 = .ok r.2)) = true := by decide +kernel
theorem dX4_best_76 : decode cX4_best 76 = .ok (.ireturn, 1) := dc_at dkX4_best_b4 0 rfl
def drX4_order_b0 : List (Nat × (Instr × Nat)) := [(0, (.aload_n 0, 1)), (1, (.getfield 10, 3)), (4, (.iload_n 1, 1)), (5, (.invokevirtual 206, 3)), (8, (.ifCond .ne 5, 3)), (11, (.iconst (-1), 1)), (12, (.ireturn, 1)), (13, (.iload_n 2, 1)), (14, (.bipush 10, 2)), (16, (.isub, 1))]
theorem dkX4_order_b0 : ((drX4_order_b0).all fun r => decide (decode cX4_order r.1 = .ok r.2)) = true := by decide +kernel
theorem dX4_order_0 : decode cX4_order 0 = .ok (.aload_n 0, 1) := dc_at dkX4_order_b0 0 rfl
theorem dX4_order_1 : decode cX4_order 1 = .ok (.getfield 10, 3) := dc_at dkX4_order_b0 1 rfl
theorem dX4_order_4 : decode cX4_order 4 = .ok (.iload_n 1, 1) := dc_at dkX4_order_b0 2 rfl
theorem dX4_order_5 : decode cX4_order 5 = .ok (.invokevirtual 206, 3) := dc_at dkX4_order_b0 3 rfl
theorem dX4_order_8 : decode cX4_order 8 = .ok (.ifCond .ne 5, 3) := dc_at dkX4_order_b0 4 rfl
theorem dX4_order_11 : decode cX4_order 11 = .ok (.iconst (-1), 1) := dc_at dkX4_order_b0 5 rfl
theorem dX4_order_12 : decode cX4_order 12 = .ok (.ireturn, 1) := dc_at dkX4_order_b0 6 rfl
theorem dX4_order_13 : decode cX4_order 13 = .ok (.iload_n 2, 1) := dc_at dkX4_order_b0 7 rfl
theorem dX4_order_14 : decode cX4_order 14 = .ok (.bipush 10, 2) := dc_at dkX4_order_b0 8 rfl
theorem dX4_order_16 : decode cX4_order 16 = .ok (.isub, 1) := dc_at dkX4_order_b0 9 rfl
def drX4_order_b1 : List (Nat × (Instr × Nat)) := [(17, (.istore_n 3, 1)), (18, (.iload_n 2, 1)), (19, (.ifCond .ne 7, 3)), (22, (.iconst 1, 1)), (23, (.goto 4, 3)), (26, (.iconst 0, 1)), (27, (.istore 4, 2)), (29, (.iload 4, 2)), (31, (.ifCond .ne 23, 3)), (34, (.iload_n 3, 1))]
theorem dkX4_order_b1 : ((drX4_order_b1).all fun r => decide (decode cX4_order r.1 = .ok r.2)) = true := by decide +kernel
theorem dX4_order_17 : decode cX4_order 17 = .ok (.istore_n 3, 1) := dc_at dkX4_order_b1 0 rfl
theorem dX4_order_18 : decode cX4_order 18 = .ok (.iload_n 2, 1) := dc_at dkX4_order_b1 1 rfl
theorem dX4_order_19 : decode cX4_order 19 = .ok (.ifCond .ne 7, 3) := dc_at dkX4_order_b1 2 rfl
theorem dX4_order_22 : decode cX4_order 22 = .ok (.iconst 1, 1) := dc_at dkX4_order_b1 3 rfl
theorem dX4_order_23 : decode cX4_order 23 = .ok (.goto 4, 3) := dc_at dkX4_order_b1 4 rfl
theorem dX4_order_26 : decode cX4_order 26 = .ok (.iconst 0, 1) := dc_at dkX4_order_b1 5 rfl
theorem dX4_order_27 : decode cX4_order 27 = .ok (.istore 4, 2) := dc_at dkX4_order_b1 6 rfl
theorem dX4_order_29 : decode cX4_order 29 = .ok (.iload 4, 2) := dc_at dkX4_order_b1 7 rfl
theorem dX4_order_31 : decode cX4_order 31 = .ok (.ifCond .ne 23, 3) := dc_at dkX4_order_b1 8 rfl
theorem dX4_order_34 : decode cX4_order 34 = .ok (.iload_n 3, 1) := dc_at dkX4_order_b1 9 rfl
def drX4_order_b2 : List (Nat × (Instr × Nat)) := [(35, (.iconst 0, 1)), (36, (.bipush 7, 2)), (38, (.invokestatic 69, 3)), (41, (.ifCond .eq 11, 3)), (44, (.iload_n 3, 1)), (45, (.iload_n 1, 1)), (46, (.invokestatic 201, 3)), (49, (.if_icmp .lt 5, 3)), (52, (.iconst (-1), 1)), (53, (.ireturn, 1))]
theorem dkX4_order_b2 : ((drX4_order_b2).all fun r => decide (decode cX4_order r.1 = .ok r.2)) = true := by decide +kernel
theorem dX4_order_35 : decode cX4_order 35 = .ok (.iconst 0, 1) := dc_at dkX4_order_b2 0 rfl
theorem dX4_order_36 : decode cX4_order 36 = .ok (.bipush 7, 2) := dc_at dkX4_order_b2 1 rfl
theorem dX4_order_38 : decode cX4_order 38 = .ok (.invokestatic 69, 3) := dc_at dkX4_order_b2 2 rfl
theorem dX4_order_41 : decode cX4_order 41 = .ok (.ifCond .eq 11, 3) := dc_at dkX4_order_b2 3 rfl
theorem dX4_order_44 : decode cX4_order 44 = .ok (.iload_n 3, 1) := dc_at dkX4_order_b2 4 rfl
theorem dX4_order_45 : decode cX4_order 45 = .ok (.iload_n 1, 1) := dc_at dkX4_order_b2 5 rfl
theorem dX4_order_46 : decode cX4_order 46 = .ok (.invokestatic 201, 3) := dc_at dkX4_order_b2 6 rfl
theorem dX4_order_49 : decode cX4_order 49 = .ok (.if_icmp .lt 5, 3) := dc_at dkX4_order_b2 7 rfl
theorem dX4_order_52 : decode cX4_order 52 = .ok (.iconst (-1), 1) := dc_at dkX4_order_b2 8 rfl
theorem dX4_order_53 : decode cX4_order 53 = .ok (.ireturn, 1) := dc_at dkX4_order_b2 9 rfl
def drX4_order_b3 : List (Nat × (Instr × Nat)) := [(54, (.iload_n 1, 1)), (55, (.invokestatic 201, 3)), (58, (.bipush 8, 2)), (60, (.if_icmp .le 6, 3)), (63, (.bipush (-2), 2)), (65, (.ireturn, 1)), (66, (.aload_n 0, 1)), (67, (.getfield 26, 3)), (70, (.aload_n 0, 1)), (71, (.getfield 10, 3))]
theorem dkX4_order_b3 : ((drX4_order_b3).all fun r => decide (decode cX4_order r.1 = .ok r.2)) = true := by decide +kernel
theorem dX4_order_54 : decode cX4_order 54 = .ok (.iload_n 1, 1) := dc_at dkX4_order_b3 0 rfl
theorem dX4_order_55 : decode cX4_order 55 = .ok (.invokestatic 201, 3) := dc_at dkX4_order_b3 1 rfl
theorem dX4_order_58 : decode cX4_order 58 = .ok (.bipush 8, 2) := dc_at dkX4_order_b3 2 rfl
theorem dX4_order_60 : decode cX4_order 60 = .ok (.if_icmp .le 6, 3) := dc_at dkX4_order_b3 3 rfl
theorem dX4_order_63 : decode cX4_order 63 = .ok (.bipush (-2), 2) := dc_at dkX4_order_b3 4 rfl
theorem dX4_order_65 : decode cX4_order 65 = .ok (.ireturn, 1) := dc_at dkX4_order_b3 5 rfl
theorem dX4_order_66 : decode cX4_order 66 = .ok (.aload_n 0, 1) := dc_at dkX4_order_b3 6 rfl
theorem dX4_order_67 : decode cX4_order 67 = .ok (.getfield 26, 3) := dc_at dkX4_order_b3 7 rfl
theorem dX4_order_70 : decode cX4_order 70 = .ok (.aload_n 0, 1) := dc_at dkX4_order_b3 8 rfl
theorem dX4_order_71 : decode cX4_order 71 = .ok (.getfield 10, 3) := dc_at dkX4_order_b3 9 rfl
def drX4_order_b4 : List (Nat × (Instr × Nat)) := [(74, (.iload_n 1, 1)), (75, (.invokevirtual 209, 3)), (78, (.iload 4, 2)), (80, (.ifCond .eq 13, 3)), (83, (.aload_n 0, 1)), (84, (.getfield 26, 3)), (87, (.getfield 213, 3)), (90, (.goto 11, 3)), (93, (.aload_n 0, 1)), (94, (.getfield 26, 3))]
theorem dkX4_order_b4 : ((drX4_order_b4).all fun r => decide (decode cX4_order r.1 = .ok r.2)) = true := by decide +kernel
theorem dX4_order_74 : decode cX4_order 74 = .ok (.iload_n 1, 1) := dc_at dkX4_order_b4 0 rfl
theorem dX4_order_75 : decode cX4_order 75 = .ok (.invokevirtual 209, 3) := dc_at dkX4_order_b4 1 rfl
theorem dX4_order_78 : decode cX4_order 78 = .ok (.iload 4, 2) := dc_at dkX4_order_b4 2 rfl
theorem dX4_order_80 : decode cX4_order 80 = .ok (.ifCond .eq 13, 3) := dc_at dkX4_order_b4 3 rfl
theorem dX4_order_83 : decode cX4_order 83 = .ok (.aload_n 0, 1) := dc_at dkX4_order_b4 4 rfl
theorem dX4_order_84 : decode cX4_order 84 = .ok (.getfield 26, 3) := dc_at dkX4_order_b4 5 rfl
theorem dX4_order_87 : decode cX4_order 87 = .ok (.getfield 213, 3) := dc_at dkX4_order_b4 6 rfl
theorem dX4_order_90 : decode cX4_order 90 = .ok (.goto 11, 3) := dc_at dkX4_order_b4 7 rfl
theorem dX4_order_93 : decode cX4_order 93 = .ok (.aload_n 0, 1) := dc_at dkX4_order_b4 8 rfl
theorem dX4_order_94 : decode cX4_order 94 = .ok (.getfield 26, 3) := dc_at dkX4_order_b4 9 rfl
def drX4_order_b5 : List (Nat × (Instr × Nat)) := [(97, (.iload_n 3, 1)), (98, (.invokevirtual 216, 3)), (101, (.ireturn, 1))]
theorem dkX4_order_b5 : ((drX4_order_b5).all fun r => decide (decode cX4_order r.1 = .ok r.2)) = true := by decide +kernel
theorem dX4_order_97 : decode cX4_order 97 = .ok (.iload_n 3, 1) := dc_at dkX4_order_b5 0 rfl
theorem dX4_order_98 : decode cX4_order 98 = .ok (.invokevirtual 216, 3) := dc_at dkX4_order_b5 1 rfl
theorem dX4_order_101 : decode cX4_order 101 = .ok (.ireturn, 1) := dc_at dkX4_order_b5 2 rfl
def drX4_reads_b0 : List (Nat × (Instr × Nat)) := [(0, (.aload_n 0, 1)), (1, (.getfield 10, 3)), (4, (.iload_n 1, 1)), (5, (.invokevirtual 206, 3)), (8, (.ifCond .ne 5, 3)), (11, (.iconst (-1), 1)), (12, (.ireturn, 1)), (13, (.iload_n 1, 1)), (14, (.invokestatic 201, 3)), (17, (.bipush 8, 2))]
theorem dkX4_reads_b0 : ((drX4_reads_b0).all fun r => decide (decode cX4_reads r.1 = .ok r.2)) = true := by decide +kernel
theorem dX4_reads_0 : decode cX4_reads 0 = .ok (.aload_n 0, 1) := dc_at dkX4_reads_b0 0 rfl
theorem dX4_reads_1 : decode cX4_reads 1 = .ok (.getfield 10, 3) := dc_at dkX4_reads_b0 1 rfl
theorem dX4_reads_4 : decode cX4_reads 4 = .ok (.iload_n 1, 1) := dc_at dkX4_reads_b0 2 rfl
theorem dX4_reads_5 : decode cX4_reads 5 = .ok (.invokevirtual 206, 3) := dc_at dkX4_reads_b0 3 rfl
theorem dX4_reads_8 : decode cX4_reads 8 = .ok (.ifCond .ne 5, 3) := dc_at dkX4_reads_b0 4 rfl
theorem dX4_reads_11 : decode cX4_reads 11 = .ok (.iconst (-1), 1) := dc_at dkX4_reads_b0 5 rfl
theorem dX4_reads_12 : decode cX4_reads 12 = .ok (.ireturn, 1) := dc_at dkX4_reads_b0 6 rfl
theorem dX4_reads_13 : decode cX4_reads 13 = .ok (.iload_n 1, 1) := dc_at dkX4_reads_b0 7 rfl
theorem dX4_reads_14 : decode cX4_reads 14 = .ok (.invokestatic 201, 3) := dc_at dkX4_reads_b0 8 rfl
theorem dX4_reads_17 : decode cX4_reads 17 = .ok (.bipush 8, 2) := dc_at dkX4_reads_b0 9 rfl
def drX4_reads_b1 : List (Nat × (Instr × Nat)) := [(19, (.if_icmp .le 6, 3)), (22, (.bipush (-2), 2)), (24, (.ireturn, 1)), (25, (.iload_n 1, 1)), (26, (.ifCond .ne 5, 3)), (29, (.iconst 0, 1)), (30, (.ireturn, 1)), (31, (.aload_n 0, 1)), (32, (.getfield 26, 3)), (35, (.aload_n 0, 1))]
theorem dkX4_reads_b1 : ((drX4_reads_b1).all fun r => decide (decode cX4_reads r.1 = .ok r.2)) = true := by decide +kernel
theorem dX4_reads_19 : decode cX4_reads 19 = .ok (.if_icmp .le 6, 3) := dc_at dkX4_reads_b1 0 rfl
theorem dX4_reads_22 : decode cX4_reads 22 = .ok (.bipush (-2), 2) := dc_at dkX4_reads_b1 1 rfl
theorem dX4_reads_24 : decode cX4_reads 24 = .ok (.ireturn, 1) := dc_at dkX4_reads_b1 2 rfl
theorem dX4_reads_25 : decode cX4_reads 25 = .ok (.iload_n 1, 1) := dc_at dkX4_reads_b1 3 rfl
theorem dX4_reads_26 : decode cX4_reads 26 = .ok (.ifCond .ne 5, 3) := dc_at dkX4_reads_b1 4 rfl
theorem dX4_reads_29 : decode cX4_reads 29 = .ok (.iconst 0, 1) := dc_at dkX4_reads_b1 5 rfl
theorem dX4_reads_30 : decode cX4_reads 30 = .ok (.ireturn, 1) := dc_at dkX4_reads_b1 6 rfl
theorem dX4_reads_31 : decode cX4_reads 31 = .ok (.aload_n 0, 1) := dc_at dkX4_reads_b1 7 rfl
theorem dX4_reads_32 : decode cX4_reads 32 = .ok (.getfield 26, 3) := dc_at dkX4_reads_b1 8 rfl
theorem dX4_reads_35 : decode cX4_reads 35 = .ok (.aload_n 0, 1) := dc_at dkX4_reads_b1 9 rfl
def drX4_reads_b2 : List (Nat × (Instr × Nat)) := [(36, (.getfield 10, 3)), (39, (.iload_n 1, 1)), (40, (.invokevirtual 209, 3)), (43, (.aload_n 0, 1)), (44, (.getfield 10, 3)), (47, (.dup, 1)), (48, (.getfield 129, 3)), (51, (.aload_n 0, 1)), (52, (.getfield 26, 3)), (55, (.getfield 213, 3))]
theorem dkX4_reads_b2 : ((drX4_reads_b2).all fun r => decide (decode cX4_reads r.1 = .ok r.2)) = true := by decide +kernel
theorem dX4_reads_36 : decode cX4_reads 36 = .ok (.getfield 10, 3) := dc_at dkX4_reads_b2 0 rfl
theorem dX4_reads_39 : decode cX4_reads 39 = .ok (.iload_n 1, 1) := dc_at dkX4_reads_b2 1 rfl
theorem dX4_reads_40 : decode cX4_reads 40 = .ok (.invokevirtual 209, 3) := dc_at dkX4_reads_b2 2 rfl
theorem dX4_reads_43 : decode cX4_reads 43 = .ok (.aload_n 0, 1) := dc_at dkX4_reads_b2 3 rfl
theorem dX4_reads_44 : decode cX4_reads 44 = .ok (.getfield 10, 3) := dc_at dkX4_reads_b2 4 rfl
theorem dX4_reads_47 : decode cX4_reads 47 = .ok (.dup, 1) := dc_at dkX4_reads_b2 5 rfl
theorem dX4_reads_48 : decode cX4_reads 48 = .ok (.getfield 129, 3) := dc_at dkX4_reads_b2 6 rfl
theorem dX4_reads_51 : decode cX4_reads 51 = .ok (.aload_n 0, 1) := dc_at dkX4_reads_b2 7 rfl
theorem dX4_reads_52 : decode cX4_reads 52 = .ok (.getfield 26, 3) := dc_at dkX4_reads_b2 8 rfl
theorem dX4_reads_55 : decode cX4_reads 55 = .ok (.getfield 213, 3) := dc_at dkX4_reads_b2 9 rfl
def drX4_reads_b3 : List (Nat × (Instr × Nat)) := [(58, (.iadd, 1)), (59, (.putfield 129, 3)), (62, (.aload_n 0, 1)), (63, (.getfield 10, 3)), (66, (.aload_n 0, 1)), (67, (.getfield 10, 3)), (70, (.aload_n 0, 1)), (71, (.getfield 26, 3)), (74, (.aload_n 0, 1)), (75, (.getfield 26, 3))]
theorem dkX4_reads_b3 : ((drX4_reads_b3).all fun r => decide (decode cX4_reads r.1 = .ok r.2)) = true := by decide +kernel
theorem dX4_reads_58 : decode cX4_reads 58 = .ok (.iadd, 1) := dc_at dkX4_reads_b3 0 rfl
theorem dX4_reads_59 : decode cX4_reads 59 = .ok (.putfield 129, 3) := dc_at dkX4_reads_b3 1 rfl
theorem dX4_reads_62 : decode cX4_reads 62 = .ok (.aload_n 0, 1) := dc_at dkX4_reads_b3 2 rfl
theorem dX4_reads_63 : decode cX4_reads 63 = .ok (.getfield 10, 3) := dc_at dkX4_reads_b3 3 rfl
theorem dX4_reads_66 : decode cX4_reads 66 = .ok (.aload_n 0, 1) := dc_at dkX4_reads_b3 4 rfl
theorem dX4_reads_67 : decode cX4_reads 67 = .ok (.getfield 10, 3) := dc_at dkX4_reads_b3 5 rfl
theorem dX4_reads_70 : decode cX4_reads 70 = .ok (.aload_n 0, 1) := dc_at dkX4_reads_b3 6 rfl
theorem dX4_reads_71 : decode cX4_reads 71 = .ok (.getfield 26, 3) := dc_at dkX4_reads_b3 7 rfl
theorem dX4_reads_74 : decode cX4_reads 74 = .ok (.aload_n 0, 1) := dc_at dkX4_reads_b3 8 rfl
theorem dX4_reads_75 : decode cX4_reads 75 = .ok (.getfield 26, 3) := dc_at dkX4_reads_b3 9 rfl
def drX4_reads_b4 : List (Nat × (Instr × Nat)) := [(78, (.getfield 219, 3)), (81, (.iconst 1, 1)), (82, (.isub, 1)), (83, (.invokevirtual 216, 3)), (86, (.invokevirtual 141, 3)), (89, (.putfield 126, 3)), (92, (.aload_n 0, 1)), (93, (.getfield 26, 3)), (96, (.getfield 213, 3)), (99, (.ireturn, 1))]
theorem dkX4_reads_b4 : ((drX4_reads_b4).all fun r => decide (decode cX4_reads r.1 = .ok r.2)) = true := by decide +kernel
theorem dX4_reads_78 : decode cX4_reads 78 = .ok (.getfield 219, 3) := dc_at dkX4_reads_b4 0 rfl
theorem dX4_reads_81 : decode cX4_reads 81 = .ok (.iconst 1, 1) := dc_at dkX4_reads_b4 1 rfl
theorem dX4_reads_82 : decode cX4_reads 82 = .ok (.isub, 1) := dc_at dkX4_reads_b4 2 rfl
theorem dX4_reads_83 : decode cX4_reads 83 = .ok (.invokevirtual 216, 3) := dc_at dkX4_reads_b4 3 rfl
theorem dX4_reads_86 : decode cX4_reads 86 = .ok (.invokevirtual 141, 3) := dc_at dkX4_reads_b4 4 rfl
theorem dX4_reads_89 : decode cX4_reads 89 = .ok (.putfield 126, 3) := dc_at dkX4_reads_b4 5 rfl
theorem dX4_reads_92 : decode cX4_reads 92 = .ok (.aload_n 0, 1) := dc_at dkX4_reads_b4 6 rfl
theorem dX4_reads_93 : decode cX4_reads 93 = .ok (.getfield 26, 3) := dc_at dkX4_reads_b4 7 rfl
theorem dX4_reads_96 : decode cX4_reads 96 = .ok (.getfield 213, 3) := dc_at dkX4_reads_b4 8 rfl
theorem dX4_reads_99 : decode cX4_reads 99 = .ok (.ireturn, 1) := dc_at dkX4_reads_b4 9 rfl
def drX4_cut_b0 : List (Nat × (Instr × Nat)) := [(0, (.aload_n 0, 1)), (1, (.getfield 10, 3)), (4, (.iload_n 1, 1)), (5, (.invokevirtual 94, 3)), (8, (.ifCond .eq 19, 3)), (11, (.aload_n 0, 1)), (12, (.getfield 10, 3)), (15, (.iload_n 2, 1)), (16, (.invokevirtual 94, 3)), (19, (.ifCond .eq 8, 3))]
theorem dkX4_cut_b0 : ((drX4_cut_b0).all fun r => decide (decode cX4_cut r.1 = .ok r.2)) = true := by decide +kernel
theorem dX4_cut_0 : decode cX4_cut 0 = .ok (.aload_n 0, 1) := dc_at dkX4_cut_b0 0 rfl
theorem dX4_cut_1 : decode cX4_cut 1 = .ok (.getfield 10, 3) := dc_at dkX4_cut_b0 1 rfl
theorem dX4_cut_4 : decode cX4_cut 4 = .ok (.iload_n 1, 1) := dc_at dkX4_cut_b0 2 rfl
theorem dX4_cut_5 : decode cX4_cut 5 = .ok (.invokevirtual 94, 3) := dc_at dkX4_cut_b0 3 rfl
theorem dX4_cut_8 : decode cX4_cut 8 = .ok (.ifCond .eq 19, 3) := dc_at dkX4_cut_b0 4 rfl
theorem dX4_cut_11 : decode cX4_cut 11 = .ok (.aload_n 0, 1) := dc_at dkX4_cut_b0 5 rfl
theorem dX4_cut_12 : decode cX4_cut 12 = .ok (.getfield 10, 3) := dc_at dkX4_cut_b0 6 rfl
theorem dX4_cut_15 : decode cX4_cut 15 = .ok (.iload_n 2, 1) := dc_at dkX4_cut_b0 7 rfl
theorem dX4_cut_16 : decode cX4_cut 16 = .ok (.invokevirtual 94, 3) := dc_at dkX4_cut_b0 8 rfl
theorem dX4_cut_19 : decode cX4_cut 19 = .ok (.ifCond .eq 8, 3) := dc_at dkX4_cut_b0 9 rfl
def drX4_cut_b1 : List (Nat × (Instr × Nat)) := [(22, (.iload_n 2, 1)), (23, (.iload_n 1, 1)), (24, (.if_icmp .gt 5, 3)), (27, (.iconst (-1), 1)), (28, (.ireturn, 1)), (29, (.aload_n 0, 1)), (30, (.getfield 10, 3)), (33, (.iconst 0, 1)), (34, (.invokevirtual 90, 3)), (37, (.iload_n 2, 1))]
theorem dkX4_cut_b1 : ((drX4_cut_b1).all fun r => decide (decode cX4_cut r.1 = .ok r.2)) = true := by decide +kernel
theorem dX4_cut_22 : decode cX4_cut 22 = .ok (.iload_n 2, 1) := dc_at dkX4_cut_b1 0 rfl
theorem dX4_cut_23 : decode cX4_cut 23 = .ok (.iload_n 1, 1) := dc_at dkX4_cut_b1 1 rfl
theorem dX4_cut_24 : decode cX4_cut 24 = .ok (.if_icmp .gt 5, 3) := dc_at dkX4_cut_b1 2 rfl
theorem dX4_cut_27 : decode cX4_cut 27 = .ok (.iconst (-1), 1) := dc_at dkX4_cut_b1 3 rfl
theorem dX4_cut_28 : decode cX4_cut 28 = .ok (.ireturn, 1) := dc_at dkX4_cut_b1 4 rfl
theorem dX4_cut_29 : decode cX4_cut 29 = .ok (.aload_n 0, 1) := dc_at dkX4_cut_b1 5 rfl
theorem dX4_cut_30 : decode cX4_cut 30 = .ok (.getfield 10, 3) := dc_at dkX4_cut_b1 6 rfl
theorem dX4_cut_33 : decode cX4_cut 33 = .ok (.iconst 0, 1) := dc_at dkX4_cut_b1 7 rfl
theorem dX4_cut_34 : decode cX4_cut 34 = .ok (.invokevirtual 90, 3) := dc_at dkX4_cut_b1 8 rfl
theorem dX4_cut_37 : decode cX4_cut 37 = .ok (.iload_n 2, 1) := dc_at dkX4_cut_b1 9 rfl
def drX4_cut_b2 : List (Nat × (Instr × Nat)) := [(38, (.iload_n 1, 1)), (39, (.isub, 1)), (40, (.isub, 1)), (41, (.bipush 20, 2)), (43, (.if_icmp .ge 6, 3)), (46, (.bipush (-2), 2)), (48, (.ireturn, 1)), (49, (.aload_n 0, 1)), (50, (.getfield 10, 3)), (53, (.iload_n 1, 1))]
theorem dkX4_cut_b2 : ((drX4_cut_b2).all fun r => decide (decode cX4_cut r.1 = .ok r.2)) = true := by decide +kernel
theorem dX4_cut_38 : decode cX4_cut 38 = .ok (.iload_n 1, 1) := dc_at dkX4_cut_b2 0 rfl
theorem dX4_cut_39 : decode cX4_cut 39 = .ok (.isub, 1) := dc_at dkX4_cut_b2 1 rfl
theorem dX4_cut_40 : decode cX4_cut 40 = .ok (.isub, 1) := dc_at dkX4_cut_b2 2 rfl
theorem dX4_cut_41 : decode cX4_cut 41 = .ok (.bipush 20, 2) := dc_at dkX4_cut_b2 3 rfl
theorem dX4_cut_43 : decode cX4_cut 43 = .ok (.if_icmp .ge 6, 3) := dc_at dkX4_cut_b2 4 rfl
theorem dX4_cut_46 : decode cX4_cut 46 = .ok (.bipush (-2), 2) := dc_at dkX4_cut_b2 5 rfl
theorem dX4_cut_48 : decode cX4_cut 48 = .ok (.ireturn, 1) := dc_at dkX4_cut_b2 6 rfl
theorem dX4_cut_49 : decode cX4_cut 49 = .ok (.aload_n 0, 1) := dc_at dkX4_cut_b2 7 rfl
theorem dX4_cut_50 : decode cX4_cut 50 = .ok (.getfield 10, 3) := dc_at dkX4_cut_b2 8 rfl
theorem dX4_cut_53 : decode cX4_cut 53 = .ok (.iload_n 1, 1) := dc_at dkX4_cut_b2 9 rfl
def drX4_cut_b3 : List (Nat × (Instr × Nat)) := [(54, (.iload_n 2, 1)), (55, (.invokevirtual 222, 3)), (58, (.ireturn, 1))]
theorem dkX4_cut_b3 : ((drX4_cut_b3).all fun r => decide (decode cX4_cut r.1 = .ok r.2)) = true := by decide +kernel
theorem dX4_cut_54 : decode cX4_cut 54 = .ok (.iload_n 2, 1) := dc_at dkX4_cut_b3 0 rfl
theorem dX4_cut_55 : decode cX4_cut 55 = .ok (.invokevirtual 222, 3) := dc_at dkX4_cut_b3 1 rfl
theorem dX4_cut_58 : decode cX4_cut 58 = .ok (.ireturn, 1) := dc_at dkX4_cut_b3 2 rfl
def drX4_holds_b0 : List (Nat × (Instr × Nat)) := [(0, (.iload_n 1, 1)), (1, (.iconst 1, 1)), (2, (.bipush 99, 2)), (4, (.invokestatic 69, 3)), (7, (.ifCond .eq 14, 3)), (10, (.aload_n 0, 1)), (11, (.getfield 10, 3)), (14, (.iload_n 1, 1)), (15, (.invokevirtual 225, 3)), (18, (.goto 4, 3))]
theorem dkX4_holds_b0 : ((drX4_holds_b0).all fun r => decide (decode cX4_holds r.1 = .ok r.2)) = true := by decide +kernel
theorem dX4_holds_0 : decode cX4_holds 0 = .ok (.iload_n 1, 1) := dc_at dkX4_holds_b0 0 rfl
theorem dX4_holds_1 : decode cX4_holds 1 = .ok (.iconst 1, 1) := dc_at dkX4_holds_b0 1 rfl
theorem dX4_holds_2 : decode cX4_holds 2 = .ok (.bipush 99, 2) := dc_at dkX4_holds_b0 2 rfl
theorem dX4_holds_4 : decode cX4_holds 4 = .ok (.invokestatic 69, 3) := dc_at dkX4_holds_b0 3 rfl
theorem dX4_holds_7 : decode cX4_holds 7 = .ok (.ifCond .eq 14, 3) := dc_at dkX4_holds_b0 4 rfl
theorem dX4_holds_10 : decode cX4_holds 10 = .ok (.aload_n 0, 1) := dc_at dkX4_holds_b0 5 rfl
theorem dX4_holds_11 : decode cX4_holds 11 = .ok (.getfield 10, 3) := dc_at dkX4_holds_b0 6 rfl
theorem dX4_holds_14 : decode cX4_holds 14 = .ok (.iload_n 1, 1) := dc_at dkX4_holds_b0 7 rfl
theorem dX4_holds_15 : decode cX4_holds 15 = .ok (.invokevirtual 225, 3) := dc_at dkX4_holds_b0 8 rfl
theorem dX4_holds_18 : decode cX4_holds 18 = .ok (.goto 4, 3) := dc_at dkX4_holds_b0 9 rfl
def drX4_holds_b1 : List (Nat × (Instr × Nat)) := [(21, (.iconst (-1), 1)), (22, (.ireturn, 1))]
theorem dkX4_holds_b1 : ((drX4_holds_b1).all fun r => decide (decode cX4_holds r.1 = .ok r.2)) = true := by decide +kernel
theorem dX4_holds_21 : decode cX4_holds 21 = .ok (.iconst (-1), 1) := dc_at dkX4_holds_b1 0 rfl
theorem dX4_holds_22 : decode cX4_holds 22 = .ok (.ireturn, 1) := dc_at dkX4_holds_b1 1 rfl
def drX4_most_b0 : List (Nat × (Instr × Nat)) := [(0, (.iload_n 1, 1)), (1, (.iconst 0, 1)), (2, (.iconst 1, 1)), (3, (.invokestatic 69, 3)), (6, (.ifCond .ne 5, 3)), (9, (.iconst (-1), 1)), (10, (.ireturn, 1)), (11, (.iconst 1, 1)), (12, (.istore_n 2, 1)), (13, (.aload_n 0, 1))]
theorem dkX4_most_b0 : ((drX4_most_b0).all fun r => decide (decode cX4_most r.1 = .ok r.2)) = true := by decide +kernel
theorem dX4_most_0 : decode cX4_most 0 = .ok (.iload_n 1, 1) := dc_at dkX4_most_b0 0 rfl
theorem dX4_most_1 : decode cX4_most 1 = .ok (.iconst 0, 1) := dc_at dkX4_most_b0 1 rfl
theorem dX4_most_2 : decode cX4_most 2 = .ok (.iconst 1, 1) := dc_at dkX4_most_b0 2 rfl
theorem dX4_most_3 : decode cX4_most 3 = .ok (.invokestatic 69, 3) := dc_at dkX4_most_b0 3 rfl
theorem dX4_most_6 : decode cX4_most 6 = .ok (.ifCond .ne 5, 3) := dc_at dkX4_most_b0 4 rfl
theorem dX4_most_9 : decode cX4_most 9 = .ok (.iconst (-1), 1) := dc_at dkX4_most_b0 5 rfl
theorem dX4_most_10 : decode cX4_most 10 = .ok (.ireturn, 1) := dc_at dkX4_most_b0 6 rfl
theorem dX4_most_11 : decode cX4_most 11 = .ok (.iconst 1, 1) := dc_at dkX4_most_b0 7 rfl
theorem dX4_most_12 : decode cX4_most 12 = .ok (.istore_n 2, 1) := dc_at dkX4_most_b0 8 rfl
theorem dX4_most_13 : decode cX4_most 13 = .ok (.aload_n 0, 1) := dc_at dkX4_most_b0 9 rfl
def drX4_most_b1 : List (Nat × (Instr × Nat)) := [(14, (.getfield 10, 3)), (17, (.iconst 1, 1)), (18, (.invokevirtual 225, 3)), (21, (.istore_n 3, 1)), (22, (.iconst 2, 1)), (23, (.istore 4, 2)), (25, (.iload 4, 2)), (27, (.bipush 99, 2)), (29, (.if_icmp .gt 35, 3)), (32, (.iload 4, 2))]
theorem dkX4_most_b1 : ((drX4_most_b1).all fun r => decide (decode cX4_most r.1 = .ok r.2)) = true := by decide +kernel
theorem dX4_most_14 : decode cX4_most 14 = .ok (.getfield 10, 3) := dc_at dkX4_most_b1 0 rfl
theorem dX4_most_17 : decode cX4_most 17 = .ok (.iconst 1, 1) := dc_at dkX4_most_b1 1 rfl
theorem dX4_most_18 : decode cX4_most 18 = .ok (.invokevirtual 225, 3) := dc_at dkX4_most_b1 2 rfl
theorem dX4_most_21 : decode cX4_most 21 = .ok (.istore_n 3, 1) := dc_at dkX4_most_b1 3 rfl
theorem dX4_most_22 : decode cX4_most 22 = .ok (.iconst 2, 1) := dc_at dkX4_most_b1 4 rfl
theorem dX4_most_23 : decode cX4_most 23 = .ok (.istore 4, 2) := dc_at dkX4_most_b1 5 rfl
theorem dX4_most_25 : decode cX4_most 25 = .ok (.iload 4, 2) := dc_at dkX4_most_b1 6 rfl
theorem dX4_most_27 : decode cX4_most 27 = .ok (.bipush 99, 2) := dc_at dkX4_most_b1 7 rfl
theorem dX4_most_29 : decode cX4_most 29 = .ok (.if_icmp .gt 35, 3) := dc_at dkX4_most_b1 8 rfl
theorem dX4_most_32 : decode cX4_most 32 = .ok (.iload 4, 2) := dc_at dkX4_most_b1 9 rfl
def drX4_most_b2 : List (Nat × (Instr × Nat)) := [(34, (.aload_n 0, 1)), (35, (.getfield 10, 3)), (38, (.iload 4, 2)), (40, (.invokevirtual 225, 3)), (43, (.imul, 1)), (44, (.istore 5, 2)), (46, (.iload 5, 2)), (48, (.iload_n 3, 1)), (49, (.if_icmp .le 9, 3)), (52, (.iload 5, 2))]
theorem dkX4_most_b2 : ((drX4_most_b2).all fun r => decide (decode cX4_most r.1 = .ok r.2)) = true := by decide +kernel
theorem dX4_most_34 : decode cX4_most 34 = .ok (.aload_n 0, 1) := dc_at dkX4_most_b2 0 rfl
theorem dX4_most_35 : decode cX4_most 35 = .ok (.getfield 10, 3) := dc_at dkX4_most_b2 1 rfl
theorem dX4_most_38 : decode cX4_most 38 = .ok (.iload 4, 2) := dc_at dkX4_most_b2 2 rfl
theorem dX4_most_40 : decode cX4_most 40 = .ok (.invokevirtual 225, 3) := dc_at dkX4_most_b2 3 rfl
theorem dX4_most_43 : decode cX4_most 43 = .ok (.imul, 1) := dc_at dkX4_most_b2 4 rfl
theorem dX4_most_44 : decode cX4_most 44 = .ok (.istore 5, 2) := dc_at dkX4_most_b2 5 rfl
theorem dX4_most_46 : decode cX4_most 46 = .ok (.iload 5, 2) := dc_at dkX4_most_b2 6 rfl
theorem dX4_most_48 : decode cX4_most 48 = .ok (.iload_n 3, 1) := dc_at dkX4_most_b2 7 rfl
theorem dX4_most_49 : decode cX4_most 49 = .ok (.if_icmp .le 9, 3) := dc_at dkX4_most_b2 8 rfl
theorem dX4_most_52 : decode cX4_most 52 = .ok (.iload 5, 2) := dc_at dkX4_most_b2 9 rfl
def drX4_most_b3 : List (Nat × (Instr × Nat)) := [(54, (.istore_n 3, 1)), (55, (.iload 4, 2)), (57, (.istore_n 2, 1)), (58, (.iinc 4 1, 3)), (61, (.goto (-36), 3)), (64, (.iload_n 1, 1)), (65, (.ifCond .ne 7, 3)), (68, (.iload_n 2, 1)), (69, (.goto 4, 3)), (72, (.iload_n 3, 1))]
theorem dkX4_most_b3 : ((drX4_most_b3).all fun r => decide (decode cX4_most r.1 = .ok r.2)) = true := by decide +kernel
theorem dX4_most_54 : decode cX4_most 54 = .ok (.istore_n 3, 1) := dc_at dkX4_most_b3 0 rfl
theorem dX4_most_55 : decode cX4_most 55 = .ok (.iload 4, 2) := dc_at dkX4_most_b3 1 rfl
theorem dX4_most_57 : decode cX4_most 57 = .ok (.istore_n 2, 1) := dc_at dkX4_most_b3 2 rfl
theorem dX4_most_58 : decode cX4_most 58 = .ok (.iinc 4 1, 3) := dc_at dkX4_most_b3 3 rfl
theorem dX4_most_61 : decode cX4_most 61 = .ok (.goto (-36), 3) := dc_at dkX4_most_b3 4 rfl
theorem dX4_most_64 : decode cX4_most 64 = .ok (.iload_n 1, 1) := dc_at dkX4_most_b3 5 rfl
theorem dX4_most_65 : decode cX4_most 65 = .ok (.ifCond .ne 7, 3) := dc_at dkX4_most_b3 6 rfl
theorem dX4_most_68 : decode cX4_most 68 = .ok (.iload_n 2, 1) := dc_at dkX4_most_b3 7 rfl
theorem dX4_most_69 : decode cX4_most 69 = .ok (.goto 4, 3) := dc_at dkX4_most_b3 8 rfl
theorem dX4_most_72 : decode cX4_most 72 = .ok (.iload_n 3, 1) := dc_at dkX4_most_b3 9 rfl
def drX4_most_b4 : List (Nat × (Instr × Nat)) := [(73, (.ireturn, 1))]
theorem dkX4_most_b4 : ((drX4_most_b4).all fun r => decide (decode cX4_most r.1 = .ok r.2)) = true := by decide +kernel
theorem dX4_most_73 : decode cX4_most 73 = .ok (.ireturn, 1) := dc_at dkX4_most_b4 0 rfl
