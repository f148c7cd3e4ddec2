def drX5_follows_b0 : List (Nat × (Instr × Nat)) := [(0, (.bipush (-4), 2)), (2, (.istore_n 3, 1)), (3, (.aload_n 0, 1)), (4, (.getfield 225, 3)), (7, (.iconst 1, 1)), (8, (.isub, 1)), (9, (.istore 4, 2)), (11, (.iload 4, 2)), (13, (.ifCond .lt 76, 3)), (16, (.iload_n 1, 1))]
theorem dkX5_follows_b0 : ((drX5_follows_b0).all fun r => decide (decode cX5_follows r.1 = .ok r.2)) = true := by decide +kernel
theorem dX5_follows_0 : decode cX5_follows 0 = .ok (.bipush (-4), 2) := dc_at dkX5_follows_b0 0 rfl
theorem dX5_follows_2 : decode cX5_follows 2 = .ok (.istore_n 3, 1) := dc_at dkX5_follows_b0 1 rfl
theorem dX5_follows_3 : decode cX5_follows 3 = .ok (.aload_n 0, 1) := dc_at dkX5_follows_b0 2 rfl
theorem dX5_follows_4 : decode cX5_follows 4 = .ok (.getfield 225, 3) := dc_at dkX5_follows_b0 3 rfl
theorem dX5_follows_7 : decode cX5_follows 7 = .ok (.iconst 1, 1) := dc_at dkX5_follows_b0 4 rfl
theorem dX5_follows_8 : decode cX5_follows 8 = .ok (.isub, 1) := dc_at dkX5_follows_b0 5 rfl
theorem dX5_follows_9 : decode cX5_follows 9 = .ok (.istore 4, 2) := dc_at dkX5_follows_b0 6 rfl
theorem dX5_follows_11 : decode cX5_follows 11 = .ok (.iload 4, 2) := dc_at dkX5_follows_b0 7 rfl
theorem dX5_follows_13 : decode cX5_follows 13 = .ok (.ifCond .lt 76, 3) := dc_at dkX5_follows_b0 8 rfl
theorem dX5_follows_16 : decode cX5_follows 16 = .ok (.iload_n 1, 1) := dc_at dkX5_follows_b0 9 rfl
def drX5_follows_b1 : List (Nat × (Instr × Nat)) := [(17, (.iload 4, 2)), (19, (.ishr, 1)), (20, (.iconst 1, 1)), (21, (.iand, 1)), (22, (.ifCond .ne 46, 3)), (25, (.aload_n 0, 1)), (26, (.iload_n 2, 1)), (27, (.iload 4, 2)), (29, (.invokevirtual 229, 3)), (32, (.aload_n 0, 1))]
theorem dkX5_follows_b1 : ((drX5_follows_b1).all fun r => decide (decode cX5_follows r.1 = .ok r.2)) = true := by decide +kernel
theorem dX5_follows_17 : decode cX5_follows 17 = .ok (.iload 4, 2) := dc_at dkX5_follows_b1 0 rfl
theorem dX5_follows_19 : decode cX5_follows 19 = .ok (.ishr, 1) := dc_at dkX5_follows_b1 1 rfl
theorem dX5_follows_20 : decode cX5_follows 20 = .ok (.iconst 1, 1) := dc_at dkX5_follows_b1 2 rfl
theorem dX5_follows_21 : decode cX5_follows 21 = .ok (.iand, 1) := dc_at dkX5_follows_b1 3 rfl
theorem dX5_follows_22 : decode cX5_follows 22 = .ok (.ifCond .ne 46, 3) := dc_at dkX5_follows_b1 4 rfl
theorem dX5_follows_25 : decode cX5_follows 25 = .ok (.aload_n 0, 1) := dc_at dkX5_follows_b1 5 rfl
theorem dX5_follows_26 : decode cX5_follows 26 = .ok (.iload_n 2, 1) := dc_at dkX5_follows_b1 6 rfl
theorem dX5_follows_27 : decode cX5_follows 27 = .ok (.iload 4, 2) := dc_at dkX5_follows_b1 7 rfl
theorem dX5_follows_29 : decode cX5_follows 29 = .ok (.invokevirtual 229, 3) := dc_at dkX5_follows_b1 8 rfl
theorem dX5_follows_32 : decode cX5_follows 32 = .ok (.aload_n 0, 1) := dc_at dkX5_follows_b1 9 rfl
def drX5_follows_b2 : List (Nat × (Instr × Nat)) := [(33, (.getfield 38, 3)), (36, (.bipush 13, 2)), (38, (.iload_n 1, 1)), (39, (.iconst 1, 1)), (40, (.iload 4, 2)), (42, (.ishl, 1)), (43, (.ior, 1)), (44, (.imul, 1)), (45, (.iload 4, 2)), (47, (.iadd, 1))]
theorem dkX5_follows_b2 : ((drX5_follows_b2).all fun r => decide (decode cX5_follows r.1 = .ok r.2)) = true := by decide +kernel
theorem dX5_follows_33 : decode cX5_follows 33 = .ok (.getfield 38, 3) := dc_at dkX5_follows_b2 0 rfl
theorem dX5_follows_36 : decode cX5_follows 36 = .ok (.bipush 13, 2) := dc_at dkX5_follows_b2 1 rfl
theorem dX5_follows_38 : decode cX5_follows 38 = .ok (.iload_n 1, 1) := dc_at dkX5_follows_b2 2 rfl
theorem dX5_follows_39 : decode cX5_follows 39 = .ok (.iconst 1, 1) := dc_at dkX5_follows_b2 3 rfl
theorem dX5_follows_40 : decode cX5_follows 40 = .ok (.iload 4, 2) := dc_at dkX5_follows_b2 4 rfl
theorem dX5_follows_42 : decode cX5_follows 42 = .ok (.ishl, 1) := dc_at dkX5_follows_b2 5 rfl
theorem dX5_follows_43 : decode cX5_follows 43 = .ok (.ior, 1) := dc_at dkX5_follows_b2 6 rfl
theorem dX5_follows_44 : decode cX5_follows 44 = .ok (.imul, 1) := dc_at dkX5_follows_b2 7 rfl
theorem dX5_follows_45 : decode cX5_follows 45 = .ok (.iload 4, 2) := dc_at dkX5_follows_b2 8 rfl
theorem dX5_follows_47 : decode cX5_follows 47 = .ok (.iadd, 1) := dc_at dkX5_follows_b2 9 rfl
def drX5_follows_b3 : List (Nat × (Instr × Nat)) := [(48, (.iaload, 1)), (49, (.iadd, 1)), (50, (.aload_n 0, 1)), (51, (.getfield 38, 3)), (54, (.bipush 13, 2)), (56, (.iload_n 1, 1)), (57, (.imul, 1)), (58, (.iload_n 2, 1)), (59, (.iadd, 1)), (60, (.iaload, 1))]
theorem dkX5_follows_b3 : ((drX5_follows_b3).all fun r => decide (decode cX5_follows r.1 = .ok r.2)) = true := by decide +kernel
theorem dX5_follows_48 : decode cX5_follows 48 = .ok (.iaload, 1) := dc_at dkX5_follows_b3 0 rfl
theorem dX5_follows_49 : decode cX5_follows 49 = .ok (.iadd, 1) := dc_at dkX5_follows_b3 1 rfl
theorem dX5_follows_50 : decode cX5_follows 50 = .ok (.aload_n 0, 1) := dc_at dkX5_follows_b3 2 rfl
theorem dX5_follows_51 : decode cX5_follows 51 = .ok (.getfield 38, 3) := dc_at dkX5_follows_b3 3 rfl
theorem dX5_follows_54 : decode cX5_follows 54 = .ok (.bipush 13, 2) := dc_at dkX5_follows_b3 4 rfl
theorem dX5_follows_56 : decode cX5_follows 56 = .ok (.iload_n 1, 1) := dc_at dkX5_follows_b3 5 rfl
theorem dX5_follows_57 : decode cX5_follows 57 = .ok (.imul, 1) := dc_at dkX5_follows_b3 6 rfl
theorem dX5_follows_58 : decode cX5_follows 58 = .ok (.iload_n 2, 1) := dc_at dkX5_follows_b3 7 rfl
theorem dX5_follows_59 : decode cX5_follows 59 = .ok (.iadd, 1) := dc_at dkX5_follows_b3 8 rfl
theorem dX5_follows_60 : decode cX5_follows 60 = .ok (.iaload, 1) := dc_at dkX5_follows_b3 9 rfl
def drX5_follows_b4 : List (Nat × (Instr × Nat)) := [(61, (.if_icmp .ne 7, 3)), (64, (.iconst 1, 1)), (65, (.goto 4, 3)), (68, (.iconst 0, 1)), (69, (.istore 5, 2)), (71, (.iload 5, 2)), (73, (.ifCond .eq 8, 3)), (76, (.iload 4, 2)), (78, (.goto 4, 3)), (81, (.iload_n 3, 1))]
theorem dkX5_follows_b4 : ((drX5_follows_b4).all fun r => decide (decode cX5_follows r.1 = .ok r.2)) = true := by decide +kernel
theorem dX5_follows_61 : decode cX5_follows 61 = .ok (.if_icmp .ne 7, 3) := dc_at dkX5_follows_b4 0 rfl
theorem dX5_follows_64 : decode cX5_follows 64 = .ok (.iconst 1, 1) := dc_at dkX5_follows_b4 1 rfl
theorem dX5_follows_65 : decode cX5_follows 65 = .ok (.goto 4, 3) := dc_at dkX5_follows_b4 2 rfl
theorem dX5_follows_68 : decode cX5_follows 68 = .ok (.iconst 0, 1) := dc_at dkX5_follows_b4 3 rfl
theorem dX5_follows_69 : decode cX5_follows 69 = .ok (.istore 5, 2) := dc_at dkX5_follows_b4 4 rfl
theorem dX5_follows_71 : decode cX5_follows 71 = .ok (.iload 5, 2) := dc_at dkX5_follows_b4 5 rfl
theorem dX5_follows_73 : decode cX5_follows 73 = .ok (.ifCond .eq 8, 3) := dc_at dkX5_follows_b4 6 rfl
theorem dX5_follows_76 : decode cX5_follows 76 = .ok (.iload 4, 2) := dc_at dkX5_follows_b4 7 rfl
theorem dX5_follows_78 : decode cX5_follows 78 = .ok (.goto 4, 3) := dc_at dkX5_follows_b4 8 rfl
theorem dX5_follows_81 : decode cX5_follows 81 = .ok (.iload_n 3, 1) := dc_at dkX5_follows_b4 9 rfl
def drX5_follows_b5 : List (Nat × (Instr × Nat)) := [(82, (.istore_n 3, 1)), (83, (.iinc 4 (-1), 3)), (86, (.goto (-75), 3)), (89, (.iload_n 3, 1)), (90, (.ireturn, 1))]
theorem dkX5_follows_b5 : ((drX5_follows_b5).all fun r => decide (decode cX5_follows r.1 = .ok r.2)) = true := by decide +kernel
theorem dX5_follows_82 : decode cX5_follows 82 = .ok (.istore_n 3, 1) := dc_at dkX5_follows_b5 0 rfl
theorem dX5_follows_83 : decode cX5_follows 83 = .ok (.iinc 4 (-1), 3) := dc_at dkX5_follows_b5 1 rfl
theorem dX5_follows_86 : decode cX5_follows 86 = .ok (.goto (-75), 3) := dc_at dkX5_follows_b5 2 rfl
theorem dX5_follows_89 : decode cX5_follows 89 = .ok (.iload_n 3, 1) := dc_at dkX5_follows_b5 3 rfl
theorem dX5_follows_90 : decode cX5_follows 90 = .ok (.ireturn, 1) := dc_at dkX5_follows_b5 4 rfl
def drX5_nthOf_b0 : List (Nat × (Instr × Nat)) := [(0, (.iconst 0, 1)), (1, (.istore_n 2, 1)), (2, (.bipush 8, 2)), (4, (.istore_n 3, 1)), (5, (.iconst 0, 1)), (6, (.istore 4, 2)), (8, (.iload 4, 2)), (10, (.iload_n 1, 1)), (11, (.if_icmp .gt 22, 3)), (14, (.aload_n 0, 1))]
theorem dkX5_nthOf_b0 : ((drX5_nthOf_b0).all fun r => decide (decode cX5_nthOf r.1 = .ok r.2)) = true := by decide +kernel
theorem dX5_nthOf_0 : decode cX5_nthOf 0 = .ok (.iconst 0, 1) := dc_at dkX5_nthOf_b0 0 rfl
theorem dX5_nthOf_1 : decode cX5_nthOf 1 = .ok (.istore_n 2, 1) := dc_at dkX5_nthOf_b0 1 rfl
theorem dX5_nthOf_2 : decode cX5_nthOf 2 = .ok (.bipush 8, 2) := dc_at dkX5_nthOf_b0 2 rfl
theorem dX5_nthOf_4 : decode cX5_nthOf 4 = .ok (.istore_n 3, 1) := dc_at dkX5_nthOf_b0 3 rfl
theorem dX5_nthOf_5 : decode cX5_nthOf 5 = .ok (.iconst 0, 1) := dc_at dkX5_nthOf_b0 4 rfl
theorem dX5_nthOf_6 : decode cX5_nthOf 6 = .ok (.istore 4, 2) := dc_at dkX5_nthOf_b0 5 rfl
theorem dX5_nthOf_8 : decode cX5_nthOf 8 = .ok (.iload 4, 2) := dc_at dkX5_nthOf_b0 6 rfl
theorem dX5_nthOf_10 : decode cX5_nthOf 10 = .ok (.iload_n 1, 1) := dc_at dkX5_nthOf_b0 7 rfl
theorem dX5_nthOf_11 : decode cX5_nthOf 11 = .ok (.if_icmp .gt 22, 3) := dc_at dkX5_nthOf_b0 8 rfl
theorem dX5_nthOf_14 : decode cX5_nthOf 14 = .ok (.aload_n 0, 1) := dc_at dkX5_nthOf_b0 9 rfl
def drX5_nthOf_b1 : List (Nat × (Instr × Nat)) := [(15, (.iload_n 2, 1)), (16, (.iload_n 3, 1)), (17, (.invokevirtual 232, 3)), (20, (.istore_n 3, 1)), (21, (.iload_n 2, 1)), (22, (.iconst 1, 1)), (23, (.iload_n 3, 1)), (24, (.ishl, 1)), (25, (.ior, 1)), (26, (.istore_n 2, 1))]
theorem dkX5_nthOf_b1 : ((drX5_nthOf_b1).all fun r => decide (decode cX5_nthOf r.1 = .ok r.2)) = true := by decide +kernel
theorem dX5_nthOf_15 : decode cX5_nthOf 15 = .ok (.iload_n 2, 1) := dc_at dkX5_nthOf_b1 0 rfl
theorem dX5_nthOf_16 : decode cX5_nthOf 16 = .ok (.iload_n 3, 1) := dc_at dkX5_nthOf_b1 1 rfl
theorem dX5_nthOf_17 : decode cX5_nthOf 17 = .ok (.invokevirtual 232, 3) := dc_at dkX5_nthOf_b1 2 rfl
theorem dX5_nthOf_20 : decode cX5_nthOf 20 = .ok (.istore_n 3, 1) := dc_at dkX5_nthOf_b1 3 rfl
theorem dX5_nthOf_21 : decode cX5_nthOf 21 = .ok (.iload_n 2, 1) := dc_at dkX5_nthOf_b1 4 rfl
theorem dX5_nthOf_22 : decode cX5_nthOf 22 = .ok (.iconst 1, 1) := dc_at dkX5_nthOf_b1 5 rfl
theorem dX5_nthOf_23 : decode cX5_nthOf 23 = .ok (.iload_n 3, 1) := dc_at dkX5_nthOf_b1 6 rfl
theorem dX5_nthOf_24 : decode cX5_nthOf 24 = .ok (.ishl, 1) := dc_at dkX5_nthOf_b1 7 rfl
theorem dX5_nthOf_25 : decode cX5_nthOf 25 = .ok (.ior, 1) := dc_at dkX5_nthOf_b1 8 rfl
theorem dX5_nthOf_26 : decode cX5_nthOf 26 = .ok (.istore_n 2, 1) := dc_at dkX5_nthOf_b1 9 rfl
def drX5_nthOf_b2 : List (Nat × (Instr × Nat)) := [(27, (.iinc 4 1, 3)), (30, (.goto (-22), 3)), (33, (.aload_n 0, 1)), (34, (.getfield 41, 3)), (37, (.iload_n 3, 1)), (38, (.iaload, 1)), (39, (.ireturn, 1))]
theorem dkX5_nthOf_b2 : ((drX5_nthOf_b2).all fun r => decide (decode cX5_nthOf r.1 = .ok r.2)) = true := by decide +kernel
theorem dX5_nthOf_27 : decode cX5_nthOf 27 = .ok (.iinc 4 1, 3) := dc_at dkX5_nthOf_b2 0 rfl
theorem dX5_nthOf_30 : decode cX5_nthOf 30 = .ok (.goto (-22), 3) := dc_at dkX5_nthOf_b2 1 rfl
theorem dX5_nthOf_33 : decode cX5_nthOf 33 = .ok (.aload_n 0, 1) := dc_at dkX5_nthOf_b2 2 rfl
theorem dX5_nthOf_34 : decode cX5_nthOf 34 = .ok (.getfield 41, 3) := dc_at dkX5_nthOf_b2 3 rfl
theorem dX5_nthOf_37 : decode cX5_nthOf 37 = .ok (.iload_n 3, 1) := dc_at dkX5_nthOf_b2 4 rfl
theorem dX5_nthOf_38 : decode cX5_nthOf 38 = .ok (.iaload, 1) := dc_at dkX5_nthOf_b2 5 rfl
theorem dX5_nthOf_39 : decode cX5_nthOf 39 = .ok (.ireturn, 1) := dc_at dkX5_nthOf_b2 6 rfl
def drX5_order_b0 : List (Nat × (Instr × Nat)) := [(0, (.aload_n 0, 1)), (1, (.iload_n 1, 1)), (2, (.invokevirtual 235, 3)), (5, (.ifCond .eq 21, 3)), (8, (.iload_n 2, 1)), (9, (.ifCond .eq 19, 3)), (12, (.iload_n 2, 1)), (13, (.i2l, 1)), (14, (.ldc2_w 238, 3)), (17, (.ldc2_w 240, 3))]
theorem dkX5_order_b0 : ((drX5_order_b0).all fun r => decide (decode cX5_order r.1 = .ok r.2)) = true := by decide +kernel
theorem dX5_order_0 : decode cX5_order 0 = .ok (.aload_n 0, 1) := dc_at dkX5_order_b0 0 rfl
theorem dX5_order_1 : decode cX5_order 1 = .ok (.iload_n 1, 1) := dc_at dkX5_order_b0 1 rfl
theorem dX5_order_2 : decode cX5_order 2 = .ok (.invokevirtual 235, 3) := dc_at dkX5_order_b0 2 rfl
theorem dX5_order_5 : decode cX5_order 5 = .ok (.ifCond .eq 21, 3) := dc_at dkX5_order_b0 3 rfl
theorem dX5_order_8 : decode cX5_order 8 = .ok (.iload_n 2, 1) := dc_at dkX5_order_b0 4 rfl
theorem dX5_order_9 : decode cX5_order 9 = .ok (.ifCond .eq 19, 3) := dc_at dkX5_order_b0 5 rfl
theorem dX5_order_12 : decode cX5_order 12 = .ok (.iload_n 2, 1) := dc_at dkX5_order_b0 6 rfl
theorem dX5_order_13 : decode cX5_order 13 = .ok (.i2l, 1) := dc_at dkX5_order_b0 7 rfl
theorem dX5_order_14 : decode cX5_order 14 = .ok (.ldc2_w 238, 3) := dc_at dkX5_order_b0 8 rfl
theorem dX5_order_17 : decode cX5_order 17 = .ok (.ldc2_w 240, 3) := dc_at dkX5_order_b0 9 rfl
def drX5_order_b1 : List (Nat × (Instr × Nat)) := [(20, (.invokestatic 75, 3)), (23, (.ifCond .ne 5, 3)), (26, (.iconst (-1), 1)), (27, (.ireturn, 1)), (28, (.iload_n 1, 1)), (29, (.invokestatic 242, 3)), (32, (.bipush 8, 2)), (34, (.if_icmp .le 6, 3)), (37, (.bipush (-2), 2)), (39, (.ireturn, 1))]
theorem dkX5_order_b1 : ((drX5_order_b1).all fun r => decide (decode cX5_order r.1 = .ok r.2)) = true := by decide +kernel
theorem dX5_order_20 : decode cX5_order 20 = .ok (.invokestatic 75, 3) := dc_at dkX5_order_b1 0 rfl
theorem dX5_order_23 : decode cX5_order 23 = .ok (.ifCond .ne 5, 3) := dc_at dkX5_order_b1 1 rfl
theorem dX5_order_26 : decode cX5_order 26 = .ok (.iconst (-1), 1) := dc_at dkX5_order_b1 2 rfl
theorem dX5_order_27 : decode cX5_order 27 = .ok (.ireturn, 1) := dc_at dkX5_order_b1 3 rfl
theorem dX5_order_28 : decode cX5_order 28 = .ok (.iload_n 1, 1) := dc_at dkX5_order_b1 4 rfl
theorem dX5_order_29 : decode cX5_order 29 = .ok (.invokestatic 242, 3) := dc_at dkX5_order_b1 5 rfl
theorem dX5_order_32 : decode cX5_order 32 = .ok (.bipush 8, 2) := dc_at dkX5_order_b1 6 rfl
theorem dX5_order_34 : decode cX5_order 34 = .ok (.if_icmp .le 6, 3) := dc_at dkX5_order_b1 7 rfl
theorem dX5_order_37 : decode cX5_order 37 = .ok (.bipush (-2), 2) := dc_at dkX5_order_b1 8 rfl
theorem dX5_order_39 : decode cX5_order 39 = .ok (.ireturn, 1) := dc_at dkX5_order_b1 9 rfl
def drX5_order_b2 : List (Nat × (Instr × Nat)) := [(40, (.aload_n 0, 1)), (41, (.iload_n 1, 1)), (42, (.invokevirtual 245, 3)), (45, (.iload_n 2, 1)), (46, (.ifCond .ne 13, 3)), (49, (.aload_n 0, 1)), (50, (.getfield 38, 3)), (53, (.bipush 8, 2)), (55, (.iaload, 1)), (56, (.goto 26, 3))]
theorem dkX5_order_b2 : ((drX5_order_b2).all fun r => decide (decode cX5_order r.1 = .ok r.2)) = true := by decide +kernel
theorem dX5_order_40 : decode cX5_order 40 = .ok (.aload_n 0, 1) := dc_at dkX5_order_b2 0 rfl
theorem dX5_order_41 : decode cX5_order 41 = .ok (.iload_n 1, 1) := dc_at dkX5_order_b2 1 rfl
theorem dX5_order_42 : decode cX5_order 42 = .ok (.invokevirtual 245, 3) := dc_at dkX5_order_b2 2 rfl
theorem dX5_order_45 : decode cX5_order 45 = .ok (.iload_n 2, 1) := dc_at dkX5_order_b2 3 rfl
theorem dX5_order_46 : decode cX5_order 46 = .ok (.ifCond .ne 13, 3) := dc_at dkX5_order_b2 4 rfl
theorem dX5_order_49 : decode cX5_order 49 = .ok (.aload_n 0, 1) := dc_at dkX5_order_b2 5 rfl
theorem dX5_order_50 : decode cX5_order 50 = .ok (.getfield 38, 3) := dc_at dkX5_order_b2 6 rfl
theorem dX5_order_53 : decode cX5_order 53 = .ok (.bipush 8, 2) := dc_at dkX5_order_b2 7 rfl
theorem dX5_order_55 : decode cX5_order 55 = .ok (.iaload, 1) := dc_at dkX5_order_b2 8 rfl
theorem dX5_order_56 : decode cX5_order 56 = .ok (.goto 26, 3) := dc_at dkX5_order_b2 9 rfl
def drX5_order_b3 : List (Nat × (Instr × Nat)) := [(59, (.iload_n 2, 1)), (60, (.bipush 10, 2)), (62, (.isub, 1)), (63, (.aload_n 0, 1)), (64, (.getfield 225, 3)), (67, (.if_icmp .ge 14, 3)), (70, (.aload_n 0, 1)), (71, (.iload_n 2, 1)), (72, (.bipush 10, 2)), (74, (.isub, 1))]
theorem dkX5_order_b3 : ((drX5_order_b3).all fun r => decide (decode cX5_order r.1 = .ok r.2)) = true := by decide +kernel
theorem dX5_order_59 : decode cX5_order 59 = .ok (.iload_n 2, 1) := dc_at dkX5_order_b3 0 rfl
theorem dX5_order_60 : decode cX5_order 60 = .ok (.bipush 10, 2) := dc_at dkX5_order_b3 1 rfl
theorem dX5_order_62 : decode cX5_order 62 = .ok (.isub, 1) := dc_at dkX5_order_b3 2 rfl
theorem dX5_order_63 : decode cX5_order 63 = .ok (.aload_n 0, 1) := dc_at dkX5_order_b3 3 rfl
theorem dX5_order_64 : decode cX5_order 64 = .ok (.getfield 225, 3) := dc_at dkX5_order_b3 4 rfl
theorem dX5_order_67 : decode cX5_order 67 = .ok (.if_icmp .ge 14, 3) := dc_at dkX5_order_b3 5 rfl
theorem dX5_order_70 : decode cX5_order 70 = .ok (.aload_n 0, 1) := dc_at dkX5_order_b3 6 rfl
theorem dX5_order_71 : decode cX5_order 71 = .ok (.iload_n 2, 1) := dc_at dkX5_order_b3 7 rfl
theorem dX5_order_72 : decode cX5_order 72 = .ok (.bipush 10, 2) := dc_at dkX5_order_b3 8 rfl
theorem dX5_order_74 : decode cX5_order 74 = .ok (.isub, 1) := dc_at dkX5_order_b3 9 rfl
def drX5_order_b4 : List (Nat × (Instr × Nat)) := [(75, (.invokevirtual 248, 3)), (78, (.goto 4, 3)), (81, (.iconst (-1), 1)), (82, (.ireturn, 1))]
theorem dkX5_order_b4 : ((drX5_order_b4).all fun r => decide (decode cX5_order r.1 = .ok r.2)) = true := by decide +kernel
theorem dX5_order_75 : decode cX5_order 75 = .ok (.invokevirtual 248, 3) := dc_at dkX5_order_b4 0 rfl
theorem dX5_order_78 : decode cX5_order 78 = .ok (.goto 4, 3) := dc_at dkX5_order_b4 1 rfl
theorem dX5_order_81 : decode cX5_order 81 = .ok (.iconst (-1), 1) := dc_at dkX5_order_b4 2 rfl
theorem dX5_order_82 : decode cX5_order 82 = .ok (.ireturn, 1) := dc_at dkX5_order_b4 3 rfl
def drX5_reads_b0 : List (Nat × (Instr × Nat)) := [(0, (.aload_n 0, 1)), (1, (.iload_n 1, 1)), (2, (.invokevirtual 235, 3)), (5, (.ifCond .ne 5, 3)), (8, (.iconst (-1), 1)), (9, (.ireturn, 1)), (10, (.iload_n 1, 1)), (11, (.invokestatic 242, 3)), (14, (.bipush 8, 2)), (16, (.if_icmp .le 6, 3))]
theorem dkX5_reads_b0 : ((drX5_reads_b0).all fun r => decide (decode cX5_reads r.1 = .ok r.2)) = true := by decide +kernel
theorem dX5_reads_0 : decode cX5_reads 0 = .ok (.aload_n 0, 1) := dc_at dkX5_reads_b0 0 rfl
theorem dX5_reads_1 : decode cX5_reads 1 = .ok (.iload_n 1, 1) := dc_at dkX5_reads_b0 1 rfl
theorem dX5_reads_2 : decode cX5_reads 2 = .ok (.invokevirtual 235, 3) := dc_at dkX5_reads_b0 2 rfl
theorem dX5_reads_5 : decode cX5_reads 5 = .ok (.ifCond .ne 5, 3) := dc_at dkX5_reads_b0 3 rfl
theorem dX5_reads_8 : decode cX5_reads 8 = .ok (.iconst (-1), 1) := dc_at dkX5_reads_b0 4 rfl
theorem dX5_reads_9 : decode cX5_reads 9 = .ok (.ireturn, 1) := dc_at dkX5_reads_b0 5 rfl
theorem dX5_reads_10 : decode cX5_reads 10 = .ok (.iload_n 1, 1) := dc_at dkX5_reads_b0 6 rfl
theorem dX5_reads_11 : decode cX5_reads 11 = .ok (.invokestatic 242, 3) := dc_at dkX5_reads_b0 7 rfl
theorem dX5_reads_14 : decode cX5_reads 14 = .ok (.bipush 8, 2) := dc_at dkX5_reads_b0 8 rfl
theorem dX5_reads_16 : decode cX5_reads 16 = .ok (.if_icmp .le 6, 3) := dc_at dkX5_reads_b0 9 rfl
def drX5_reads_b1 : List (Nat × (Instr × Nat)) := [(19, (.bipush (-2), 2)), (21, (.ireturn, 1)), (22, (.aload_n 0, 1)), (23, (.iload_n 1, 1)), (24, (.invokevirtual 245, 3)), (27, (.aload_n 0, 1)), (28, (.getfield 38, 3)), (31, (.bipush 8, 2)), (33, (.iaload, 1)), (34, (.istore_n 2, 1))]
theorem dkX5_reads_b1 : ((drX5_reads_b1).all fun r => decide (decode cX5_reads r.1 = .ok r.2)) = true := by decide +kernel
theorem dX5_reads_19 : decode cX5_reads 19 = .ok (.bipush (-2), 2) := dc_at dkX5_reads_b1 0 rfl
theorem dX5_reads_21 : decode cX5_reads 21 = .ok (.ireturn, 1) := dc_at dkX5_reads_b1 1 rfl
theorem dX5_reads_22 : decode cX5_reads 22 = .ok (.aload_n 0, 1) := dc_at dkX5_reads_b1 2 rfl
theorem dX5_reads_23 : decode cX5_reads 23 = .ok (.iload_n 1, 1) := dc_at dkX5_reads_b1 3 rfl
theorem dX5_reads_24 : decode cX5_reads 24 = .ok (.invokevirtual 245, 3) := dc_at dkX5_reads_b1 4 rfl
theorem dX5_reads_27 : decode cX5_reads 27 = .ok (.aload_n 0, 1) := dc_at dkX5_reads_b1 5 rfl
theorem dX5_reads_28 : decode cX5_reads 28 = .ok (.getfield 38, 3) := dc_at dkX5_reads_b1 6 rfl
theorem dX5_reads_31 : decode cX5_reads 31 = .ok (.bipush 8, 2) := dc_at dkX5_reads_b1 7 rfl
theorem dX5_reads_33 : decode cX5_reads 33 = .ok (.iaload, 1) := dc_at dkX5_reads_b1 8 rfl
theorem dX5_reads_34 : decode cX5_reads 34 = .ok (.istore_n 2, 1) := dc_at dkX5_reads_b1 9 rfl
def drX5_reads_b2 : List (Nat × (Instr × Nat)) := [(35, (.aload_n 0, 1)), (36, (.getfield 225, 3)), (39, (.ifCond .ne 14, 3)), (42, (.aload_n 0, 1)), (43, (.getfield 7, 3)), (46, (.sipush 325, 3)), (49, (.iaload, 1)), (50, (.goto 17, 3)), (53, (.aload_n 0, 1)), (54, (.aload_n 0, 1))]
theorem dkX5_reads_b2 : ((drX5_reads_b2).all fun r => decide (decode cX5_reads r.1 = .ok r.2)) = true := by decide +kernel
theorem dX5_reads_35 : decode cX5_reads 35 = .ok (.aload_n 0, 1) := dc_at dkX5_reads_b2 0 rfl
theorem dX5_reads_36 : decode cX5_reads 36 = .ok (.getfield 225, 3) := dc_at dkX5_reads_b2 1 rfl
theorem dX5_reads_39 : decode cX5_reads 39 = .ok (.ifCond .ne 14, 3) := dc_at dkX5_reads_b2 2 rfl
theorem dX5_reads_42 : decode cX5_reads 42 = .ok (.aload_n 0, 1) := dc_at dkX5_reads_b2 3 rfl
theorem dX5_reads_43 : decode cX5_reads 43 = .ok (.getfield 7, 3) := dc_at dkX5_reads_b2 4 rfl
theorem dX5_reads_46 : decode cX5_reads 46 = .ok (.sipush 325, 3) := dc_at dkX5_reads_b2 5 rfl
theorem dX5_reads_49 : decode cX5_reads 49 = .ok (.iaload, 1) := dc_at dkX5_reads_b2 6 rfl
theorem dX5_reads_50 : decode cX5_reads 50 = .ok (.goto 17, 3) := dc_at dkX5_reads_b2 7 rfl
theorem dX5_reads_53 : decode cX5_reads 53 = .ok (.aload_n 0, 1) := dc_at dkX5_reads_b2 8 rfl
theorem dX5_reads_54 : decode cX5_reads 54 = .ok (.aload_n 0, 1) := dc_at dkX5_reads_b2 9 rfl
def drX5_reads_b3 : List (Nat × (Instr × Nat)) := [(55, (.aload_n 0, 1)), (56, (.getfield 225, 3)), (59, (.iconst 1, 1)), (60, (.isub, 1)), (61, (.invokevirtual 248, 3)), (64, (.invokevirtual 179, 3)), (67, (.istore_n 3, 1)), (68, (.aload_n 0, 1)), (69, (.getfield 7, 3)), (72, (.sipush 326, 3))]
theorem dkX5_reads_b3 : ((drX5_reads_b3).all fun r => decide (decode cX5_reads r.1 = .ok r.2)) = true := by decide +kernel
theorem dX5_reads_55 : decode cX5_reads 55 = .ok (.aload_n 0, 1) := dc_at dkX5_reads_b3 0 rfl
theorem dX5_reads_56 : decode cX5_reads 56 = .ok (.getfield 225, 3) := dc_at dkX5_reads_b3 1 rfl
theorem dX5_reads_59 : decode cX5_reads 59 = .ok (.iconst 1, 1) := dc_at dkX5_reads_b3 2 rfl
theorem dX5_reads_60 : decode cX5_reads 60 = .ok (.isub, 1) := dc_at dkX5_reads_b3 3 rfl
theorem dX5_reads_61 : decode cX5_reads 61 = .ok (.invokevirtual 248, 3) := dc_at dkX5_reads_b3 4 rfl
theorem dX5_reads_64 : decode cX5_reads 64 = .ok (.invokevirtual 179, 3) := dc_at dkX5_reads_b3 5 rfl
theorem dX5_reads_67 : decode cX5_reads 67 = .ok (.istore_n 3, 1) := dc_at dkX5_reads_b3 6 rfl
theorem dX5_reads_68 : decode cX5_reads 68 = .ok (.aload_n 0, 1) := dc_at dkX5_reads_b3 7 rfl
theorem dX5_reads_69 : decode cX5_reads 69 = .ok (.getfield 7, 3) := dc_at dkX5_reads_b3 8 rfl
theorem dX5_reads_72 : decode cX5_reads 72 = .ok (.sipush 326, 3) := dc_at dkX5_reads_b3 9 rfl
def drX5_reads_b4 : List (Nat × (Instr × Nat)) := [(75, (.dup2, 1)), (76, (.iaload, 1)), (77, (.iload_n 2, 1)), (78, (.iadd, 1)), (79, (.iastore, 1)), (80, (.aload_n 0, 1)), (81, (.getfield 7, 3)), (84, (.sipush 325, 3)), (87, (.iload_n 3, 1)), (88, (.iastore, 1))]
theorem dkX5_reads_b4 : ((drX5_reads_b4).all fun r => decide (decode cX5_reads r.1 = .ok r.2)) = true := by decide +kernel
theorem dX5_reads_75 : decode cX5_reads 75 = .ok (.dup2, 1) := dc_at dkX5_reads_b4 0 rfl
theorem dX5_reads_76 : decode cX5_reads 76 = .ok (.iaload, 1) := dc_at dkX5_reads_b4 1 rfl
theorem dX5_reads_77 : decode cX5_reads 77 = .ok (.iload_n 2, 1) := dc_at dkX5_reads_b4 2 rfl
theorem dX5_reads_78 : decode cX5_reads 78 = .ok (.iadd, 1) := dc_at dkX5_reads_b4 3 rfl
theorem dX5_reads_79 : decode cX5_reads 79 = .ok (.iastore, 1) := dc_at dkX5_reads_b4 4 rfl
theorem dX5_reads_80 : decode cX5_reads 80 = .ok (.aload_n 0, 1) := dc_at dkX5_reads_b4 5 rfl
theorem dX5_reads_81 : decode cX5_reads 81 = .ok (.getfield 7, 3) := dc_at dkX5_reads_b4 6 rfl
theorem dX5_reads_84 : decode cX5_reads 84 = .ok (.sipush 325, 3) := dc_at dkX5_reads_b4 7 rfl
theorem dX5_reads_87 : decode cX5_reads 87 = .ok (.iload_n 3, 1) := dc_at dkX5_reads_b4 8 rfl
theorem dX5_reads_88 : decode cX5_reads 88 = .ok (.iastore, 1) := dc_at dkX5_reads_b4 9 rfl
def drX5_reads_b5 : List (Nat × (Instr × Nat)) := [(89, (.iload_n 2, 1)), (90, (.ireturn, 1))]
theorem dkX5_reads_b5 : ((drX5_reads_b5).all fun r => decide (decode cX5_reads r.1 = .ok r.2)) = true := by decide +kernel
theorem dX5_reads_89 : decode cX5_reads 89 = .ok (.iload_n 2, 1) := dc_at dkX5_reads_b5 0 rfl
theorem dX5_reads_90 : decode cX5_reads 90 = .ok (.ireturn, 1) := dc_at dkX5_reads_b5 1 rfl
def drX5_moves_b0 : List (Nat × (Instr × Nat)) := [(0, (.aload_n 0, 1)), (1, (.getfield 7, 3)), (4, (.iconst 1, 1)), (5, (.iload_n 1, 1)), (6, (.iadd, 1)), (7, (.aload_n 0, 1)), (8, (.getfield 7, 3)), (11, (.iconst 1, 1)), (12, (.iload_n 2, 1)), (13, (.iadd, 1))]
theorem dkX5_moves_b0 : ((drX5_moves_b0).all fun r => decide (decode cX5_moves r.1 = .ok r.2)) = true := by decide +kernel
theorem dX5_moves_0 : decode cX5_moves 0 = .ok (.aload_n 0, 1) := dc_at dkX5_moves_b0 0 rfl
theorem dX5_moves_1 : decode cX5_moves 1 = .ok (.getfield 7, 3) := dc_at dkX5_moves_b0 1 rfl
theorem dX5_moves_4 : decode cX5_moves 4 = .ok (.iconst 1, 1) := dc_at dkX5_moves_b0 2 rfl
theorem dX5_moves_5 : decode cX5_moves 5 = .ok (.iload_n 1, 1) := dc_at dkX5_moves_b0 3 rfl
theorem dX5_moves_6 : decode cX5_moves 6 = .ok (.iadd, 1) := dc_at dkX5_moves_b0 4 rfl
theorem dX5_moves_7 : decode cX5_moves 7 = .ok (.aload_n 0, 1) := dc_at dkX5_moves_b0 5 rfl
theorem dX5_moves_8 : decode cX5_moves 8 = .ok (.getfield 7, 3) := dc_at dkX5_moves_b0 6 rfl
theorem dX5_moves_11 : decode cX5_moves 11 = .ok (.iconst 1, 1) := dc_at dkX5_moves_b0 7 rfl
theorem dX5_moves_12 : decode cX5_moves 12 = .ok (.iload_n 2, 1) := dc_at dkX5_moves_b0 8 rfl
theorem dX5_moves_13 : decode cX5_moves 13 = .ok (.iadd, 1) := dc_at dkX5_moves_b0 9 rfl
def drX5_moves_b1 : List (Nat × (Instr × Nat)) := [(14, (.iaload, 1)), (15, (.iload_n 3, 1)), (16, (.isub, 1)), (17, (.iastore, 1)), (18, (.aload_n 0, 1)), (19, (.getfield 7, 3)), (22, (.bipush 13, 2)), (24, (.iload_n 1, 1)), (25, (.iadd, 1)), (26, (.aload_n 0, 1))]
theorem dkX5_moves_b1 : ((drX5_moves_b1).all fun r => decide (decode cX5_moves r.1 = .ok r.2)) = true := by decide +kernel
theorem dX5_moves_14 : decode cX5_moves 14 = .ok (.iaload, 1) := dc_at dkX5_moves_b1 0 rfl
theorem dX5_moves_15 : decode cX5_moves 15 = .ok (.iload_n 3, 1) := dc_at dkX5_moves_b1 1 rfl
theorem dX5_moves_16 : decode cX5_moves 16 = .ok (.isub, 1) := dc_at dkX5_moves_b1 2 rfl
theorem dX5_moves_17 : decode cX5_moves 17 = .ok (.iastore, 1) := dc_at dkX5_moves_b1 3 rfl
theorem dX5_moves_18 : decode cX5_moves 18 = .ok (.aload_n 0, 1) := dc_at dkX5_moves_b1 4 rfl
theorem dX5_moves_19 : decode cX5_moves 19 = .ok (.getfield 7, 3) := dc_at dkX5_moves_b1 5 rfl
theorem dX5_moves_22 : decode cX5_moves 22 = .ok (.bipush 13, 2) := dc_at dkX5_moves_b1 6 rfl
theorem dX5_moves_24 : decode cX5_moves 24 = .ok (.iload_n 1, 1) := dc_at dkX5_moves_b1 7 rfl
theorem dX5_moves_25 : decode cX5_moves 25 = .ok (.iadd, 1) := dc_at dkX5_moves_b1 8 rfl
theorem dX5_moves_26 : decode cX5_moves 26 = .ok (.aload_n 0, 1) := dc_at dkX5_moves_b1 9 rfl
def drX5_moves_b2 : List (Nat × (Instr × Nat)) := [(27, (.getfield 7, 3)), (30, (.bipush 13, 2)), (32, (.iload_n 2, 1)), (33, (.iadd, 1)), (34, (.iaload, 1)), (35, (.iastore, 1)), (36, (.iconst 0, 1)), (37, (.istore 4, 2)), (39, (.iload 4, 2)), (41, (.bipush 13, 2))]
theorem dkX5_moves_b2 : ((drX5_moves_b2).all fun r => decide (decode cX5_moves r.1 = .ok r.2)) = true := by decide +kernel
theorem dX5_moves_27 : decode cX5_moves 27 = .ok (.getfield 7, 3) := dc_at dkX5_moves_b2 0 rfl
theorem dX5_moves_30 : decode cX5_moves 30 = .ok (.bipush 13, 2) := dc_at dkX5_moves_b2 1 rfl
theorem dX5_moves_32 : decode cX5_moves 32 = .ok (.iload_n 2, 1) := dc_at dkX5_moves_b2 2 rfl
theorem dX5_moves_33 : decode cX5_moves 33 = .ok (.iadd, 1) := dc_at dkX5_moves_b2 3 rfl
theorem dX5_moves_34 : decode cX5_moves 34 = .ok (.iaload, 1) := dc_at dkX5_moves_b2 4 rfl
theorem dX5_moves_35 : decode cX5_moves 35 = .ok (.iastore, 1) := dc_at dkX5_moves_b2 5 rfl
theorem dX5_moves_36 : decode cX5_moves 36 = .ok (.iconst 0, 1) := dc_at dkX5_moves_b2 6 rfl
theorem dX5_moves_37 : decode cX5_moves 37 = .ok (.istore 4, 2) := dc_at dkX5_moves_b2 7 rfl
theorem dX5_moves_39 : decode cX5_moves 39 = .ok (.iload 4, 2) := dc_at dkX5_moves_b2 8 rfl
theorem dX5_moves_41 : decode cX5_moves 41 = .ok (.bipush 13, 2) := dc_at dkX5_moves_b2 9 rfl
def drX5_moves_b3 : List (Nat × (Instr × Nat)) := [(43, (.if_icmp .ge 39, 3)), (46, (.aload_n 0, 1)), (47, (.getfield 7, 3)), (50, (.bipush 25, 2)), (52, (.bipush 13, 2)), (54, (.iload_n 1, 1)), (55, (.imul, 1)), (56, (.iadd, 1)), (57, (.iload 4, 2)), (59, (.iadd, 1))]
theorem dkX5_moves_b3 : ((drX5_moves_b3).all fun r => decide (decode cX5_moves r.1 = .ok r.2)) = true := by decide +kernel
theorem dX5_moves_43 : decode cX5_moves 43 = .ok (.if_icmp .ge 39, 3) := dc_at dkX5_moves_b3 0 rfl
theorem dX5_moves_46 : decode cX5_moves 46 = .ok (.aload_n 0, 1) := dc_at dkX5_moves_b3 1 rfl
theorem dX5_moves_47 : decode cX5_moves 47 = .ok (.getfield 7, 3) := dc_at dkX5_moves_b3 2 rfl
theorem dX5_moves_50 : decode cX5_moves 50 = .ok (.bipush 25, 2) := dc_at dkX5_moves_b3 3 rfl
theorem dX5_moves_52 : decode cX5_moves 52 = .ok (.bipush 13, 2) := dc_at dkX5_moves_b3 4 rfl
theorem dX5_moves_54 : decode cX5_moves 54 = .ok (.iload_n 1, 1) := dc_at dkX5_moves_b3 5 rfl
theorem dX5_moves_55 : decode cX5_moves 55 = .ok (.imul, 1) := dc_at dkX5_moves_b3 6 rfl
theorem dX5_moves_56 : decode cX5_moves 56 = .ok (.iadd, 1) := dc_at dkX5_moves_b3 7 rfl
theorem dX5_moves_57 : decode cX5_moves 57 = .ok (.iload 4, 2) := dc_at dkX5_moves_b3 8 rfl
theorem dX5_moves_59 : decode cX5_moves 59 = .ok (.iadd, 1) := dc_at dkX5_moves_b3 9 rfl
def drX5_moves_b4 : List (Nat × (Instr × Nat)) := [(60, (.aload_n 0, 1)), (61, (.getfield 7, 3)), (64, (.bipush 25, 2)), (66, (.bipush 13, 2)), (68, (.iload_n 2, 1)), (69, (.imul, 1)), (70, (.iadd, 1)), (71, (.iload 4, 2)), (73, (.iadd, 1)), (74, (.iaload, 1))]
theorem dkX5_moves_b4 : ((drX5_moves_b4).all fun r => decide (decode cX5_moves r.1 = .ok r.2)) = true := by decide +kernel
theorem dX5_moves_60 : decode cX5_moves 60 = .ok (.aload_n 0, 1) := dc_at dkX5_moves_b4 0 rfl
theorem dX5_moves_61 : decode cX5_moves 61 = .ok (.getfield 7, 3) := dc_at dkX5_moves_b4 1 rfl
theorem dX5_moves_64 : decode cX5_moves 64 = .ok (.bipush 25, 2) := dc_at dkX5_moves_b4 2 rfl
theorem dX5_moves_66 : decode cX5_moves 66 = .ok (.bipush 13, 2) := dc_at dkX5_moves_b4 3 rfl
theorem dX5_moves_68 : decode cX5_moves 68 = .ok (.iload_n 2, 1) := dc_at dkX5_moves_b4 4 rfl
theorem dX5_moves_69 : decode cX5_moves 69 = .ok (.imul, 1) := dc_at dkX5_moves_b4 5 rfl
theorem dX5_moves_70 : decode cX5_moves 70 = .ok (.iadd, 1) := dc_at dkX5_moves_b4 6 rfl
theorem dX5_moves_71 : decode cX5_moves 71 = .ok (.iload 4, 2) := dc_at dkX5_moves_b4 7 rfl
theorem dX5_moves_73 : decode cX5_moves 73 = .ok (.iadd, 1) := dc_at dkX5_moves_b4 8 rfl
theorem dX5_moves_74 : decode cX5_moves 74 = .ok (.iaload, 1) := dc_at dkX5_moves_b4 9 rfl
def drX5_moves_b5 : List (Nat × (Instr × Nat)) := [(75, (.iastore, 1)), (76, (.iinc 4 1, 3)), (79, (.goto (-40), 3)), (82, (.iconst 0, 1)), (83, (.istore 4, 2)), (85, (.iload 4, 2)), (87, (.bipush 12, 2)), (89, (.if_icmp .ge 41, 3)), (92, (.aload_n 0, 1)), (93, (.getfield 7, 3))]
theorem dkX5_moves_b5 : ((drX5_moves_b5).all fun r => decide (decode cX5_moves r.1 = .ok r.2)) = true := by decide +kernel
theorem dX5_moves_75 : decode cX5_moves 75 = .ok (.iastore, 1) := dc_at dkX5_moves_b5 0 rfl
theorem dX5_moves_76 : decode cX5_moves 76 = .ok (.iinc 4 1, 3) := dc_at dkX5_moves_b5 1 rfl
theorem dX5_moves_79 : decode cX5_moves 79 = .ok (.goto (-40), 3) := dc_at dkX5_moves_b5 2 rfl
theorem dX5_moves_82 : decode cX5_moves 82 = .ok (.iconst 0, 1) := dc_at dkX5_moves_b5 3 rfl
theorem dX5_moves_83 : decode cX5_moves 83 = .ok (.istore 4, 2) := dc_at dkX5_moves_b5 4 rfl
theorem dX5_moves_85 : decode cX5_moves 85 = .ok (.iload 4, 2) := dc_at dkX5_moves_b5 5 rfl
theorem dX5_moves_87 : decode cX5_moves 87 = .ok (.bipush 12, 2) := dc_at dkX5_moves_b5 6 rfl
theorem dX5_moves_89 : decode cX5_moves 89 = .ok (.if_icmp .ge 41, 3) := dc_at dkX5_moves_b5 7 rfl
theorem dX5_moves_92 : decode cX5_moves 92 = .ok (.aload_n 0, 1) := dc_at dkX5_moves_b5 8 rfl
theorem dX5_moves_93 : decode cX5_moves 93 = .ok (.getfield 7, 3) := dc_at dkX5_moves_b5 9 rfl
def drX5_moves_b6 : List (Nat × (Instr × Nat)) := [(96, (.sipush 181, 3)), (99, (.bipush 12, 2)), (101, (.iload_n 1, 1)), (102, (.imul, 1)), (103, (.iadd, 1)), (104, (.iload 4, 2)), (106, (.iadd, 1)), (107, (.aload_n 0, 1)), (108, (.getfield 7, 3)), (111, (.sipush 181, 3))]
theorem dkX5_moves_b6 : ((drX5_moves_b6).all fun r => decide (decode cX5_moves r.1 = .ok r.2)) = true := by decide +kernel
theorem dX5_moves_96 : decode cX5_moves 96 = .ok (.sipush 181, 3) := dc_at dkX5_moves_b6 0 rfl
theorem dX5_moves_99 : decode cX5_moves 99 = .ok (.bipush 12, 2) := dc_at dkX5_moves_b6 1 rfl
theorem dX5_moves_101 : decode cX5_moves 101 = .ok (.iload_n 1, 1) := dc_at dkX5_moves_b6 2 rfl
theorem dX5_moves_102 : decode cX5_moves 102 = .ok (.imul, 1) := dc_at dkX5_moves_b6 3 rfl
theorem dX5_moves_103 : decode cX5_moves 103 = .ok (.iadd, 1) := dc_at dkX5_moves_b6 4 rfl
theorem dX5_moves_104 : decode cX5_moves 104 = .ok (.iload 4, 2) := dc_at dkX5_moves_b6 5 rfl
theorem dX5_moves_106 : decode cX5_moves 106 = .ok (.iadd, 1) := dc_at dkX5_moves_b6 6 rfl
theorem dX5_moves_107 : decode cX5_moves 107 = .ok (.aload_n 0, 1) := dc_at dkX5_moves_b6 7 rfl
theorem dX5_moves_108 : decode cX5_moves 108 = .ok (.getfield 7, 3) := dc_at dkX5_moves_b6 8 rfl
theorem dX5_moves_111 : decode cX5_moves 111 = .ok (.sipush 181, 3) := dc_at dkX5_moves_b6 9 rfl
def drX5_moves_b7 : List (Nat × (Instr × Nat)) := [(114, (.bipush 12, 2)), (116, (.iload_n 2, 1)), (117, (.imul, 1)), (118, (.iadd, 1)), (119, (.iload 4, 2)), (121, (.iadd, 1)), (122, (.iaload, 1)), (123, (.iastore, 1)), (124, (.iinc 4 1, 3)), (127, (.goto (-42), 3))]
theorem dkX5_moves_b7 : ((drX5_moves_b7).all fun r => decide (decode cX5_moves r.1 = .ok r.2)) = true := by decide +kernel
theorem dX5_moves_114 : decode cX5_moves 114 = .ok (.bipush 12, 2) := dc_at dkX5_moves_b7 0 rfl
theorem dX5_moves_116 : decode cX5_moves 116 = .ok (.iload_n 2, 1) := dc_at dkX5_moves_b7 1 rfl
theorem dX5_moves_117 : decode cX5_moves 117 = .ok (.imul, 1) := dc_at dkX5_moves_b7 2 rfl
theorem dX5_moves_118 : decode cX5_moves 118 = .ok (.iadd, 1) := dc_at dkX5_moves_b7 3 rfl
theorem dX5_moves_119 : decode cX5_moves 119 = .ok (.iload 4, 2) := dc_at dkX5_moves_b7 4 rfl
theorem dX5_moves_121 : decode cX5_moves 121 = .ok (.iadd, 1) := dc_at dkX5_moves_b7 5 rfl
theorem dX5_moves_122 : decode cX5_moves 122 = .ok (.iaload, 1) := dc_at dkX5_moves_b7 6 rfl
theorem dX5_moves_123 : decode cX5_moves 123 = .ok (.iastore, 1) := dc_at dkX5_moves_b7 7 rfl
theorem dX5_moves_124 : decode cX5_moves 124 = .ok (.iinc 4 1, 3) := dc_at dkX5_moves_b7 8 rfl
theorem dX5_moves_127 : decode cX5_moves 127 = .ok (.goto (-42), 3) := dc_at dkX5_moves_b7 9 rfl
def drX5_moves_b8 : List (Nat × (Instr × Nat)) := [(130, (.return_, 1))]
theorem dkX5_moves_b8 : ((drX5_moves_b8).all fun r => decide (decode cX5_moves r.1 = .ok r.2)) = true := by decide +kernel
theorem dX5_moves_130 : decode cX5_moves 130 = .ok (.return_, 1) := dc_at dkX5_moves_b8 0 rfl
def drX5_cut_b0 : List (Nat × (Instr × Nat)) := [(0, (.aload_n 0, 1)), (1, (.iload_n 1, 1)), (2, (.invokevirtual 149, 3)), (5, (.ifCond .eq 16, 3)), (8, (.aload_n 0, 1)), (9, (.iload_n 2, 1)), (10, (.invokevirtual 149, 3)), (13, (.ifCond .eq 8, 3)), (16, (.iload_n 2, 1)), (17, (.iload_n 1, 1))]
theorem dkX5_cut_b0 : ((drX5_cut_b0).all fun r => decide (decode cX5_cut r.1 = .ok r.2)) = true := by decide +kernel
theorem dX5_cut_0 : decode cX5_cut 0 = .ok (.aload_n 0, 1) := dc_at dkX5_cut_b0 0 rfl
theorem dX5_cut_1 : decode cX5_cut 1 = .ok (.iload_n 1, 1) := dc_at dkX5_cut_b0 1 rfl
theorem dX5_cut_2 : decode cX5_cut 2 = .ok (.invokevirtual 149, 3) := dc_at dkX5_cut_b0 2 rfl
theorem dX5_cut_5 : decode cX5_cut 5 = .ok (.ifCond .eq 16, 3) := dc_at dkX5_cut_b0 3 rfl
theorem dX5_cut_8 : decode cX5_cut 8 = .ok (.aload_n 0, 1) := dc_at dkX5_cut_b0 4 rfl
theorem dX5_cut_9 : decode cX5_cut 9 = .ok (.iload_n 2, 1) := dc_at dkX5_cut_b0 5 rfl
theorem dX5_cut_10 : decode cX5_cut 10 = .ok (.invokevirtual 149, 3) := dc_at dkX5_cut_b0 6 rfl
theorem dX5_cut_13 : decode cX5_cut 13 = .ok (.ifCond .eq 8, 3) := dc_at dkX5_cut_b0 7 rfl
theorem dX5_cut_16 : decode cX5_cut 16 = .ok (.iload_n 2, 1) := dc_at dkX5_cut_b0 8 rfl
theorem dX5_cut_17 : decode cX5_cut 17 = .ok (.iload_n 1, 1) := dc_at dkX5_cut_b0 9 rfl
def drX5_cut_b1 : List (Nat × (Instr × Nat)) := [(18, (.if_icmp .gt 5, 3)), (21, (.iconst (-1), 1)), (22, (.ireturn, 1)), (23, (.aload_n 0, 1)), (24, (.getfield 7, 3)), (27, (.sipush 366, 3)), (30, (.iaload, 1)), (31, (.iload_n 2, 1)), (32, (.iload_n 1, 1)), (33, (.isub, 1))]
theorem dkX5_cut_b1 : ((drX5_cut_b1).all fun r => decide (decode cX5_cut r.1 = .ok r.2)) = true := by decide +kernel
theorem dX5_cut_18 : decode cX5_cut 18 = .ok (.if_icmp .gt 5, 3) := dc_at dkX5_cut_b1 0 rfl
theorem dX5_cut_21 : decode cX5_cut 21 = .ok (.iconst (-1), 1) := dc_at dkX5_cut_b1 1 rfl
theorem dX5_cut_22 : decode cX5_cut 22 = .ok (.ireturn, 1) := dc_at dkX5_cut_b1 2 rfl
theorem dX5_cut_23 : decode cX5_cut 23 = .ok (.aload_n 0, 1) := dc_at dkX5_cut_b1 3 rfl
theorem dX5_cut_24 : decode cX5_cut 24 = .ok (.getfield 7, 3) := dc_at dkX5_cut_b1 4 rfl
theorem dX5_cut_27 : decode cX5_cut 27 = .ok (.sipush 366, 3) := dc_at dkX5_cut_b1 5 rfl
theorem dX5_cut_30 : decode cX5_cut 30 = .ok (.iaload, 1) := dc_at dkX5_cut_b1 6 rfl
theorem dX5_cut_31 : decode cX5_cut 31 = .ok (.iload_n 2, 1) := dc_at dkX5_cut_b1 7 rfl
theorem dX5_cut_32 : decode cX5_cut 32 = .ok (.iload_n 1, 1) := dc_at dkX5_cut_b1 8 rfl
theorem dX5_cut_33 : decode cX5_cut 33 = .ok (.isub, 1) := dc_at dkX5_cut_b1 9 rfl
def drX5_cut_b2 : List (Nat × (Instr × Nat)) := [(34, (.isub, 1)), (35, (.bipush 20, 2)), (37, (.if_icmp .ge 6, 3)), (40, (.bipush (-2), 2)), (42, (.ireturn, 1)), (43, (.iconst 0, 1)), (44, (.istore_n 3, 1)), (45, (.aload_n 0, 1)), (46, (.getfield 7, 3)), (49, (.iconst 0, 1))]
theorem dkX5_cut_b2 : ((drX5_cut_b2).all fun r => decide (decode cX5_cut r.1 = .ok r.2)) = true := by decide +kernel
theorem dX5_cut_34 : decode cX5_cut 34 = .ok (.isub, 1) := dc_at dkX5_cut_b2 0 rfl
theorem dX5_cut_35 : decode cX5_cut 35 = .ok (.bipush 20, 2) := dc_at dkX5_cut_b2 1 rfl
theorem dX5_cut_37 : decode cX5_cut 37 = .ok (.if_icmp .ge 6, 3) := dc_at dkX5_cut_b2 2 rfl
theorem dX5_cut_40 : decode cX5_cut 40 = .ok (.bipush (-2), 2) := dc_at dkX5_cut_b2 3 rfl
theorem dX5_cut_42 : decode cX5_cut 42 = .ok (.ireturn, 1) := dc_at dkX5_cut_b2 4 rfl
theorem dX5_cut_43 : decode cX5_cut 43 = .ok (.iconst 0, 1) := dc_at dkX5_cut_b2 5 rfl
theorem dX5_cut_44 : decode cX5_cut 44 = .ok (.istore_n 3, 1) := dc_at dkX5_cut_b2 6 rfl
theorem dX5_cut_45 : decode cX5_cut 45 = .ok (.aload_n 0, 1) := dc_at dkX5_cut_b2 7 rfl
theorem dX5_cut_46 : decode cX5_cut 46 = .ok (.getfield 7, 3) := dc_at dkX5_cut_b2 8 rfl
theorem dX5_cut_49 : decode cX5_cut 49 = .ok (.iconst 0, 1) := dc_at dkX5_cut_b2 9 rfl
def drX5_cut_b3 : List (Nat × (Instr × Nat)) := [(50, (.iaload, 1)), (51, (.istore 4, 2)), (53, (.iconst 0, 1)), (54, (.istore 5, 2)), (56, (.iload 5, 2)), (58, (.iload 4, 2)), (60, (.if_icmp .ge 66, 3)), (63, (.aload_n 0, 1)), (64, (.getfield 7, 3)), (67, (.iconst 1, 1))]
theorem dkX5_cut_b3 : ((drX5_cut_b3).all fun r => decide (decode cX5_cut r.1 = .ok r.2)) = true := by decide +kernel
theorem dX5_cut_50 : decode cX5_cut 50 = .ok (.iaload, 1) := dc_at dkX5_cut_b3 0 rfl
theorem dX5_cut_51 : decode cX5_cut 51 = .ok (.istore 4, 2) := dc_at dkX5_cut_b3 1 rfl
theorem dX5_cut_53 : decode cX5_cut 53 = .ok (.iconst 0, 1) := dc_at dkX5_cut_b3 2 rfl
theorem dX5_cut_54 : decode cX5_cut 54 = .ok (.istore 5, 2) := dc_at dkX5_cut_b3 3 rfl
theorem dX5_cut_56 : decode cX5_cut 56 = .ok (.iload 5, 2) := dc_at dkX5_cut_b3 4 rfl
theorem dX5_cut_58 : decode cX5_cut 58 = .ok (.iload 4, 2) := dc_at dkX5_cut_b3 5 rfl
theorem dX5_cut_60 : decode cX5_cut 60 = .ok (.if_icmp .ge 66, 3) := dc_at dkX5_cut_b3 6 rfl
theorem dX5_cut_63 : decode cX5_cut 63 = .ok (.aload_n 0, 1) := dc_at dkX5_cut_b3 7 rfl
theorem dX5_cut_64 : decode cX5_cut 64 = .ok (.getfield 7, 3) := dc_at dkX5_cut_b3 8 rfl
theorem dX5_cut_67 : decode cX5_cut 67 = .ok (.iconst 1, 1) := dc_at dkX5_cut_b3 9 rfl
def drX5_cut_b4 : List (Nat × (Instr × Nat)) := [(68, (.iload 5, 2)), (70, (.iadd, 1)), (71, (.iaload, 1)), (72, (.iload_n 2, 1)), (73, (.if_icmp .lt 7, 3)), (76, (.iconst 1, 1)), (77, (.goto 4, 3)), (80, (.iconst 0, 1)), (81, (.istore 6, 2)), (83, (.iload 6, 2))]
theorem dkX5_cut_b4 : ((drX5_cut_b4).all fun r => decide (decode cX5_cut r.1 = .ok r.2)) = true := by decide +kernel
theorem dX5_cut_68 : decode cX5_cut 68 = .ok (.iload 5, 2) := dc_at dkX5_cut_b4 0 rfl
theorem dX5_cut_70 : decode cX5_cut 70 = .ok (.iadd, 1) := dc_at dkX5_cut_b4 1 rfl
theorem dX5_cut_71 : decode cX5_cut 71 = .ok (.iaload, 1) := dc_at dkX5_cut_b4 2 rfl
theorem dX5_cut_72 : decode cX5_cut 72 = .ok (.iload_n 2, 1) := dc_at dkX5_cut_b4 3 rfl
theorem dX5_cut_73 : decode cX5_cut 73 = .ok (.if_icmp .lt 7, 3) := dc_at dkX5_cut_b4 4 rfl
theorem dX5_cut_76 : decode cX5_cut 76 = .ok (.iconst 1, 1) := dc_at dkX5_cut_b4 5 rfl
theorem dX5_cut_77 : decode cX5_cut 77 = .ok (.goto 4, 3) := dc_at dkX5_cut_b4 6 rfl
theorem dX5_cut_80 : decode cX5_cut 80 = .ok (.iconst 0, 1) := dc_at dkX5_cut_b4 7 rfl
theorem dX5_cut_81 : decode cX5_cut 81 = .ok (.istore 6, 2) := dc_at dkX5_cut_b4 8 rfl
theorem dX5_cut_83 : decode cX5_cut 83 = .ok (.iload 6, 2) := dc_at dkX5_cut_b4 9 rfl
def drX5_cut_b5 : List (Nat × (Instr × Nat)) := [(85, (.ifCond .ne 13, 3)), (88, (.aload_n 0, 1)), (89, (.iload 5, 2)), (91, (.invokevirtual 179, 3)), (94, (.iload_n 1, 1)), (95, (.if_icmp .gt 25, 3)), (98, (.aload_n 0, 1)), (99, (.iload_n 3, 1)), (100, (.iload 5, 2)), (102, (.iload 6, 2))]
theorem dkX5_cut_b5 : ((drX5_cut_b5).all fun r => decide (decode cX5_cut r.1 = .ok r.2)) = true := by decide +kernel
theorem dX5_cut_85 : decode cX5_cut 85 = .ok (.ifCond .ne 13, 3) := dc_at dkX5_cut_b5 0 rfl
theorem dX5_cut_88 : decode cX5_cut 88 = .ok (.aload_n 0, 1) := dc_at dkX5_cut_b5 1 rfl
theorem dX5_cut_89 : decode cX5_cut 89 = .ok (.iload 5, 2) := dc_at dkX5_cut_b5 2 rfl
theorem dX5_cut_91 : decode cX5_cut 91 = .ok (.invokevirtual 179, 3) := dc_at dkX5_cut_b5 3 rfl
theorem dX5_cut_94 : decode cX5_cut 94 = .ok (.iload_n 1, 1) := dc_at dkX5_cut_b5 4 rfl
theorem dX5_cut_95 : decode cX5_cut 95 = .ok (.if_icmp .gt 25, 3) := dc_at dkX5_cut_b5 5 rfl
theorem dX5_cut_98 : decode cX5_cut 98 = .ok (.aload_n 0, 1) := dc_at dkX5_cut_b5 6 rfl
theorem dX5_cut_99 : decode cX5_cut 99 = .ok (.iload_n 3, 1) := dc_at dkX5_cut_b5 7 rfl
theorem dX5_cut_100 : decode cX5_cut 100 = .ok (.iload 5, 2) := dc_at dkX5_cut_b5 8 rfl
theorem dX5_cut_102 : decode cX5_cut 102 = .ok (.iload 6, 2) := dc_at dkX5_cut_b5 9 rfl
def drX5_cut_b6 : List (Nat × (Instr × Nat)) := [(104, (.ifCond .eq 9, 3)), (107, (.iload_n 2, 1)), (108, (.iload_n 1, 1)), (109, (.isub, 1)), (110, (.goto 4, 3)), (113, (.iconst 0, 1)), (114, (.invokevirtual 251, 3)), (117, (.iinc 3 1, 3)), (120, (.iinc 5 1, 3)), (123, (.goto (-67), 3))]
theorem dkX5_cut_b6 : ((drX5_cut_b6).all fun r => decide (decode cX5_cut r.1 = .ok r.2)) = true := by decide +kernel
theorem dX5_cut_104 : decode cX5_cut 104 = .ok (.ifCond .eq 9, 3) := dc_at dkX5_cut_b6 0 rfl
theorem dX5_cut_107 : decode cX5_cut 107 = .ok (.iload_n 2, 1) := dc_at dkX5_cut_b6 1 rfl
theorem dX5_cut_108 : decode cX5_cut 108 = .ok (.iload_n 1, 1) := dc_at dkX5_cut_b6 2 rfl
theorem dX5_cut_109 : decode cX5_cut 109 = .ok (.isub, 1) := dc_at dkX5_cut_b6 3 rfl
theorem dX5_cut_110 : decode cX5_cut 110 = .ok (.goto 4, 3) := dc_at dkX5_cut_b6 4 rfl
theorem dX5_cut_113 : decode cX5_cut 113 = .ok (.iconst 0, 1) := dc_at dkX5_cut_b6 5 rfl
theorem dX5_cut_114 : decode cX5_cut 114 = .ok (.invokevirtual 251, 3) := dc_at dkX5_cut_b6 6 rfl
theorem dX5_cut_117 : decode cX5_cut 117 = .ok (.iinc 3 1, 3) := dc_at dkX5_cut_b6 7 rfl
theorem dX5_cut_120 : decode cX5_cut 120 = .ok (.iinc 5 1, 3) := dc_at dkX5_cut_b6 8 rfl
theorem dX5_cut_123 : decode cX5_cut 123 = .ok (.goto (-67), 3) := dc_at dkX5_cut_b6 9 rfl
def drX5_cut_b7 : List (Nat × (Instr × Nat)) := [(126, (.aload_n 0, 1)), (127, (.getfield 7, 3)), (130, (.iconst 0, 1)), (131, (.iload_n 3, 1)), (132, (.iastore, 1)), (133, (.aload_n 0, 1)), (134, (.getfield 7, 3)), (137, (.sipush 325, 3)), (140, (.aload_n 0, 1)), (141, (.getfield 7, 3))]
theorem dkX5_cut_b7 : ((drX5_cut_b7).all fun r => decide (decode cX5_cut r.1 = .ok r.2)) = true := by decide +kernel
theorem dX5_cut_126 : decode cX5_cut 126 = .ok (.aload_n 0, 1) := dc_at dkX5_cut_b7 0 rfl
theorem dX5_cut_127 : decode cX5_cut 127 = .ok (.getfield 7, 3) := dc_at dkX5_cut_b7 1 rfl
theorem dX5_cut_130 : decode cX5_cut 130 = .ok (.iconst 0, 1) := dc_at dkX5_cut_b7 2 rfl
theorem dX5_cut_131 : decode cX5_cut 131 = .ok (.iload_n 3, 1) := dc_at dkX5_cut_b7 3 rfl
theorem dX5_cut_132 : decode cX5_cut 132 = .ok (.iastore, 1) := dc_at dkX5_cut_b7 4 rfl
theorem dX5_cut_133 : decode cX5_cut 133 = .ok (.aload_n 0, 1) := dc_at dkX5_cut_b7 5 rfl
theorem dX5_cut_134 : decode cX5_cut 134 = .ok (.getfield 7, 3) := dc_at dkX5_cut_b7 6 rfl
theorem dX5_cut_137 : decode cX5_cut 137 = .ok (.sipush 325, 3) := dc_at dkX5_cut_b7 7 rfl
theorem dX5_cut_140 : decode cX5_cut 140 = .ok (.aload_n 0, 1) := dc_at dkX5_cut_b7 8 rfl
theorem dX5_cut_141 : decode cX5_cut 141 = .ok (.getfield 7, 3) := dc_at dkX5_cut_b7 9 rfl
def drX5_cut_b8 : List (Nat × (Instr × Nat)) := [(144, (.sipush 325, 3)), (147, (.iaload, 1)), (148, (.iload_n 2, 1)), (149, (.if_icmp .lt 18, 3)), (152, (.aload_n 0, 1)), (153, (.getfield 7, 3)), (156, (.sipush 325, 3)), (159, (.iaload, 1)), (160, (.iload_n 2, 1)), (161, (.iload_n 1, 1))]
theorem dkX5_cut_b8 : ((drX5_cut_b8).all fun r => decide (decode cX5_cut r.1 = .ok r.2)) = true := by decide +kernel
theorem dX5_cut_144 : decode cX5_cut 144 = .ok (.sipush 325, 3) := dc_at dkX5_cut_b8 0 rfl
theorem dX5_cut_147 : decode cX5_cut 147 = .ok (.iaload, 1) := dc_at dkX5_cut_b8 1 rfl
theorem dX5_cut_148 : decode cX5_cut 148 = .ok (.iload_n 2, 1) := dc_at dkX5_cut_b8 2 rfl
theorem dX5_cut_149 : decode cX5_cut 149 = .ok (.if_icmp .lt 18, 3) := dc_at dkX5_cut_b8 3 rfl
theorem dX5_cut_152 : decode cX5_cut 152 = .ok (.aload_n 0, 1) := dc_at dkX5_cut_b8 4 rfl
theorem dX5_cut_153 : decode cX5_cut 153 = .ok (.getfield 7, 3) := dc_at dkX5_cut_b8 5 rfl
theorem dX5_cut_156 : decode cX5_cut 156 = .ok (.sipush 325, 3) := dc_at dkX5_cut_b8 6 rfl
theorem dX5_cut_159 : decode cX5_cut 159 = .ok (.iaload, 1) := dc_at dkX5_cut_b8 7 rfl
theorem dX5_cut_160 : decode cX5_cut 160 = .ok (.iload_n 2, 1) := dc_at dkX5_cut_b8 8 rfl
theorem dX5_cut_161 : decode cX5_cut 161 = .ok (.iload_n 1, 1) := dc_at dkX5_cut_b8 9 rfl
def drX5_cut_b9 : List (Nat × (Instr × Nat)) := [(162, (.isub, 1)), (163, (.isub, 1)), (164, (.goto 27, 3)), (167, (.aload_n 0, 1)), (168, (.getfield 7, 3)), (171, (.sipush 325, 3)), (174, (.iaload, 1)), (175, (.iload_n 1, 1)), (176, (.if_icmp .le 7, 3)), (179, (.iload_n 1, 1))]
theorem dkX5_cut_b9 : ((drX5_cut_b9).all fun r => decide (decode cX5_cut r.1 = .ok r.2)) = true := by decide +kernel
theorem dX5_cut_162 : decode cX5_cut 162 = .ok (.isub, 1) := dc_at dkX5_cut_b9 0 rfl
theorem dX5_cut_163 : decode cX5_cut 163 = .ok (.isub, 1) := dc_at dkX5_cut_b9 1 rfl
theorem dX5_cut_164 : decode cX5_cut 164 = .ok (.goto 27, 3) := dc_at dkX5_cut_b9 2 rfl
theorem dX5_cut_167 : decode cX5_cut 167 = .ok (.aload_n 0, 1) := dc_at dkX5_cut_b9 3 rfl
theorem dX5_cut_168 : decode cX5_cut 168 = .ok (.getfield 7, 3) := dc_at dkX5_cut_b9 4 rfl
theorem dX5_cut_171 : decode cX5_cut 171 = .ok (.sipush 325, 3) := dc_at dkX5_cut_b9 5 rfl
theorem dX5_cut_174 : decode cX5_cut 174 = .ok (.iaload, 1) := dc_at dkX5_cut_b9 6 rfl
theorem dX5_cut_175 : decode cX5_cut 175 = .ok (.iload_n 1, 1) := dc_at dkX5_cut_b9 7 rfl
theorem dX5_cut_176 : decode cX5_cut 176 = .ok (.if_icmp .le 7, 3) := dc_at dkX5_cut_b9 8 rfl
theorem dX5_cut_179 : decode cX5_cut 179 = .ok (.iload_n 1, 1) := dc_at dkX5_cut_b9 9 rfl
def drX5_cut_b10 : List (Nat × (Instr × Nat)) := [(180, (.goto 11, 3)), (183, (.aload_n 0, 1)), (184, (.getfield 7, 3)), (187, (.sipush 325, 3)), (190, (.iaload, 1)), (191, (.iastore, 1)), (192, (.aload_n 0, 1)), (193, (.getfield 7, 3)), (196, (.sipush 366, 3)), (199, (.dup2, 1))]
theorem dkX5_cut_b10 : ((drX5_cut_b10).all fun r => decide (decode cX5_cut r.1 = .ok r.2)) = true := by decide +kernel
theorem dX5_cut_180 : decode cX5_cut 180 = .ok (.goto 11, 3) := dc_at dkX5_cut_b10 0 rfl
theorem dX5_cut_183 : decode cX5_cut 183 = .ok (.aload_n 0, 1) := dc_at dkX5_cut_b10 1 rfl
theorem dX5_cut_184 : decode cX5_cut 184 = .ok (.getfield 7, 3) := dc_at dkX5_cut_b10 2 rfl
theorem dX5_cut_187 : decode cX5_cut 187 = .ok (.sipush 325, 3) := dc_at dkX5_cut_b10 3 rfl
theorem dX5_cut_190 : decode cX5_cut 190 = .ok (.iaload, 1) := dc_at dkX5_cut_b10 4 rfl
theorem dX5_cut_191 : decode cX5_cut 191 = .ok (.iastore, 1) := dc_at dkX5_cut_b10 5 rfl
theorem dX5_cut_192 : decode cX5_cut 192 = .ok (.aload_n 0, 1) := dc_at dkX5_cut_b10 6 rfl
theorem dX5_cut_193 : decode cX5_cut 193 = .ok (.getfield 7, 3) := dc_at dkX5_cut_b10 7 rfl
theorem dX5_cut_196 : decode cX5_cut 196 = .ok (.sipush 366, 3) := dc_at dkX5_cut_b10 8 rfl
theorem dX5_cut_199 : decode cX5_cut 199 = .ok (.dup2, 1) := dc_at dkX5_cut_b10 9 rfl
def drX5_cut_b11 : List (Nat × (Instr × Nat)) := [(200, (.iaload, 1)), (201, (.iload_n 2, 1)), (202, (.iload_n 1, 1)), (203, (.isub, 1)), (204, (.isub, 1)), (205, (.iastore, 1)), (206, (.iload 4, 2)), (208, (.iload_n 3, 1)), (209, (.isub, 1)), (210, (.ireturn, 1))]
theorem dkX5_cut_b11 : ((drX5_cut_b11).all fun r => decide (decode cX5_cut r.1 = .ok r.2)) = true := by decide +kernel
theorem dX5_cut_200 : decode cX5_cut 200 = .ok (.iaload, 1) := dc_at dkX5_cut_b11 0 rfl
theorem dX5_cut_201 : decode cX5_cut 201 = .ok (.iload_n 2, 1) := dc_at dkX5_cut_b11 1 rfl
theorem dX5_cut_202 : decode cX5_cut 202 = .ok (.iload_n 1, 1) := dc_at dkX5_cut_b11 2 rfl
theorem dX5_cut_203 : decode cX5_cut 203 = .ok (.isub, 1) := dc_at dkX5_cut_b11 3 rfl
theorem dX5_cut_204 : decode cX5_cut 204 = .ok (.isub, 1) := dc_at dkX5_cut_b11 4 rfl
theorem dX5_cut_205 : decode cX5_cut 205 = .ok (.iastore, 1) := dc_at dkX5_cut_b11 5 rfl
theorem dX5_cut_206 : decode cX5_cut 206 = .ok (.iload 4, 2) := dc_at dkX5_cut_b11 6 rfl
theorem dX5_cut_208 : decode cX5_cut 208 = .ok (.iload_n 3, 1) := dc_at dkX5_cut_b11 7 rfl
theorem dX5_cut_209 : decode cX5_cut 209 = .ok (.isub, 1) := dc_at dkX5_cut_b11 8 rfl
theorem dX5_cut_210 : decode cX5_cut 210 = .ok (.ireturn, 1) := dc_at dkX5_cut_b11 9 rfl
def drX5_holdsOf_b0 : List (Nat × (Instr × Nat)) := [(0, (.aload_n 0, 1)), (1, (.getfield 7, 3)), (4, (.sipush 366, 3)), (7, (.iaload, 1)), (8, (.aload_n 0, 1)), (9, (.getfield 17, 3)), (12, (.bipush 6, 2)), (14, (.iaload, 1)), (15, (.aload_n 0, 1)), (16, (.iload_n 1, 1))]
theorem dkX5_holdsOf_b0 : ((drX5_holdsOf_b0).all fun r => decide (decode cX5_holdsOf r.1 = .ok r.2)) = true := by decide +kernel
theorem dX5_holdsOf_0 : decode cX5_holdsOf 0 = .ok (.aload_n 0, 1) := dc_at dkX5_holdsOf_b0 0 rfl
theorem dX5_holdsOf_1 : decode cX5_holdsOf 1 = .ok (.getfield 7, 3) := dc_at dkX5_holdsOf_b0 1 rfl
theorem dX5_holdsOf_4 : decode cX5_holdsOf 4 = .ok (.sipush 366, 3) := dc_at dkX5_holdsOf_b0 2 rfl
theorem dX5_holdsOf_7 : decode cX5_holdsOf 7 = .ok (.iaload, 1) := dc_at dkX5_holdsOf_b0 3 rfl
theorem dX5_holdsOf_8 : decode cX5_holdsOf 8 = .ok (.aload_n 0, 1) := dc_at dkX5_holdsOf_b0 4 rfl
theorem dX5_holdsOf_9 : decode cX5_holdsOf 9 = .ok (.getfield 17, 3) := dc_at dkX5_holdsOf_b0 5 rfl
theorem dX5_holdsOf_12 : decode cX5_holdsOf 12 = .ok (.bipush 6, 2) := dc_at dkX5_holdsOf_b0 6 rfl
theorem dX5_holdsOf_14 : decode cX5_holdsOf 14 = .ok (.iaload, 1) := dc_at dkX5_holdsOf_b0 7 rfl
theorem dX5_holdsOf_15 : decode cX5_holdsOf 15 = .ok (.aload_n 0, 1) := dc_at dkX5_holdsOf_b0 8 rfl
theorem dX5_holdsOf_16 : decode cX5_holdsOf 16 = .ok (.iload_n 1, 1) := dc_at dkX5_holdsOf_b0 9 rfl
def drX5_holdsOf_b1 : List (Nat × (Instr × Nat)) := [(17, (.invokevirtual 176, 3)), (20, (.iadd, 1)), (21, (.idiv, 1)), (22, (.ireturn, 1))]
theorem dkX5_holdsOf_b1 : ((drX5_holdsOf_b1).all fun r => decide (decode cX5_holdsOf r.1 = .ok r.2)) = true := by decide +kernel
theorem dX5_holdsOf_17 : decode cX5_holdsOf 17 = .ok (.invokevirtual 176, 3) := dc_at dkX5_holdsOf_b1 0 rfl
theorem dX5_holdsOf_20 : decode cX5_holdsOf 20 = .ok (.iadd, 1) := dc_at dkX5_holdsOf_b1 1 rfl
theorem dX5_holdsOf_21 : decode cX5_holdsOf 21 = .ok (.idiv, 1) := dc_at dkX5_holdsOf_b1 2 rfl
theorem dX5_holdsOf_22 : decode cX5_holdsOf 22 = .ok (.ireturn, 1) := dc_at dkX5_holdsOf_b1 3 rfl
def drX5_holds_b0 : List (Nat × (Instr × Nat)) := [(0, (.iload_n 1, 1)), (1, (.i2l, 1)), (2, (.lconst 1, 1)), (3, (.ldc2_w 255, 3)), (6, (.invokestatic 75, 3)), (9, (.ifCond .eq 11, 3)), (12, (.aload_n 0, 1)), (13, (.iload_n 1, 1)), (14, (.invokevirtual 257, 3)), (17, (.goto 4, 3))]
theorem dkX5_holds_b0 : ((drX5_holds_b0).all fun r => decide (decode cX5_holds r.1 = .ok r.2)) = true := by decide +kernel
theorem dX5_holds_0 : decode cX5_holds 0 = .ok (.iload_n 1, 1) := dc_at dkX5_holds_b0 0 rfl
theorem dX5_holds_1 : decode cX5_holds 1 = .ok (.i2l, 1) := dc_at dkX5_holds_b0 1 rfl
theorem dX5_holds_2 : decode cX5_holds 2 = .ok (.lconst 1, 1) := dc_at dkX5_holds_b0 2 rfl
theorem dX5_holds_3 : decode cX5_holds 3 = .ok (.ldc2_w 255, 3) := dc_at dkX5_holds_b0 3 rfl
theorem dX5_holds_6 : decode cX5_holds 6 = .ok (.invokestatic 75, 3) := dc_at dkX5_holds_b0 4 rfl
theorem dX5_holds_9 : decode cX5_holds 9 = .ok (.ifCond .eq 11, 3) := dc_at dkX5_holds_b0 5 rfl
theorem dX5_holds_12 : decode cX5_holds 12 = .ok (.aload_n 0, 1) := dc_at dkX5_holds_b0 6 rfl
theorem dX5_holds_13 : decode cX5_holds 13 = .ok (.iload_n 1, 1) := dc_at dkX5_holds_b0 7 rfl
theorem dX5_holds_14 : decode cX5_holds 14 = .ok (.invokevirtual 257, 3) := dc_at dkX5_holds_b0 8 rfl
theorem dX5_holds_17 : decode cX5_holds 17 = .ok (.goto 4, 3) := dc_at dkX5_holds_b0 9 rfl
def drX5_holds_b1 : List (Nat × (Instr × Nat)) := [(20, (.iconst (-1), 1)), (21, (.ireturn, 1))]
theorem dkX5_holds_b1 : ((drX5_holds_b1).all fun r => decide (decode cX5_holds r.1 = .ok r.2)) = true := by decide +kernel
theorem dX5_holds_20 : decode cX5_holds 20 = .ok (.iconst (-1), 1) := dc_at dkX5_holds_b1 0 rfl
theorem dX5_holds_21 : decode cX5_holds 21 = .ok (.ireturn, 1) := dc_at dkX5_holds_b1 1 rfl
def drX5_most_b0 : List (Nat × (Instr × Nat)) := [(0, (.iload_n 1, 1)), (1, (.i2l, 1)), (2, (.lconst 0, 1)), (3, (.lconst 1, 1)), (4, (.invokestatic 75, 3)), (7, (.ifCond .ne 5, 3)), (10, (.iconst (-1), 1)), (11, (.ireturn, 1)), (12, (.iconst 1, 1)), (13, (.istore_n 2, 1))]
theorem dkX5_most_b0 : ((drX5_most_b0).all fun r => decide (decode cX5_most r.1 = .ok r.2)) = true := by decide +kernel
theorem dX5_most_0 : decode cX5_most 0 = .ok (.iload_n 1, 1) := dc_at dkX5_most_b0 0 rfl
theorem dX5_most_1 : decode cX5_most 1 = .ok (.i2l, 1) := dc_at dkX5_most_b0 1 rfl
theorem dX5_most_2 : decode cX5_most 2 = .ok (.lconst 0, 1) := dc_at dkX5_most_b0 2 rfl
theorem dX5_most_3 : decode cX5_most 3 = .ok (.lconst 1, 1) := dc_at dkX5_most_b0 3 rfl
theorem dX5_most_4 : decode cX5_most 4 = .ok (.invokestatic 75, 3) := dc_at dkX5_most_b0 4 rfl
theorem dX5_most_7 : decode cX5_most 7 = .ok (.ifCond .ne 5, 3) := dc_at dkX5_most_b0 5 rfl
theorem dX5_most_10 : decode cX5_most 10 = .ok (.iconst (-1), 1) := dc_at dkX5_most_b0 6 rfl
theorem dX5_most_11 : decode cX5_most 11 = .ok (.ireturn, 1) := dc_at dkX5_most_b0 7 rfl
theorem dX5_most_12 : decode cX5_most 12 = .ok (.iconst 1, 1) := dc_at dkX5_most_b0 8 rfl
theorem dX5_most_13 : decode cX5_most 13 = .ok (.istore_n 2, 1) := dc_at dkX5_most_b0 9 rfl
def drX5_most_b1 : List (Nat × (Instr × Nat)) := [(14, (.iconst 2, 1)), (15, (.istore_n 3, 1)), (16, (.iload_n 3, 1)), (17, (.bipush 100, 2)), (19, (.if_icmp .ge 32, 3)), (22, (.iload_n 3, 1)), (23, (.aload_n 0, 1)), (24, (.iload_n 3, 1)), (25, (.invokevirtual 257, 3)), (28, (.imul, 1))]
theorem dkX5_most_b1 : ((drX5_most_b1).all fun r => decide (decode cX5_most r.1 = .ok r.2)) = true := by decide +kernel
theorem dX5_most_14 : decode cX5_most 14 = .ok (.iconst 2, 1) := dc_at dkX5_most_b1 0 rfl
theorem dX5_most_15 : decode cX5_most 15 = .ok (.istore_n 3, 1) := dc_at dkX5_most_b1 1 rfl
theorem dX5_most_16 : decode cX5_most 16 = .ok (.iload_n 3, 1) := dc_at dkX5_most_b1 2 rfl
theorem dX5_most_17 : decode cX5_most 17 = .ok (.bipush 100, 2) := dc_at dkX5_most_b1 3 rfl
theorem dX5_most_19 : decode cX5_most 19 = .ok (.if_icmp .ge 32, 3) := dc_at dkX5_most_b1 4 rfl
theorem dX5_most_22 : decode cX5_most 22 = .ok (.iload_n 3, 1) := dc_at dkX5_most_b1 5 rfl
theorem dX5_most_23 : decode cX5_most 23 = .ok (.aload_n 0, 1) := dc_at dkX5_most_b1 6 rfl
theorem dX5_most_24 : decode cX5_most 24 = .ok (.iload_n 3, 1) := dc_at dkX5_most_b1 7 rfl
theorem dX5_most_25 : decode cX5_most 25 = .ok (.invokevirtual 257, 3) := dc_at dkX5_most_b1 8 rfl
theorem dX5_most_28 : decode cX5_most 28 = .ok (.imul, 1) := dc_at dkX5_most_b1 9 rfl
def drX5_most_b2 : List (Nat × (Instr × Nat)) := [(29, (.iload_n 2, 1)), (30, (.aload_n 0, 1)), (31, (.iload_n 2, 1)), (32, (.invokevirtual 257, 3)), (35, (.imul, 1)), (36, (.if_icmp .le 7, 3)), (39, (.iload_n 3, 1)), (40, (.goto 4, 3)), (43, (.iload_n 2, 1)), (44, (.istore_n 2, 1))]
theorem dkX5_most_b2 : ((drX5_most_b2).all fun r => decide (decode cX5_most r.1 = .ok r.2)) = true := by decide +kernel
theorem dX5_most_29 : decode cX5_most 29 = .ok (.iload_n 2, 1) := dc_at dkX5_most_b2 0 rfl
theorem dX5_most_30 : decode cX5_most 30 = .ok (.aload_n 0, 1) := dc_at dkX5_most_b2 1 rfl
theorem dX5_most_31 : decode cX5_most 31 = .ok (.iload_n 2, 1) := dc_at dkX5_most_b2 2 rfl
theorem dX5_most_32 : decode cX5_most 32 = .ok (.invokevirtual 257, 3) := dc_at dkX5_most_b2 3 rfl
theorem dX5_most_35 : decode cX5_most 35 = .ok (.imul, 1) := dc_at dkX5_most_b2 4 rfl
theorem dX5_most_36 : decode cX5_most 36 = .ok (.if_icmp .le 7, 3) := dc_at dkX5_most_b2 5 rfl
theorem dX5_most_39 : decode cX5_most 39 = .ok (.iload_n 3, 1) := dc_at dkX5_most_b2 6 rfl
theorem dX5_most_40 : decode cX5_most 40 = .ok (.goto 4, 3) := dc_at dkX5_most_b2 7 rfl
theorem dX5_most_43 : decode cX5_most 43 = .ok (.iload_n 2, 1) := dc_at dkX5_most_b2 8 rfl
theorem dX5_most_44 : decode cX5_most 44 = .ok (.istore_n 2, 1) := dc_at dkX5_most_b2 9 rfl
def drX5_most_b3 : List (Nat × (Instr × Nat)) := [(45, (.iinc 3 1, 3)), (48, (.goto (-32), 3)), (51, (.iload_n 1, 1)), (52, (.ifCond .ne 7, 3)), (55, (.iload_n 2, 1)), (56, (.goto 10, 3)), (59, (.iload_n 2, 1)), (60, (.aload_n 0, 1)), (61, (.iload_n 2, 1)), (62, (.invokevirtual 257, 3))]
theorem dkX5_most_b3 : ((drX5_most_b3).all fun r => decide (decode cX5_most r.1 = .ok r.2)) = true := by decide +kernel
theorem dX5_most_45 : decode cX5_most 45 = .ok (.iinc 3 1, 3) := dc_at dkX5_most_b3 0 rfl
theorem dX5_most_48 : decode cX5_most 48 = .ok (.goto (-32), 3) := dc_at dkX5_most_b3 1 rfl
theorem dX5_most_51 : decode cX5_most 51 = .ok (.iload_n 1, 1) := dc_at dkX5_most_b3 2 rfl
theorem dX5_most_52 : decode cX5_most 52 = .ok (.ifCond .ne 7, 3) := dc_at dkX5_most_b3 3 rfl
theorem dX5_most_55 : decode cX5_most 55 = .ok (.iload_n 2, 1) := dc_at dkX5_most_b3 4 rfl
theorem dX5_most_56 : decode cX5_most 56 = .ok (.goto 10, 3) := dc_at dkX5_most_b3 5 rfl
theorem dX5_most_59 : decode cX5_most 59 = .ok (.iload_n 2, 1) := dc_at dkX5_most_b3 6 rfl
theorem dX5_most_60 : decode cX5_most 60 = .ok (.aload_n 0, 1) := dc_at dkX5_most_b3 7 rfl
theorem dX5_most_61 : decode cX5_most 61 = .ok (.iload_n 2, 1) := dc_at dkX5_most_b3 8 rfl
theorem dX5_most_62 : decode cX5_most 62 = .ok (.invokevirtual 257, 3) := dc_at dkX5_most_b3 9 rfl
def drX5_most_b4 : List (Nat × (Instr × Nat)) := [(65, (.imul, 1)), (66, (.ireturn, 1))]
theorem dkX5_most_b4 : ((drX5_most_b4).all fun r => decide (decode cX5_most r.1 = .ok r.2)) = true := by decide +kernel
theorem dX5_most_65 : decode cX5_most 65 = .ok (.imul, 1) := dc_at dkX5_most_b4 0 rfl
theorem dX5_most_66 : decode cX5_most 66 = .ok (.ireturn, 1) := dc_at dkX5_most_b4 1 rfl
def drX5_streams_b0 : List (Nat × (Instr × Nat)) := [(0, (.iconst 0, 1)), (1, (.istore 5, 2)), (3, (.iconst 0, 1)), (4, (.istore 6, 2)), (6, (.iconst 1, 1)), (7, (.istore 7, 2)), (9, (.aload_n 0, 1)), (10, (.iconst 0, 1)), (11, (.putfield 260, 3)), (14, (.iload 6, 2))]
theorem dkX5_streams_b0 : ((drX5_streams_b0).all fun r => decide (decode cX5_streams r.1 = .ok r.2)) = true := by decide +kernel
theorem dX5_streams_0 : decode cX5_streams 0 = .ok (.iconst 0, 1) := dc_at dkX5_streams_b0 0 rfl
theorem dX5_streams_1 : decode cX5_streams 1 = .ok (.istore 5, 2) := dc_at dkX5_streams_b0 1 rfl
theorem dX5_streams_3 : decode cX5_streams 3 = .ok (.iconst 0, 1) := dc_at dkX5_streams_b0 2 rfl
theorem dX5_streams_4 : decode cX5_streams 4 = .ok (.istore 6, 2) := dc_at dkX5_streams_b0 3 rfl
theorem dX5_streams_6 : decode cX5_streams 6 = .ok (.iconst 1, 1) := dc_at dkX5_streams_b0 4 rfl
theorem dX5_streams_7 : decode cX5_streams 7 = .ok (.istore 7, 2) := dc_at dkX5_streams_b0 5 rfl
theorem dX5_streams_9 : decode cX5_streams 9 = .ok (.aload_n 0, 1) := dc_at dkX5_streams_b0 6 rfl
theorem dX5_streams_10 : decode cX5_streams 10 = .ok (.iconst 0, 1) := dc_at dkX5_streams_b0 7 rfl
theorem dX5_streams_11 : decode cX5_streams 11 = .ok (.putfield 260, 3) := dc_at dkX5_streams_b0 8 rfl
theorem dX5_streams_14 : decode cX5_streams 14 = .ok (.iload 6, 2) := dc_at dkX5_streams_b0 9 rfl
def drX5_streams_b1 : List (Nat × (Instr × Nat)) := [(16, (.iload_n 1, 1)), (17, (.if_icmp .ge 125, 3)), (20, (.iload 6, 2)), (22, (.iload 4, 2)), (24, (.iadd, 1)), (25, (.iload_n 1, 1)), (26, (.invokestatic 165, 3)), (29, (.iconst 1, 1)), (30, (.isub, 1)), (31, (.istore 8, 2))]
theorem dkX5_streams_b1 : ((drX5_streams_b1).all fun r => decide (decode cX5_streams r.1 = .ok r.2)) = true := by decide +kernel
theorem dX5_streams_16 : decode cX5_streams 16 = .ok (.iload_n 1, 1) := dc_at dkX5_streams_b1 0 rfl
theorem dX5_streams_17 : decode cX5_streams 17 = .ok (.if_icmp .ge 125, 3) := dc_at dkX5_streams_b1 1 rfl
theorem dX5_streams_20 : decode cX5_streams 20 = .ok (.iload 6, 2) := dc_at dkX5_streams_b1 2 rfl
theorem dX5_streams_22 : decode cX5_streams 22 = .ok (.iload 4, 2) := dc_at dkX5_streams_b1 3 rfl
theorem dX5_streams_24 : decode cX5_streams 24 = .ok (.iadd, 1) := dc_at dkX5_streams_b1 4 rfl
theorem dX5_streams_25 : decode cX5_streams 25 = .ok (.iload_n 1, 1) := dc_at dkX5_streams_b1 5 rfl
theorem dX5_streams_26 : decode cX5_streams 26 = .ok (.invokestatic 165, 3) := dc_at dkX5_streams_b1 6 rfl
theorem dX5_streams_29 : decode cX5_streams 29 = .ok (.iconst 1, 1) := dc_at dkX5_streams_b1 7 rfl
theorem dX5_streams_30 : decode cX5_streams 30 = .ok (.isub, 1) := dc_at dkX5_streams_b1 8 rfl
theorem dX5_streams_31 : decode cX5_streams 31 = .ok (.istore 8, 2) := dc_at dkX5_streams_b1 9 rfl
def drX5_streams_b2 : List (Nat × (Instr × Nat)) := [(33, (.iload 7, 2)), (35, (.ifCond .eq 19, 3)), (38, (.iload 8, 2)), (40, (.iload_n 3, 1)), (41, (.imul, 1)), (42, (.iload 5, 2)), (44, (.if_icmp .le 10, 3)), (47, (.iload 8, 2)), (49, (.iload_n 3, 1)), (50, (.imul, 1))]
theorem dkX5_streams_b2 : ((drX5_streams_b2).all fun r => decide (decode cX5_streams r.1 = .ok r.2)) = true := by decide +kernel
theorem dX5_streams_33 : decode cX5_streams 33 = .ok (.iload 7, 2) := dc_at dkX5_streams_b2 0 rfl
theorem dX5_streams_35 : decode cX5_streams 35 = .ok (.ifCond .eq 19, 3) := dc_at dkX5_streams_b2 1 rfl
theorem dX5_streams_38 : decode cX5_streams 38 = .ok (.iload 8, 2) := dc_at dkX5_streams_b2 2 rfl
theorem dX5_streams_40 : decode cX5_streams 40 = .ok (.iload_n 3, 1) := dc_at dkX5_streams_b2 3 rfl
theorem dX5_streams_41 : decode cX5_streams 41 = .ok (.imul, 1) := dc_at dkX5_streams_b2 4 rfl
theorem dX5_streams_42 : decode cX5_streams 42 = .ok (.iload 5, 2) := dc_at dkX5_streams_b2 5 rfl
theorem dX5_streams_44 : decode cX5_streams 44 = .ok (.if_icmp .le 10, 3) := dc_at dkX5_streams_b2 6 rfl
theorem dX5_streams_47 : decode cX5_streams 47 = .ok (.iload 8, 2) := dc_at dkX5_streams_b2 7 rfl
theorem dX5_streams_49 : decode cX5_streams 49 = .ok (.iload_n 3, 1) := dc_at dkX5_streams_b2 8 rfl
theorem dX5_streams_50 : decode cX5_streams 50 = .ok (.imul, 1) := dc_at dkX5_streams_b2 9 rfl
def drX5_streams_b3 : List (Nat × (Instr × Nat)) := [(51, (.goto 5, 3)), (54, (.iload 5, 2)), (56, (.istore 5, 2)), (58, (.iload 5, 2)), (60, (.aload_n 0, 1)), (61, (.getfield 17, 3)), (64, (.iconst 3, 1)), (65, (.iaload, 1)), (66, (.iload_n 2, 1)), (67, (.aload_n 0, 1))]
theorem dkX5_streams_b3 : ((drX5_streams_b3).all fun r => decide (decode cX5_streams r.1 = .ok r.2)) = true := by decide +kernel
theorem dX5_streams_51 : decode cX5_streams 51 = .ok (.goto 5, 3) := dc_at dkX5_streams_b3 0 rfl
theorem dX5_streams_54 : decode cX5_streams 54 = .ok (.iload 5, 2) := dc_at dkX5_streams_b3 1 rfl
theorem dX5_streams_56 : decode cX5_streams 56 = .ok (.istore 5, 2) := dc_at dkX5_streams_b3 2 rfl
theorem dX5_streams_58 : decode cX5_streams 58 = .ok (.iload 5, 2) := dc_at dkX5_streams_b3 3 rfl
theorem dX5_streams_60 : decode cX5_streams 60 = .ok (.aload_n 0, 1) := dc_at dkX5_streams_b3 4 rfl
theorem dX5_streams_61 : decode cX5_streams 61 = .ok (.getfield 17, 3) := dc_at dkX5_streams_b3 5 rfl
theorem dX5_streams_64 : decode cX5_streams 64 = .ok (.iconst 3, 1) := dc_at dkX5_streams_b3 6 rfl
theorem dX5_streams_65 : decode cX5_streams 65 = .ok (.iaload, 1) := dc_at dkX5_streams_b3 7 rfl
theorem dX5_streams_66 : decode cX5_streams 66 = .ok (.iload_n 2, 1) := dc_at dkX5_streams_b3 8 rfl
theorem dX5_streams_67 : decode cX5_streams 67 = .ok (.aload_n 0, 1) := dc_at dkX5_streams_b3 9 rfl
def drX5_streams_b4 : List (Nat × (Instr × Nat)) := [(68, (.getfield 17, 3)), (71, (.bipush 6, 2)), (73, (.iaload, 1)), (74, (.iadd, 1)), (75, (.imul, 1)), (76, (.iadd, 1)), (77, (.istore 5, 2)), (79, (.iinc 6 1, 3)), (82, (.iload 6, 2)), (84, (.iload_n 1, 1))]
theorem dkX5_streams_b4 : ((drX5_streams_b4).all fun r => decide (decode cX5_streams r.1 = .ok r.2)) = true := by decide +kernel
theorem dX5_streams_68 : decode cX5_streams 68 = .ok (.getfield 17, 3) := dc_at dkX5_streams_b4 0 rfl
theorem dX5_streams_71 : decode cX5_streams 71 = .ok (.bipush 6, 2) := dc_at dkX5_streams_b4 1 rfl
theorem dX5_streams_73 : decode cX5_streams 73 = .ok (.iaload, 1) := dc_at dkX5_streams_b4 2 rfl
theorem dX5_streams_74 : decode cX5_streams 74 = .ok (.iadd, 1) := dc_at dkX5_streams_b4 3 rfl
theorem dX5_streams_75 : decode cX5_streams 75 = .ok (.imul, 1) := dc_at dkX5_streams_b4 4 rfl
theorem dX5_streams_76 : decode cX5_streams 76 = .ok (.iadd, 1) := dc_at dkX5_streams_b4 5 rfl
theorem dX5_streams_77 : decode cX5_streams 77 = .ok (.istore 5, 2) := dc_at dkX5_streams_b4 6 rfl
theorem dX5_streams_79 : decode cX5_streams 79 = .ok (.iinc 6 1, 3) := dc_at dkX5_streams_b4 7 rfl
theorem dX5_streams_82 : decode cX5_streams 82 = .ok (.iload 6, 2) := dc_at dkX5_streams_b4 8 rfl
theorem dX5_streams_84 : decode cX5_streams 84 = .ok (.iload_n 1, 1) := dc_at dkX5_streams_b4 9 rfl
def drX5_streams_b5 : List (Nat × (Instr × Nat)) := [(85, (.if_icmp .ge 16, 3)), (88, (.iload 6, 2)), (90, (.iload_n 3, 1)), (91, (.imul, 1)), (92, (.iload 5, 2)), (94, (.if_icmp .le 7, 3)), (97, (.iconst 1, 1)), (98, (.goto 4, 3)), (101, (.iconst 0, 1)), (102, (.istore 7, 2))]
theorem dkX5_streams_b5 : ((drX5_streams_b5).all fun r => decide (decode cX5_streams r.1 = .ok r.2)) = true := by decide +kernel
theorem dX5_streams_85 : decode cX5_streams 85 = .ok (.if_icmp .ge 16, 3) := dc_at dkX5_streams_b5 0 rfl
theorem dX5_streams_88 : decode cX5_streams 88 = .ok (.iload 6, 2) := dc_at dkX5_streams_b5 1 rfl
theorem dX5_streams_90 : decode cX5_streams 90 = .ok (.iload_n 3, 1) := dc_at dkX5_streams_b5 2 rfl
theorem dX5_streams_91 : decode cX5_streams 91 = .ok (.imul, 1) := dc_at dkX5_streams_b5 3 rfl
theorem dX5_streams_92 : decode cX5_streams 92 = .ok (.iload 5, 2) := dc_at dkX5_streams_b5 4 rfl
theorem dX5_streams_94 : decode cX5_streams 94 = .ok (.if_icmp .le 7, 3) := dc_at dkX5_streams_b5 5 rfl
theorem dX5_streams_97 : decode cX5_streams 97 = .ok (.iconst 1, 1) := dc_at dkX5_streams_b5 6 rfl
theorem dX5_streams_98 : decode cX5_streams 98 = .ok (.goto 4, 3) := dc_at dkX5_streams_b5 7 rfl
theorem dX5_streams_101 : decode cX5_streams 101 = .ok (.iconst 0, 1) := dc_at dkX5_streams_b5 8 rfl
theorem dX5_streams_102 : decode cX5_streams 102 = .ok (.istore 7, 2) := dc_at dkX5_streams_b5 9 rfl
def drX5_streams_b6 : List (Nat × (Instr × Nat)) := [(104, (.aload_n 0, 1)), (105, (.dup, 1)), (106, (.getfield 260, 3)), (109, (.iload 7, 2)), (111, (.invokestatic 221, 3)), (114, (.iadd, 1)), (115, (.putfield 260, 3)), (118, (.iload 5, 2)), (120, (.iload 7, 2)), (122, (.ifCond .eq 13, 3))]
theorem dkX5_streams_b6 : ((drX5_streams_b6).all fun r => decide (decode cX5_streams r.1 = .ok r.2)) = true := by decide +kernel
theorem dX5_streams_104 : decode cX5_streams 104 = .ok (.aload_n 0, 1) := dc_at dkX5_streams_b6 0 rfl
theorem dX5_streams_105 : decode cX5_streams 105 = .ok (.dup, 1) := dc_at dkX5_streams_b6 1 rfl
theorem dX5_streams_106 : decode cX5_streams 106 = .ok (.getfield 260, 3) := dc_at dkX5_streams_b6 2 rfl
theorem dX5_streams_109 : decode cX5_streams 109 = .ok (.iload 7, 2) := dc_at dkX5_streams_b6 3 rfl
theorem dX5_streams_111 : decode cX5_streams 111 = .ok (.invokestatic 221, 3) := dc_at dkX5_streams_b6 4 rfl
theorem dX5_streams_114 : decode cX5_streams 114 = .ok (.iadd, 1) := dc_at dkX5_streams_b6 5 rfl
theorem dX5_streams_115 : decode cX5_streams 115 = .ok (.putfield 260, 3) := dc_at dkX5_streams_b6 6 rfl
theorem dX5_streams_118 : decode cX5_streams 118 = .ok (.iload 5, 2) := dc_at dkX5_streams_b6 7 rfl
theorem dX5_streams_120 : decode cX5_streams 120 = .ok (.iload 7, 2) := dc_at dkX5_streams_b6 8 rfl
theorem dX5_streams_122 : decode cX5_streams 122 = .ok (.ifCond .eq 13, 3) := dc_at dkX5_streams_b6 9 rfl
def drX5_streams_b7 : List (Nat × (Instr × Nat)) := [(125, (.aload_n 0, 1)), (126, (.getfield 17, 3)), (129, (.bipush 8, 2)), (131, (.iaload, 1)), (132, (.goto 4, 3)), (135, (.iconst 0, 1)), (136, (.iadd, 1)), (137, (.istore 5, 2)), (139, (.goto (-125), 3)), (142, (.iload 5, 2))]
theorem dkX5_streams_b7 : ((drX5_streams_b7).all fun r => decide (decode cX5_streams r.1 = .ok r.2)) = true := by decide +kernel
theorem dX5_streams_125 : decode cX5_streams 125 = .ok (.aload_n 0, 1) := dc_at dkX5_streams_b7 0 rfl
theorem dX5_streams_126 : decode cX5_streams 126 = .ok (.getfield 17, 3) := dc_at dkX5_streams_b7 1 rfl
theorem dX5_streams_129 : decode cX5_streams 129 = .ok (.bipush 8, 2) := dc_at dkX5_streams_b7 2 rfl
theorem dX5_streams_131 : decode cX5_streams 131 = .ok (.iaload, 1) := dc_at dkX5_streams_b7 3 rfl
theorem dX5_streams_132 : decode cX5_streams 132 = .ok (.goto 4, 3) := dc_at dkX5_streams_b7 4 rfl
theorem dX5_streams_135 : decode cX5_streams 135 = .ok (.iconst 0, 1) := dc_at dkX5_streams_b7 5 rfl
theorem dX5_streams_136 : decode cX5_streams 136 = .ok (.iadd, 1) := dc_at dkX5_streams_b7 6 rfl
theorem dX5_streams_137 : decode cX5_streams 137 = .ok (.istore 5, 2) := dc_at dkX5_streams_b7 7 rfl
theorem dX5_streams_139 : decode cX5_streams 139 = .ok (.goto (-125), 3) := dc_at dkX5_streams_b7 8 rfl
theorem dX5_streams_142 : decode cX5_streams 142 = .ok (.iload 5, 2) := dc_at dkX5_streams_b7 9 rfl
def drX5_streams_b8 : List (Nat × (Instr × Nat)) := [(144, (.ireturn, 1))]
theorem dkX5_streams_b8 : ((drX5_streams_b8).all fun r => decide (decode cX5_streams r.1 = .ok r.2)) = true := by decide +kernel
theorem dX5_streams_144 : decode cX5_streams 144 = .ok (.ireturn, 1) := dc_at dkX5_streams_b8 0 rfl
def drX5_isStream_b0 : List (Nat × (Instr × Nat)) := [(0, (.iload_n 0, 1)), (1, (.i2l, 1)), (2, (.lconst 1, 1)), (3, (.ldc2_w 255, 3)), (6, (.invokestatic 75, 3)), (9, (.ifCond .eq 31, 3)), (12, (.iload_n 1, 1)), (13, (.i2l, 1)), (14, (.lconst 1, 1)), (15, (.ldc2_w 255, 3))]
theorem dkX5_isStream_b0 : ((drX5_isStream_b0).all fun r => decide (decode cX5_isStream r.1 = .ok r.2)) = true := by decide +kernel
theorem dX5_isStream_0 : decode cX5_isStream 0 = .ok (.iload_n 0, 1) := dc_at dkX5_isStream_b0 0 rfl
theorem dX5_isStream_1 : decode cX5_isStream 1 = .ok (.i2l, 1) := dc_at dkX5_isStream_b0 1 rfl
theorem dX5_isStream_2 : decode cX5_isStream 2 = .ok (.lconst 1, 1) := dc_at dkX5_isStream_b0 2 rfl
theorem dX5_isStream_3 : decode cX5_isStream 3 = .ok (.ldc2_w 255, 3) := dc_at dkX5_isStream_b0 3 rfl
theorem dX5_isStream_6 : decode cX5_isStream 6 = .ok (.invokestatic 75, 3) := dc_at dkX5_isStream_b0 4 rfl
theorem dX5_isStream_9 : decode cX5_isStream 9 = .ok (.ifCond .eq 31, 3) := dc_at dkX5_isStream_b0 5 rfl
theorem dX5_isStream_12 : decode cX5_isStream 12 = .ok (.iload_n 1, 1) := dc_at dkX5_isStream_b0 6 rfl
theorem dX5_isStream_13 : decode cX5_isStream 13 = .ok (.i2l, 1) := dc_at dkX5_isStream_b0 7 rfl
theorem dX5_isStream_14 : decode cX5_isStream 14 = .ok (.lconst 1, 1) := dc_at dkX5_isStream_b0 8 rfl
theorem dX5_isStream_15 : decode cX5_isStream 15 = .ok (.ldc2_w 255, 3) := dc_at dkX5_isStream_b0 9 rfl
def drX5_isStream_b1 : List (Nat × (Instr × Nat)) := [(18, (.invokestatic 75, 3)), (21, (.ifCond .eq 19, 3)), (24, (.iload_n 2, 1)), (25, (.i2l, 1)), (26, (.lconst 0, 1)), (27, (.ldc2_w 263, 3)), (30, (.invokestatic 75, 3)), (33, (.ifCond .eq 7, 3)), (36, (.iconst 1, 1)), (37, (.goto 4, 3))]
theorem dkX5_isStream_b1 : ((drX5_isStream_b1).all fun r => decide (decode cX5_isStream r.1 = .ok r.2)) = true := by decide +kernel
theorem dX5_isStream_18 : decode cX5_isStream 18 = .ok (.invokestatic 75, 3) := dc_at dkX5_isStream_b1 0 rfl
theorem dX5_isStream_21 : decode cX5_isStream 21 = .ok (.ifCond .eq 19, 3) := dc_at dkX5_isStream_b1 1 rfl
theorem dX5_isStream_24 : decode cX5_isStream 24 = .ok (.iload_n 2, 1) := dc_at dkX5_isStream_b1 2 rfl
theorem dX5_isStream_25 : decode cX5_isStream 25 = .ok (.i2l, 1) := dc_at dkX5_isStream_b1 3 rfl
theorem dX5_isStream_26 : decode cX5_isStream 26 = .ok (.lconst 0, 1) := dc_at dkX5_isStream_b1 4 rfl
theorem dX5_isStream_27 : decode cX5_isStream 27 = .ok (.ldc2_w 263, 3) := dc_at dkX5_isStream_b1 5 rfl
theorem dX5_isStream_30 : decode cX5_isStream 30 = .ok (.invokestatic 75, 3) := dc_at dkX5_isStream_b1 6 rfl
theorem dX5_isStream_33 : decode cX5_isStream 33 = .ok (.ifCond .eq 7, 3) := dc_at dkX5_isStream_b1 7 rfl
theorem dX5_isStream_36 : decode cX5_isStream 36 = .ok (.iconst 1, 1) := dc_at dkX5_isStream_b1 8 rfl
theorem dX5_isStream_37 : decode cX5_isStream 37 = .ok (.goto 4, 3) := dc_at dkX5_isStream_b1 9 rfl
def drX5_isStream_b2 : List (Nat × (Instr × Nat)) := [(40, (.iconst 0, 1)), (41, (.ireturn, 1))]
theorem dkX5_isStream_b2 : ((drX5_isStream_b2).all fun r => decide (decode cX5_isStream r.1 = .ok r.2)) = true := by decide +kernel
theorem dX5_isStream_40 : decode cX5_isStream 40 = .ok (.iconst 0, 1) := dc_at dkX5_isStream_b2 0 rfl
theorem dX5_isStream_41 : decode cX5_isStream 41 = .ok (.ireturn, 1) := dc_at dkX5_isStream_b2 1 rfl
def drX5_stream_b0 : List (Nat × (Instr × Nat)) := [(0, (.iload_n 1, 1)), (1, (.iload_n 2, 1)), (2, (.iload_n 3, 1)), (3, (.invokestatic 265, 3)), (6, (.ifCond .eq 27, 3)), (9, (.iload 4, 2)), (11, (.i2l, 1)), (12, (.lconst 1, 1)), (13, (.ldc2_w 255, 3)), (16, (.invokestatic 75, 3))]
theorem dkX5_stream_b0 : ((drX5_stream_b0).all fun r => decide (decode cX5_stream r.1 = .ok r.2)) = true := by decide +kernel
theorem dX5_stream_0 : decode cX5_stream 0 = .ok (.iload_n 1, 1) := dc_at dkX5_stream_b0 0 rfl
theorem dX5_stream_1 : decode cX5_stream 1 = .ok (.iload_n 2, 1) := dc_at dkX5_stream_b0 1 rfl
theorem dX5_stream_2 : decode cX5_stream 2 = .ok (.iload_n 3, 1) := dc_at dkX5_stream_b0 2 rfl
theorem dX5_stream_3 : decode cX5_stream 3 = .ok (.invokestatic 265, 3) := dc_at dkX5_stream_b0 3 rfl
theorem dX5_stream_6 : decode cX5_stream 6 = .ok (.ifCond .eq 27, 3) := dc_at dkX5_stream_b0 4 rfl
theorem dX5_stream_9 : decode cX5_stream 9 = .ok (.iload 4, 2) := dc_at dkX5_stream_b0 5 rfl
theorem dX5_stream_11 : decode cX5_stream 11 = .ok (.i2l, 1) := dc_at dkX5_stream_b0 6 rfl
theorem dX5_stream_12 : decode cX5_stream 12 = .ok (.lconst 1, 1) := dc_at dkX5_stream_b0 7 rfl
theorem dX5_stream_13 : decode cX5_stream 13 = .ok (.ldc2_w 255, 3) := dc_at dkX5_stream_b0 8 rfl
theorem dX5_stream_16 : decode cX5_stream 16 = .ok (.invokestatic 75, 3) := dc_at dkX5_stream_b0 9 rfl
def drX5_stream_b1 : List (Nat × (Instr × Nat)) := [(19, (.ifCond .eq 14, 3)), (22, (.iload 5, 2)), (24, (.i2l, 1)), (25, (.lconst 0, 1)), (26, (.lconst 1, 1)), (27, (.invokestatic 75, 3)), (30, (.ifCond .ne 5, 3)), (33, (.iconst (-1), 1)), (34, (.ireturn, 1)), (35, (.aload_n 0, 1))]
theorem dkX5_stream_b1 : ((drX5_stream_b1).all fun r => decide (decode cX5_stream r.1 = .ok r.2)) = true := by decide +kernel
theorem dX5_stream_19 : decode cX5_stream 19 = .ok (.ifCond .eq 14, 3) := dc_at dkX5_stream_b1 0 rfl
theorem dX5_stream_22 : decode cX5_stream 22 = .ok (.iload 5, 2) := dc_at dkX5_stream_b1 1 rfl
theorem dX5_stream_24 : decode cX5_stream 24 = .ok (.i2l, 1) := dc_at dkX5_stream_b1 2 rfl
theorem dX5_stream_25 : decode cX5_stream 25 = .ok (.lconst 0, 1) := dc_at dkX5_stream_b1 3 rfl
theorem dX5_stream_26 : decode cX5_stream 26 = .ok (.lconst 1, 1) := dc_at dkX5_stream_b1 4 rfl
theorem dX5_stream_27 : decode cX5_stream 27 = .ok (.invokestatic 75, 3) := dc_at dkX5_stream_b1 5 rfl
theorem dX5_stream_30 : decode cX5_stream 30 = .ok (.ifCond .ne 5, 3) := dc_at dkX5_stream_b1 6 rfl
theorem dX5_stream_33 : decode cX5_stream 33 = .ok (.iconst (-1), 1) := dc_at dkX5_stream_b1 7 rfl
theorem dX5_stream_34 : decode cX5_stream 34 = .ok (.ireturn, 1) := dc_at dkX5_stream_b1 8 rfl
theorem dX5_stream_35 : decode cX5_stream 35 = .ok (.aload_n 0, 1) := dc_at dkX5_stream_b1 9 rfl
def drX5_stream_b2 : List (Nat × (Instr × Nat)) := [(36, (.iload_n 1, 1)), (37, (.iload_n 2, 1)), (38, (.iload_n 3, 1)), (39, (.iload 4, 2)), (41, (.invokevirtual 269, 3)), (44, (.istore 6, 2)), (46, (.iload 5, 2)), (48, (.ifCond .ne 8, 3)), (51, (.iload 6, 2)), (53, (.goto 7, 3))]
theorem dkX5_stream_b2 : ((drX5_stream_b2).all fun r => decide (decode cX5_stream r.1 = .ok r.2)) = true := by decide +kernel
theorem dX5_stream_36 : decode cX5_stream 36 = .ok (.iload_n 1, 1) := dc_at dkX5_stream_b2 0 rfl
theorem dX5_stream_37 : decode cX5_stream 37 = .ok (.iload_n 2, 1) := dc_at dkX5_stream_b2 1 rfl
theorem dX5_stream_38 : decode cX5_stream 38 = .ok (.iload_n 3, 1) := dc_at dkX5_stream_b2 2 rfl
theorem dX5_stream_39 : decode cX5_stream 39 = .ok (.iload 4, 2) := dc_at dkX5_stream_b2 3 rfl
theorem dX5_stream_41 : decode cX5_stream 41 = .ok (.invokevirtual 269, 3) := dc_at dkX5_stream_b2 4 rfl
theorem dX5_stream_44 : decode cX5_stream 44 = .ok (.istore 6, 2) := dc_at dkX5_stream_b2 5 rfl
theorem dX5_stream_46 : decode cX5_stream 46 = .ok (.iload 5, 2) := dc_at dkX5_stream_b2 6 rfl
theorem dX5_stream_48 : decode cX5_stream 48 = .ok (.ifCond .ne 8, 3) := dc_at dkX5_stream_b2 7 rfl
theorem dX5_stream_51 : decode cX5_stream 51 = .ok (.iload 6, 2) := dc_at dkX5_stream_b2 8 rfl
theorem dX5_stream_53 : decode cX5_stream 53 = .ok (.goto 7, 3) := dc_at dkX5_stream_b2 9 rfl
def drX5_stream_b3 : List (Nat × (Instr × Nat)) := [(56, (.aload_n 0, 1)), (57, (.getfield 260, 3)), (60, (.ireturn, 1))]
theorem dkX5_stream_b3 : ((drX5_stream_b3).all fun r => decide (decode cX5_stream r.1 = .ok r.2)) = true := by decide +kernel
theorem dX5_stream_56 : decode cX5_stream 56 = .ok (.aload_n 0, 1) := dc_at dkX5_stream_b3 0 rfl
theorem dX5_stream_57 : decode cX5_stream 57 = .ok (.getfield 260, 3) := dc_at dkX5_stream_b3 1 rfl
theorem dX5_stream_60 : decode cX5_stream 60 = .ok (.ireturn, 1) := dc_at dkX5_stream_b3 2 rfl
def drX5_buffer_b0 : List (Nat × (Instr × Nat)) := [(0, (.iload_n 1, 1)), (1, (.iload_n 2, 1)), (2, (.iload_n 3, 1)), (3, (.invokestatic 265, 3)), (6, (.ifCond .eq 14, 3)), (9, (.iload 4, 2)), (11, (.i2l, 1)), (12, (.lconst 0, 1)), (13, (.lconst 1, 1)), (14, (.invokestatic 75, 3))]
theorem dkX5_buffer_b0 : ((drX5_buffer_b0).all fun r => decide (decode cX5_buffer r.1 = .ok r.2)) = true := by decide +kernel
theorem dX5_buffer_0 : decode cX5_buffer 0 = .ok (.iload_n 1, 1) := dc_at dkX5_buffer_b0 0 rfl
theorem dX5_buffer_1 : decode cX5_buffer 1 = .ok (.iload_n 2, 1) := dc_at dkX5_buffer_b0 1 rfl
theorem dX5_buffer_2 : decode cX5_buffer 2 = .ok (.iload_n 3, 1) := dc_at dkX5_buffer_b0 2 rfl
theorem dX5_buffer_3 : decode cX5_buffer 3 = .ok (.invokestatic 265, 3) := dc_at dkX5_buffer_b0 3 rfl
theorem dX5_buffer_6 : decode cX5_buffer 6 = .ok (.ifCond .eq 14, 3) := dc_at dkX5_buffer_b0 4 rfl
theorem dX5_buffer_9 : decode cX5_buffer 9 = .ok (.iload 4, 2) := dc_at dkX5_buffer_b0 5 rfl
theorem dX5_buffer_11 : decode cX5_buffer 11 = .ok (.i2l, 1) := dc_at dkX5_buffer_b0 6 rfl
theorem dX5_buffer_12 : decode cX5_buffer 12 = .ok (.lconst 0, 1) := dc_at dkX5_buffer_b0 7 rfl
theorem dX5_buffer_13 : decode cX5_buffer 13 = .ok (.lconst 1, 1) := dc_at dkX5_buffer_b0 8 rfl
theorem dX5_buffer_14 : decode cX5_buffer 14 = .ok (.invokestatic 75, 3) := dc_at dkX5_buffer_b0 9 rfl
def drX5_buffer_b1 : List (Nat × (Instr × Nat)) := [(17, (.ifCond .ne 5, 3)), (20, (.iconst (-1), 1)), (21, (.ireturn, 1)), (22, (.iconst 1, 1)), (23, (.istore 5, 2)), (25, (.aload_n 0, 1)), (26, (.iload_n 1, 1)), (27, (.iload_n 2, 1)), (28, (.iload_n 3, 1)), (29, (.iconst 1, 1))]
theorem dkX5_buffer_b1 : ((drX5_buffer_b1).all fun r => decide (decode cX5_buffer r.1 = .ok r.2)) = true := by decide +kernel
theorem dX5_buffer_17 : decode cX5_buffer 17 = .ok (.ifCond .ne 5, 3) := dc_at dkX5_buffer_b1 0 rfl
theorem dX5_buffer_20 : decode cX5_buffer 20 = .ok (.iconst (-1), 1) := dc_at dkX5_buffer_b1 1 rfl
theorem dX5_buffer_21 : decode cX5_buffer 21 = .ok (.ireturn, 1) := dc_at dkX5_buffer_b1 2 rfl
theorem dX5_buffer_22 : decode cX5_buffer 22 = .ok (.iconst 1, 1) := dc_at dkX5_buffer_b1 3 rfl
theorem dX5_buffer_23 : decode cX5_buffer 23 = .ok (.istore 5, 2) := dc_at dkX5_buffer_b1 4 rfl
theorem dX5_buffer_25 : decode cX5_buffer 25 = .ok (.aload_n 0, 1) := dc_at dkX5_buffer_b1 5 rfl
theorem dX5_buffer_26 : decode cX5_buffer 26 = .ok (.iload_n 1, 1) := dc_at dkX5_buffer_b1 6 rfl
theorem dX5_buffer_27 : decode cX5_buffer 27 = .ok (.iload_n 2, 1) := dc_at dkX5_buffer_b1 7 rfl
theorem dX5_buffer_28 : decode cX5_buffer 28 = .ok (.iload_n 3, 1) := dc_at dkX5_buffer_b1 8 rfl
theorem dX5_buffer_29 : decode cX5_buffer 29 = .ok (.iconst 1, 1) := dc_at dkX5_buffer_b1 9 rfl
def drX5_buffer_b2 : List (Nat × (Instr × Nat)) := [(30, (.invokevirtual 269, 3)), (33, (.istore 6, 2)), (35, (.iconst 2, 1)), (36, (.istore 7, 2)), (38, (.iload 7, 2)), (40, (.iload_n 1, 1)), (41, (.if_icmp .gt 45, 3)), (44, (.aload_n 0, 1)), (45, (.iload_n 1, 1)), (46, (.iload_n 2, 1))]
theorem dkX5_buffer_b2 : ((drX5_buffer_b2).all fun r => decide (decode cX5_buffer r.1 = .ok r.2)) = true := by decide +kernel
theorem dX5_buffer_30 : decode cX5_buffer 30 = .ok (.invokevirtual 269, 3) := dc_at dkX5_buffer_b2 0 rfl
theorem dX5_buffer_33 : decode cX5_buffer 33 = .ok (.istore 6, 2) := dc_at dkX5_buffer_b2 1 rfl
theorem dX5_buffer_35 : decode cX5_buffer 35 = .ok (.iconst 2, 1) := dc_at dkX5_buffer_b2 2 rfl
theorem dX5_buffer_36 : decode cX5_buffer 36 = .ok (.istore 7, 2) := dc_at dkX5_buffer_b2 3 rfl
theorem dX5_buffer_38 : decode cX5_buffer 38 = .ok (.iload 7, 2) := dc_at dkX5_buffer_b2 4 rfl
theorem dX5_buffer_40 : decode cX5_buffer 40 = .ok (.iload_n 1, 1) := dc_at dkX5_buffer_b2 5 rfl
theorem dX5_buffer_41 : decode cX5_buffer 41 = .ok (.if_icmp .gt 45, 3) := dc_at dkX5_buffer_b2 6 rfl
theorem dX5_buffer_44 : decode cX5_buffer 44 = .ok (.aload_n 0, 1) := dc_at dkX5_buffer_b2 7 rfl
theorem dX5_buffer_45 : decode cX5_buffer 45 = .ok (.iload_n 1, 1) := dc_at dkX5_buffer_b2 8 rfl
theorem dX5_buffer_46 : decode cX5_buffer 46 = .ok (.iload_n 2, 1) := dc_at dkX5_buffer_b2 9 rfl
def drX5_buffer_b3 : List (Nat × (Instr × Nat)) := [(47, (.iload_n 3, 1)), (48, (.iload 7, 2)), (50, (.invokevirtual 269, 3)), (53, (.istore 8, 2)), (55, (.iload 8, 2)), (57, (.iload 6, 2)), (59, (.if_icmp .ge 8, 3)), (62, (.iload 7, 2)), (64, (.goto 5, 3)), (67, (.iload 5, 2))]
theorem dkX5_buffer_b3 : ((drX5_buffer_b3).all fun r => decide (decode cX5_buffer r.1 = .ok r.2)) = true := by decide +kernel
theorem dX5_buffer_47 : decode cX5_buffer 47 = .ok (.iload_n 3, 1) := dc_at dkX5_buffer_b3 0 rfl
theorem dX5_buffer_48 : decode cX5_buffer 48 = .ok (.iload 7, 2) := dc_at dkX5_buffer_b3 1 rfl
theorem dX5_buffer_50 : decode cX5_buffer 50 = .ok (.invokevirtual 269, 3) := dc_at dkX5_buffer_b3 2 rfl
theorem dX5_buffer_53 : decode cX5_buffer 53 = .ok (.istore 8, 2) := dc_at dkX5_buffer_b3 3 rfl
theorem dX5_buffer_55 : decode cX5_buffer 55 = .ok (.iload 8, 2) := dc_at dkX5_buffer_b3 4 rfl
theorem dX5_buffer_57 : decode cX5_buffer 57 = .ok (.iload 6, 2) := dc_at dkX5_buffer_b3 5 rfl
theorem dX5_buffer_59 : decode cX5_buffer 59 = .ok (.if_icmp .ge 8, 3) := dc_at dkX5_buffer_b3 6 rfl
theorem dX5_buffer_62 : decode cX5_buffer 62 = .ok (.iload 7, 2) := dc_at dkX5_buffer_b3 7 rfl
theorem dX5_buffer_64 : decode cX5_buffer 64 = .ok (.goto 5, 3) := dc_at dkX5_buffer_b3 8 rfl
theorem dX5_buffer_67 : decode cX5_buffer 67 = .ok (.iload 5, 2) := dc_at dkX5_buffer_b3 9 rfl
def drX5_buffer_b4 : List (Nat × (Instr × Nat)) := [(69, (.istore 5, 2)), (71, (.iload 8, 2)), (73, (.iload 6, 2)), (75, (.invokestatic 165, 3)), (78, (.istore 6, 2)), (80, (.iinc 7 1, 3)), (83, (.goto (-45), 3)), (86, (.iload 4, 2)), (88, (.ifCond .ne 8, 3)), (91, (.iload 5, 2))]
theorem dkX5_buffer_b4 : ((drX5_buffer_b4).all fun r => decide (decode cX5_buffer r.1 = .ok r.2)) = true := by decide +kernel
theorem dX5_buffer_69 : decode cX5_buffer 69 = .ok (.istore 5, 2) := dc_at dkX5_buffer_b4 0 rfl
theorem dX5_buffer_71 : decode cX5_buffer 71 = .ok (.iload 8, 2) := dc_at dkX5_buffer_b4 1 rfl
theorem dX5_buffer_73 : decode cX5_buffer 73 = .ok (.iload 6, 2) := dc_at dkX5_buffer_b4 2 rfl
theorem dX5_buffer_75 : decode cX5_buffer 75 = .ok (.invokestatic 165, 3) := dc_at dkX5_buffer_b4 3 rfl
theorem dX5_buffer_78 : decode cX5_buffer 78 = .ok (.istore 6, 2) := dc_at dkX5_buffer_b4 4 rfl
theorem dX5_buffer_80 : decode cX5_buffer 80 = .ok (.iinc 7 1, 3) := dc_at dkX5_buffer_b4 5 rfl
theorem dX5_buffer_83 : decode cX5_buffer 83 = .ok (.goto (-45), 3) := dc_at dkX5_buffer_b4 6 rfl
theorem dX5_buffer_86 : decode cX5_buffer 86 = .ok (.iload 4, 2) := dc_at dkX5_buffer_b4 7 rfl
theorem dX5_buffer_88 : decode cX5_buffer 88 = .ok (.ifCond .ne 8, 3) := dc_at dkX5_buffer_b4 8 rfl
theorem dX5_buffer_91 : decode cX5_buffer 91 = .ok (.iload 5, 2) := dc_at dkX5_buffer_b4 9 rfl
def drX5_buffer_b5 : List (Nat × (Instr × Nat)) := [(93, (.goto 5, 3)), (96, (.iload 6, 2)), (98, (.ireturn, 1))]
theorem dkX5_buffer_b5 : ((drX5_buffer_b5).all fun r => decide (decode cX5_buffer r.1 = .ok r.2)) = true := by decide +kernel
theorem dX5_buffer_93 : decode cX5_buffer 93 = .ok (.goto 5, 3) := dc_at dkX5_buffer_b5 0 rfl
theorem dX5_buffer_96 : decode cX5_buffer 96 = .ok (.iload 6, 2) := dc_at dkX5_buffer_b5 1 rfl
theorem dX5_buffer_98 : decode cX5_buffer 98 = .ok (.ireturn, 1) := dc_at dkX5_buffer_b5 2 rfl
def drX5_saw_b0 : List (Nat × (Instr × Nat)) := [(0, (.iload_n 1, 1)), (1, (.i2l, 1)), (2, (.lconst 0, 1)), (3, (.ldc2_w 273, 3)), (6, (.invokestatic 75, 3)), (9, (.ifCond .eq 15, 3)), (12, (.iload_n 2, 1)), (13, (.i2l, 1)), (14, (.lconst 0, 1)), (15, (.ldc2_w 263, 3))]
theorem dkX5_saw_b0 : ((drX5_saw_b0).all fun r => decide (decode cX5_saw r.1 = .ok r.2)) = true := by decide +kernel
theorem dX5_saw_0 : decode cX5_saw 0 = .ok (.iload_n 1, 1) := dc_at dkX5_saw_b0 0 rfl
theorem dX5_saw_1 : decode cX5_saw 1 = .ok (.i2l, 1) := dc_at dkX5_saw_b0 1 rfl
theorem dX5_saw_2 : decode cX5_saw 2 = .ok (.lconst 0, 1) := dc_at dkX5_saw_b0 2 rfl
theorem dX5_saw_3 : decode cX5_saw 3 = .ok (.ldc2_w 273, 3) := dc_at dkX5_saw_b0 3 rfl
theorem dX5_saw_6 : decode cX5_saw 6 = .ok (.invokestatic 75, 3) := dc_at dkX5_saw_b0 4 rfl
theorem dX5_saw_9 : decode cX5_saw 9 = .ok (.ifCond .eq 15, 3) := dc_at dkX5_saw_b0 5 rfl
theorem dX5_saw_12 : decode cX5_saw 12 = .ok (.iload_n 2, 1) := dc_at dkX5_saw_b0 6 rfl
theorem dX5_saw_13 : decode cX5_saw 13 = .ok (.i2l, 1) := dc_at dkX5_saw_b0 7 rfl
theorem dX5_saw_14 : decode cX5_saw 14 = .ok (.lconst 0, 1) := dc_at dkX5_saw_b0 8 rfl
theorem dX5_saw_15 : decode cX5_saw 15 = .ok (.ldc2_w 263, 3) := dc_at dkX5_saw_b0 9 rfl
def drX5_saw_b1 : List (Nat × (Instr × Nat)) := [(18, (.invokestatic 75, 3)), (21, (.ifCond .ne 5, 3)), (24, (.iconst (-1), 1)), (25, (.ireturn, 1)), (26, (.aload_n 0, 1)), (27, (.getfield 7, 3)), (30, (.sipush 341, 3)), (33, (.iaload, 1)), (34, (.bipush 12, 2)), (36, (.if_icmp .ne 6, 3))]
theorem dkX5_saw_b1 : ((drX5_saw_b1).all fun r => decide (decode cX5_saw r.1 = .ok r.2)) = true := by decide +kernel
theorem dX5_saw_18 : decode cX5_saw 18 = .ok (.invokestatic 75, 3) := dc_at dkX5_saw_b1 0 rfl
theorem dX5_saw_21 : decode cX5_saw 21 = .ok (.ifCond .ne 5, 3) := dc_at dkX5_saw_b1 1 rfl
theorem dX5_saw_24 : decode cX5_saw 24 = .ok (.iconst (-1), 1) := dc_at dkX5_saw_b1 2 rfl
theorem dX5_saw_25 : decode cX5_saw 25 = .ok (.ireturn, 1) := dc_at dkX5_saw_b1 3 rfl
theorem dX5_saw_26 : decode cX5_saw 26 = .ok (.aload_n 0, 1) := dc_at dkX5_saw_b1 4 rfl
theorem dX5_saw_27 : decode cX5_saw 27 = .ok (.getfield 7, 3) := dc_at dkX5_saw_b1 5 rfl
theorem dX5_saw_30 : decode cX5_saw 30 = .ok (.sipush 341, 3) := dc_at dkX5_saw_b1 6 rfl
theorem dX5_saw_33 : decode cX5_saw 33 = .ok (.iaload, 1) := dc_at dkX5_saw_b1 7 rfl
theorem dX5_saw_34 : decode cX5_saw 34 = .ok (.bipush 12, 2) := dc_at dkX5_saw_b1 8 rfl
theorem dX5_saw_36 : decode cX5_saw 36 = .ok (.if_icmp .ne 6, 3) := dc_at dkX5_saw_b1 9 rfl
def drX5_saw_b2 : List (Nat × (Instr × Nat)) := [(39, (.bipush (-3), 2)), (41, (.ireturn, 1)), (42, (.aload_n 0, 1)), (43, (.getfield 7, 3)), (46, (.sipush 342, 3)), (49, (.iconst 2, 1)), (50, (.aload_n 0, 1)), (51, (.getfield 7, 3)), (54, (.sipush 341, 3)), (57, (.iaload, 1))]
theorem dkX5_saw_b2 : ((drX5_saw_b2).all fun r => decide (decode cX5_saw r.1 = .ok r.2)) = true := by decide +kernel
theorem dX5_saw_39 : decode cX5_saw 39 = .ok (.bipush (-3), 2) := dc_at dkX5_saw_b2 0 rfl
theorem dX5_saw_41 : decode cX5_saw 41 = .ok (.ireturn, 1) := dc_at dkX5_saw_b2 1 rfl
theorem dX5_saw_42 : decode cX5_saw 42 = .ok (.aload_n 0, 1) := dc_at dkX5_saw_b2 2 rfl
theorem dX5_saw_43 : decode cX5_saw 43 = .ok (.getfield 7, 3) := dc_at dkX5_saw_b2 3 rfl
theorem dX5_saw_46 : decode cX5_saw 46 = .ok (.sipush 342, 3) := dc_at dkX5_saw_b2 4 rfl
theorem dX5_saw_49 : decode cX5_saw 49 = .ok (.iconst 2, 1) := dc_at dkX5_saw_b2 5 rfl
theorem dX5_saw_50 : decode cX5_saw 50 = .ok (.aload_n 0, 1) := dc_at dkX5_saw_b2 6 rfl
theorem dX5_saw_51 : decode cX5_saw 51 = .ok (.getfield 7, 3) := dc_at dkX5_saw_b2 7 rfl
theorem dX5_saw_54 : decode cX5_saw 54 = .ok (.sipush 341, 3) := dc_at dkX5_saw_b2 8 rfl
theorem dX5_saw_57 : decode cX5_saw 57 = .ok (.iaload, 1) := dc_at dkX5_saw_b2 9 rfl
def drX5_saw_b3 : List (Nat × (Instr × Nat)) := [(58, (.imul, 1)), (59, (.iadd, 1)), (60, (.iload_n 1, 1)), (61, (.iastore, 1)), (62, (.aload_n 0, 1)), (63, (.getfield 7, 3)), (66, (.sipush 342, 3)), (69, (.iconst 2, 1)), (70, (.aload_n 0, 1)), (71, (.getfield 7, 3))]
theorem dkX5_saw_b3 : ((drX5_saw_b3).all fun r => decide (decode cX5_saw r.1 = .ok r.2)) = true := by decide +kernel
theorem dX5_saw_58 : decode cX5_saw 58 = .ok (.imul, 1) := dc_at dkX5_saw_b3 0 rfl
theorem dX5_saw_59 : decode cX5_saw 59 = .ok (.iadd, 1) := dc_at dkX5_saw_b3 1 rfl
theorem dX5_saw_60 : decode cX5_saw 60 = .ok (.iload_n 1, 1) := dc_at dkX5_saw_b3 2 rfl
theorem dX5_saw_61 : decode cX5_saw 61 = .ok (.iastore, 1) := dc_at dkX5_saw_b3 3 rfl
theorem dX5_saw_62 : decode cX5_saw 62 = .ok (.aload_n 0, 1) := dc_at dkX5_saw_b3 4 rfl
theorem dX5_saw_63 : decode cX5_saw 63 = .ok (.getfield 7, 3) := dc_at dkX5_saw_b3 5 rfl
theorem dX5_saw_66 : decode cX5_saw 66 = .ok (.sipush 342, 3) := dc_at dkX5_saw_b3 6 rfl
theorem dX5_saw_69 : decode cX5_saw 69 = .ok (.iconst 2, 1) := dc_at dkX5_saw_b3 7 rfl
theorem dX5_saw_70 : decode cX5_saw 70 = .ok (.aload_n 0, 1) := dc_at dkX5_saw_b3 8 rfl
theorem dX5_saw_71 : decode cX5_saw 71 = .ok (.getfield 7, 3) := dc_at dkX5_saw_b3 9 rfl
def drX5_saw_b4 : List (Nat × (Instr × Nat)) := [(74, (.sipush 341, 3)), (77, (.iaload, 1)), (78, (.imul, 1)), (79, (.iadd, 1)), (80, (.iconst 1, 1)), (81, (.iadd, 1)), (82, (.iload_n 2, 1)), (83, (.iastore, 1)), (84, (.aload_n 0, 1)), (85, (.getfield 7, 3))]
theorem dkX5_saw_b4 : ((drX5_saw_b4).all fun r => decide (decode cX5_saw r.1 = .ok r.2)) = true := by decide +kernel
theorem dX5_saw_74 : decode cX5_saw 74 = .ok (.sipush 341, 3) := dc_at dkX5_saw_b4 0 rfl
theorem dX5_saw_77 : decode cX5_saw 77 = .ok (.iaload, 1) := dc_at dkX5_saw_b4 1 rfl
theorem dX5_saw_78 : decode cX5_saw 78 = .ok (.imul, 1) := dc_at dkX5_saw_b4 2 rfl
theorem dX5_saw_79 : decode cX5_saw 79 = .ok (.iadd, 1) := dc_at dkX5_saw_b4 3 rfl
theorem dX5_saw_80 : decode cX5_saw 80 = .ok (.iconst 1, 1) := dc_at dkX5_saw_b4 4 rfl
theorem dX5_saw_81 : decode cX5_saw 81 = .ok (.iadd, 1) := dc_at dkX5_saw_b4 5 rfl
theorem dX5_saw_82 : decode cX5_saw 82 = .ok (.iload_n 2, 1) := dc_at dkX5_saw_b4 6 rfl
theorem dX5_saw_83 : decode cX5_saw 83 = .ok (.iastore, 1) := dc_at dkX5_saw_b4 7 rfl
theorem dX5_saw_84 : decode cX5_saw 84 = .ok (.aload_n 0, 1) := dc_at dkX5_saw_b4 8 rfl
theorem dX5_saw_85 : decode cX5_saw 85 = .ok (.getfield 7, 3) := dc_at dkX5_saw_b4 9 rfl
def drX5_saw_b5 : List (Nat × (Instr × Nat)) := [(88, (.sipush 341, 3)), (91, (.dup2, 1)), (92, (.iaload, 1)), (93, (.iconst 1, 1)), (94, (.iadd, 1)), (95, (.iastore, 1)), (96, (.aload_n 0, 1)), (97, (.getfield 7, 3)), (100, (.sipush 341, 3)), (103, (.iaload, 1))]
theorem dkX5_saw_b5 : ((drX5_saw_b5).all fun r => decide (decode cX5_saw r.1 = .ok r.2)) = true := by decide +kernel
theorem dX5_saw_88 : decode cX5_saw 88 = .ok (.sipush 341, 3) := dc_at dkX5_saw_b5 0 rfl
theorem dX5_saw_91 : decode cX5_saw 91 = .ok (.dup2, 1) := dc_at dkX5_saw_b5 1 rfl
theorem dX5_saw_92 : decode cX5_saw 92 = .ok (.iaload, 1) := dc_at dkX5_saw_b5 2 rfl
theorem dX5_saw_93 : decode cX5_saw 93 = .ok (.iconst 1, 1) := dc_at dkX5_saw_b5 3 rfl
theorem dX5_saw_94 : decode cX5_saw 94 = .ok (.iadd, 1) := dc_at dkX5_saw_b5 4 rfl
theorem dX5_saw_95 : decode cX5_saw 95 = .ok (.iastore, 1) := dc_at dkX5_saw_b5 5 rfl
theorem dX5_saw_96 : decode cX5_saw 96 = .ok (.aload_n 0, 1) := dc_at dkX5_saw_b5 6 rfl
theorem dX5_saw_97 : decode cX5_saw 97 = .ok (.getfield 7, 3) := dc_at dkX5_saw_b5 7 rfl
theorem dX5_saw_100 : decode cX5_saw 100 = .ok (.sipush 341, 3) := dc_at dkX5_saw_b5 8 rfl
theorem dX5_saw_103 : decode cX5_saw 103 = .ok (.iaload, 1) := dc_at dkX5_saw_b5 9 rfl
def drX5_saw_b6 : List (Nat × (Instr × Nat)) := [(104, (.ireturn, 1))]
theorem dkX5_saw_b6 : ((drX5_saw_b6).all fun r => decide (decode cX5_saw r.1 = .ok r.2)) = true := by decide +kernel
theorem dX5_saw_104 : decode cX5_saw 104 = .ok (.ireturn, 1) := dc_at dkX5_saw_b6 0 rfl
def drX5_forget_b0 : List (Nat × (Instr × Nat)) := [(0, (.aload_n 0, 1)), (1, (.getfield 7, 3)), (4, (.sipush 341, 3)), (7, (.iaload, 1)), (8, (.istore_n 1, 1)), (9, (.aload_n 0, 1)), (10, (.getfield 7, 3)), (13, (.sipush 341, 3)), (16, (.iconst 0, 1)), (17, (.iastore, 1))]
theorem dkX5_forget_b0 : ((drX5_forget_b0).all fun r => decide (decode cX5_forget r.1 = .ok r.2)) = true := by decide +kernel
theorem dX5_forget_0 : decode cX5_forget 0 = .ok (.aload_n 0, 1) := dc_at dkX5_forget_b0 0 rfl
theorem dX5_forget_1 : decode cX5_forget 1 = .ok (.getfield 7, 3) := dc_at dkX5_forget_b0 1 rfl
theorem dX5_forget_4 : decode cX5_forget 4 = .ok (.sipush 341, 3) := dc_at dkX5_forget_b0 2 rfl
theorem dX5_forget_7 : decode cX5_forget 7 = .ok (.iaload, 1) := dc_at dkX5_forget_b0 3 rfl
theorem dX5_forget_8 : decode cX5_forget 8 = .ok (.istore_n 1, 1) := dc_at dkX5_forget_b0 4 rfl
theorem dX5_forget_9 : decode cX5_forget 9 = .ok (.aload_n 0, 1) := dc_at dkX5_forget_b0 5 rfl
theorem dX5_forget_10 : decode cX5_forget 10 = .ok (.getfield 7, 3) := dc_at dkX5_forget_b0 6 rfl
theorem dX5_forget_13 : decode cX5_forget 13 = .ok (.sipush 341, 3) := dc_at dkX5_forget_b0 7 rfl
theorem dX5_forget_16 : decode cX5_forget 16 = .ok (.iconst 0, 1) := dc_at dkX5_forget_b0 8 rfl
theorem dX5_forget_17 : decode cX5_forget 17 = .ok (.iastore, 1) := dc_at dkX5_forget_b0 9 rfl
def drX5_forget_b1 : List (Nat × (Instr × Nat)) := [(18, (.iload_n 1, 1)), (19, (.ireturn, 1))]
theorem dkX5_forget_b1 : ((drX5_forget_b1).all fun r => decide (decode cX5_forget r.1 = .ok r.2)) = true := by decide +kernel
theorem dX5_forget_18 : decode cX5_forget 18 = .ok (.iload_n 1, 1) := dc_at dkX5_forget_b1 0 rfl
theorem dX5_forget_19 : decode cX5_forget 19 = .ok (.ireturn, 1) := dc_at dkX5_forget_b1 1 rfl
def drX5_canBe_b0 : List (Nat × (Instr × Nat)) := [(0, (.iconst 0, 1)), (1, (.istore_n 3, 1)), (2, (.iload_n 3, 1)), (3, (.aload_n 0, 1)), (4, (.getfield 7, 3)), (7, (.sipush 341, 3)), (10, (.iaload, 1)), (11, (.if_icmp .ge 45, 3)), (14, (.aload_n 0, 1)), (15, (.getfield 7, 3))]
theorem dkX5_canBe_b0 : ((drX5_canBe_b0).all fun r => decide (decode cX5_canBe r.1 = .ok r.2)) = true := by decide +kernel
theorem dX5_canBe_0 : decode cX5_canBe 0 = .ok (.iconst 0, 1) := dc_at dkX5_canBe_b0 0 rfl
theorem dX5_canBe_1 : decode cX5_canBe 1 = .ok (.istore_n 3, 1) := dc_at dkX5_canBe_b0 1 rfl
theorem dX5_canBe_2 : decode cX5_canBe 2 = .ok (.iload_n 3, 1) := dc_at dkX5_canBe_b0 2 rfl
theorem dX5_canBe_3 : decode cX5_canBe 3 = .ok (.aload_n 0, 1) := dc_at dkX5_canBe_b0 3 rfl
theorem dX5_canBe_4 : decode cX5_canBe 4 = .ok (.getfield 7, 3) := dc_at dkX5_canBe_b0 4 rfl
theorem dX5_canBe_7 : decode cX5_canBe 7 = .ok (.sipush 341, 3) := dc_at dkX5_canBe_b0 5 rfl
theorem dX5_canBe_10 : decode cX5_canBe 10 = .ok (.iaload, 1) := dc_at dkX5_canBe_b0 6 rfl
theorem dX5_canBe_11 : decode cX5_canBe 11 = .ok (.if_icmp .ge 45, 3) := dc_at dkX5_canBe_b0 7 rfl
theorem dX5_canBe_14 : decode cX5_canBe 14 = .ok (.aload_n 0, 1) := dc_at dkX5_canBe_b0 8 rfl
theorem dX5_canBe_15 : decode cX5_canBe 15 = .ok (.getfield 7, 3) := dc_at dkX5_canBe_b0 9 rfl
def drX5_canBe_b1 : List (Nat × (Instr × Nat)) := [(18, (.sipush 342, 3)), (21, (.iconst 2, 1)), (22, (.iload_n 3, 1)), (23, (.imul, 1)), (24, (.iadd, 1)), (25, (.iconst 1, 1)), (26, (.iadd, 1)), (27, (.iaload, 1)), (28, (.iload_n 1, 1)), (29, (.iload_n 2, 1))]
theorem dkX5_canBe_b1 : ((drX5_canBe_b1).all fun r => decide (decode cX5_canBe r.1 = .ok r.2)) = true := by decide +kernel
theorem dX5_canBe_18 : decode cX5_canBe 18 = .ok (.sipush 342, 3) := dc_at dkX5_canBe_b1 0 rfl
theorem dX5_canBe_21 : decode cX5_canBe 21 = .ok (.iconst 2, 1) := dc_at dkX5_canBe_b1 1 rfl
theorem dX5_canBe_22 : decode cX5_canBe 22 = .ok (.iload_n 3, 1) := dc_at dkX5_canBe_b1 2 rfl
theorem dX5_canBe_23 : decode cX5_canBe 23 = .ok (.imul, 1) := dc_at dkX5_canBe_b1 3 rfl
theorem dX5_canBe_24 : decode cX5_canBe 24 = .ok (.iadd, 1) := dc_at dkX5_canBe_b1 4 rfl
theorem dX5_canBe_25 : decode cX5_canBe 25 = .ok (.iconst 1, 1) := dc_at dkX5_canBe_b1 5 rfl
theorem dX5_canBe_26 : decode cX5_canBe 26 = .ok (.iadd, 1) := dc_at dkX5_canBe_b1 6 rfl
theorem dX5_canBe_27 : decode cX5_canBe 27 = .ok (.iaload, 1) := dc_at dkX5_canBe_b1 7 rfl
theorem dX5_canBe_28 : decode cX5_canBe 28 = .ok (.iload_n 1, 1) := dc_at dkX5_canBe_b1 8 rfl
theorem dX5_canBe_29 : decode cX5_canBe 29 = .ok (.iload_n 2, 1) := dc_at dkX5_canBe_b1 9 rfl
def drX5_canBe_b2 : List (Nat × (Instr × Nat)) := [(30, (.invokestatic 145, 3)), (33, (.aload_n 0, 1)), (34, (.getfield 7, 3)), (37, (.sipush 342, 3)), (40, (.iconst 2, 1)), (41, (.iload_n 3, 1)), (42, (.imul, 1)), (43, (.iadd, 1)), (44, (.iaload, 1)), (45, (.if_icmp .eq 5, 3))]
theorem dkX5_canBe_b2 : ((drX5_canBe_b2).all fun r => decide (decode cX5_canBe r.1 = .ok r.2)) = true := by decide +kernel
theorem dX5_canBe_30 : decode cX5_canBe 30 = .ok (.invokestatic 145, 3) := dc_at dkX5_canBe_b2 0 rfl
theorem dX5_canBe_33 : decode cX5_canBe 33 = .ok (.aload_n 0, 1) := dc_at dkX5_canBe_b2 1 rfl
theorem dX5_canBe_34 : decode cX5_canBe 34 = .ok (.getfield 7, 3) := dc_at dkX5_canBe_b2 2 rfl
theorem dX5_canBe_37 : decode cX5_canBe 37 = .ok (.sipush 342, 3) := dc_at dkX5_canBe_b2 3 rfl
theorem dX5_canBe_40 : decode cX5_canBe 40 = .ok (.iconst 2, 1) := dc_at dkX5_canBe_b2 4 rfl
theorem dX5_canBe_41 : decode cX5_canBe 41 = .ok (.iload_n 3, 1) := dc_at dkX5_canBe_b2 5 rfl
theorem dX5_canBe_42 : decode cX5_canBe 42 = .ok (.imul, 1) := dc_at dkX5_canBe_b2 6 rfl
theorem dX5_canBe_43 : decode cX5_canBe 43 = .ok (.iadd, 1) := dc_at dkX5_canBe_b2 7 rfl
theorem dX5_canBe_44 : decode cX5_canBe 44 = .ok (.iaload, 1) := dc_at dkX5_canBe_b2 8 rfl
theorem dX5_canBe_45 : decode cX5_canBe 45 = .ok (.if_icmp .eq 5, 3) := dc_at dkX5_canBe_b2 9 rfl
def drX5_canBe_b3 : List (Nat × (Instr × Nat)) := [(48, (.iconst 0, 1)), (49, (.ireturn, 1)), (50, (.iinc 3 1, 3)), (53, (.goto (-51), 3)), (56, (.iconst 1, 1)), (57, (.ireturn, 1))]
theorem dkX5_canBe_b3 : ((drX5_canBe_b3).all fun r => decide (decode cX5_canBe r.1 = .ok r.2)) = true := by decide +kernel
theorem dX5_canBe_48 : decode cX5_canBe 48 = .ok (.iconst 0, 1) := dc_at dkX5_canBe_b3 0 rfl
theorem dX5_canBe_49 : decode cX5_canBe 49 = .ok (.ireturn, 1) := dc_at dkX5_canBe_b3 1 rfl
theorem dX5_canBe_50 : decode cX5_canBe 50 = .ok (.iinc 3 1, 3) := dc_at dkX5_canBe_b3 2 rfl
theorem dX5_canBe_53 : decode cX5_canBe 53 = .ok (.goto (-51), 3) := dc_at dkX5_canBe_b3 3 rfl
theorem dX5_canBe_56 : decode cX5_canBe 56 = .ok (.iconst 1, 1) := dc_at dkX5_canBe_b3 4 rfl
theorem dX5_canBe_57 : decode cX5_canBe 57 = .ok (.ireturn, 1) := dc_at dkX5_canBe_b3 5 rfl
def drX5_fits_b0 : List (Nat × (Instr × Nat)) := [(0, (.iload_n 1, 1)), (1, (.i2l, 1)), (2, (.lconst 0, 1)), (3, (.ldc2_w 168, 3)), (6, (.invokestatic 75, 3)), (9, (.ifCond .ne 5, 3)), (12, (.iconst (-1), 1)), (13, (.ireturn, 1)), (14, (.iconst 0, 1)), (15, (.istore_n 2, 1))]
theorem dkX5_fits_b0 : ((drX5_fits_b0).all fun r => decide (decode cX5_fits r.1 = .ok r.2)) = true := by decide +kernel
theorem dX5_fits_0 : decode cX5_fits 0 = .ok (.iload_n 1, 1) := dc_at dkX5_fits_b0 0 rfl
theorem dX5_fits_1 : decode cX5_fits 1 = .ok (.i2l, 1) := dc_at dkX5_fits_b0 1 rfl
theorem dX5_fits_2 : decode cX5_fits 2 = .ok (.lconst 0, 1) := dc_at dkX5_fits_b0 2 rfl
theorem dX5_fits_3 : decode cX5_fits 3 = .ok (.ldc2_w 168, 3) := dc_at dkX5_fits_b0 3 rfl
theorem dX5_fits_6 : decode cX5_fits 6 = .ok (.invokestatic 75, 3) := dc_at dkX5_fits_b0 4 rfl
theorem dX5_fits_9 : decode cX5_fits 9 = .ok (.ifCond .ne 5, 3) := dc_at dkX5_fits_b0 5 rfl
theorem dX5_fits_12 : decode cX5_fits 12 = .ok (.iconst (-1), 1) := dc_at dkX5_fits_b0 6 rfl
theorem dX5_fits_13 : decode cX5_fits 13 = .ok (.ireturn, 1) := dc_at dkX5_fits_b0 7 rfl
theorem dX5_fits_14 : decode cX5_fits 14 = .ok (.iconst 0, 1) := dc_at dkX5_fits_b0 8 rfl
theorem dX5_fits_15 : decode cX5_fits 15 = .ok (.istore_n 2, 1) := dc_at dkX5_fits_b0 9 rfl
def drX5_fits_b1 : List (Nat × (Instr × Nat)) := [(16, (.bipush (-4), 2)), (18, (.istore_n 3, 1)), (19, (.iconst 5, 1)), (20, (.istore 4, 2)), (22, (.iload 4, 2)), (24, (.bipush 100, 2)), (26, (.if_icmp .ge 58, 3)), (29, (.iconst 1, 1)), (30, (.istore 5, 2)), (32, (.iload 5, 2))]
theorem dkX5_fits_b1 : ((drX5_fits_b1).all fun r => decide (decode cX5_fits r.1 = .ok r.2)) = true := by decide +kernel
theorem dX5_fits_16 : decode cX5_fits 16 = .ok (.bipush (-4), 2) := dc_at dkX5_fits_b1 0 rfl
theorem dX5_fits_18 : decode cX5_fits 18 = .ok (.istore_n 3, 1) := dc_at dkX5_fits_b1 1 rfl
theorem dX5_fits_19 : decode cX5_fits 19 = .ok (.iconst 5, 1) := dc_at dkX5_fits_b1 2 rfl
theorem dX5_fits_20 : decode cX5_fits 20 = .ok (.istore 4, 2) := dc_at dkX5_fits_b1 3 rfl
theorem dX5_fits_22 : decode cX5_fits 22 = .ok (.iload 4, 2) := dc_at dkX5_fits_b1 4 rfl
theorem dX5_fits_24 : decode cX5_fits 24 = .ok (.bipush 100, 2) := dc_at dkX5_fits_b1 5 rfl
theorem dX5_fits_26 : decode cX5_fits 26 = .ok (.if_icmp .ge 58, 3) := dc_at dkX5_fits_b1 6 rfl
theorem dX5_fits_29 : decode cX5_fits 29 = .ok (.iconst 1, 1) := dc_at dkX5_fits_b1 7 rfl
theorem dX5_fits_30 : decode cX5_fits 30 = .ok (.istore 5, 2) := dc_at dkX5_fits_b1 8 rfl
theorem dX5_fits_32 : decode cX5_fits 32 = .ok (.iload 5, 2) := dc_at dkX5_fits_b1 9 rfl
def drX5_fits_b2 : List (Nat × (Instr × Nat)) := [(34, (.bipush 10, 2)), (36, (.if_icmp .ge 42, 3)), (39, (.aload_n 0, 1)), (40, (.iload 4, 2)), (42, (.iload 5, 2)), (44, (.invokevirtual 275, 3)), (47, (.ifCond .eq 25, 3)), (50, (.iload_n 3, 1)), (51, (.bipush (-4), 2)), (53, (.if_icmp .ne 14, 3))]
theorem dkX5_fits_b2 : ((drX5_fits_b2).all fun r => decide (decode cX5_fits r.1 = .ok r.2)) = true := by decide +kernel
theorem dX5_fits_34 : decode cX5_fits 34 = .ok (.bipush 10, 2) := dc_at dkX5_fits_b2 0 rfl
theorem dX5_fits_36 : decode cX5_fits 36 = .ok (.if_icmp .ge 42, 3) := dc_at dkX5_fits_b2 1 rfl
theorem dX5_fits_39 : decode cX5_fits 39 = .ok (.aload_n 0, 1) := dc_at dkX5_fits_b2 2 rfl
theorem dX5_fits_40 : decode cX5_fits 40 = .ok (.iload 4, 2) := dc_at dkX5_fits_b2 3 rfl
theorem dX5_fits_42 : decode cX5_fits 42 = .ok (.iload 5, 2) := dc_at dkX5_fits_b2 4 rfl
theorem dX5_fits_44 : decode cX5_fits 44 = .ok (.invokevirtual 275, 3) := dc_at dkX5_fits_b2 5 rfl
theorem dX5_fits_47 : decode cX5_fits 47 = .ok (.ifCond .eq 25, 3) := dc_at dkX5_fits_b2 6 rfl
theorem dX5_fits_50 : decode cX5_fits 50 = .ok (.iload_n 3, 1) := dc_at dkX5_fits_b2 7 rfl
theorem dX5_fits_51 : decode cX5_fits 51 = .ok (.bipush (-4), 2) := dc_at dkX5_fits_b2 8 rfl
theorem dX5_fits_53 : decode cX5_fits 53 = .ok (.if_icmp .ne 14, 3) := dc_at dkX5_fits_b2 9 rfl
def drX5_fits_b3 : List (Nat × (Instr × Nat)) := [(56, (.bipush 10, 2)), (58, (.iload 4, 2)), (60, (.imul, 1)), (61, (.iload 5, 2)), (63, (.iadd, 1)), (64, (.goto 4, 3)), (67, (.iload_n 3, 1)), (68, (.istore_n 3, 1)), (69, (.iinc 2 1, 3)), (72, (.iinc 5 1, 3))]
theorem dkX5_fits_b3 : ((drX5_fits_b3).all fun r => decide (decode cX5_fits r.1 = .ok r.2)) = true := by decide +kernel
theorem dX5_fits_56 : decode cX5_fits 56 = .ok (.bipush 10, 2) := dc_at dkX5_fits_b3 0 rfl
theorem dX5_fits_58 : decode cX5_fits 58 = .ok (.iload 4, 2) := dc_at dkX5_fits_b3 1 rfl
theorem dX5_fits_60 : decode cX5_fits 60 = .ok (.imul, 1) := dc_at dkX5_fits_b3 2 rfl
theorem dX5_fits_61 : decode cX5_fits 61 = .ok (.iload 5, 2) := dc_at dkX5_fits_b3 3 rfl
theorem dX5_fits_63 : decode cX5_fits 63 = .ok (.iadd, 1) := dc_at dkX5_fits_b3 4 rfl
theorem dX5_fits_64 : decode cX5_fits 64 = .ok (.goto 4, 3) := dc_at dkX5_fits_b3 5 rfl
theorem dX5_fits_67 : decode cX5_fits 67 = .ok (.iload_n 3, 1) := dc_at dkX5_fits_b3 6 rfl
theorem dX5_fits_68 : decode cX5_fits 68 = .ok (.istore_n 3, 1) := dc_at dkX5_fits_b3 7 rfl
theorem dX5_fits_69 : decode cX5_fits 69 = .ok (.iinc 2 1, 3) := dc_at dkX5_fits_b3 8 rfl
theorem dX5_fits_72 : decode cX5_fits 72 = .ok (.iinc 5 1, 3) := dc_at dkX5_fits_b3 9 rfl
def drX5_fits_b4 : List (Nat × (Instr × Nat)) := [(75, (.goto (-43), 3)), (78, (.iinc 4 1, 3)), (81, (.goto (-59), 3)), (84, (.iload_n 1, 1)), (85, (.ifCond .ne 7, 3)), (88, (.iload_n 2, 1)), (89, (.goto 30, 3)), (92, (.iload_n 3, 1)), (93, (.bipush (-4), 2)), (95, (.if_icmp .ne 8, 3))]
theorem dkX5_fits_b4 : ((drX5_fits_b4).all fun r => decide (decode cX5_fits r.1 = .ok r.2)) = true := by decide +kernel
theorem dX5_fits_75 : decode cX5_fits 75 = .ok (.goto (-43), 3) := dc_at dkX5_fits_b4 0 rfl
theorem dX5_fits_78 : decode cX5_fits 78 = .ok (.iinc 4 1, 3) := dc_at dkX5_fits_b4 1 rfl
theorem dX5_fits_81 : decode cX5_fits 81 = .ok (.goto (-59), 3) := dc_at dkX5_fits_b4 2 rfl
theorem dX5_fits_84 : decode cX5_fits 84 = .ok (.iload_n 1, 1) := dc_at dkX5_fits_b4 3 rfl
theorem dX5_fits_85 : decode cX5_fits 85 = .ok (.ifCond .ne 7, 3) := dc_at dkX5_fits_b4 4 rfl
theorem dX5_fits_88 : decode cX5_fits 88 = .ok (.iload_n 2, 1) := dc_at dkX5_fits_b4 5 rfl
theorem dX5_fits_89 : decode cX5_fits 89 = .ok (.goto 30, 3) := dc_at dkX5_fits_b4 6 rfl
theorem dX5_fits_92 : decode cX5_fits 92 = .ok (.iload_n 3, 1) := dc_at dkX5_fits_b4 7 rfl
theorem dX5_fits_93 : decode cX5_fits 93 = .ok (.bipush (-4), 2) := dc_at dkX5_fits_b4 8 rfl
theorem dX5_fits_95 : decode cX5_fits 95 = .ok (.if_icmp .ne 8, 3) := dc_at dkX5_fits_b4 9 rfl
def drX5_fits_b5 : List (Nat × (Instr × Nat)) := [(98, (.bipush (-4), 2)), (100, (.goto 19, 3)), (103, (.iload_n 1, 1)), (104, (.iconst 1, 1)), (105, (.if_icmp .ne 10, 3)), (108, (.iload_n 3, 1)), (109, (.bipush 10, 2)), (111, (.idiv, 1)), (112, (.goto 7, 3)), (115, (.iload_n 3, 1))]
theorem dkX5_fits_b5 : ((drX5_fits_b5).all fun r => decide (decode cX5_fits r.1 = .ok r.2)) = true := by decide +kernel
theorem dX5_fits_98 : decode cX5_fits 98 = .ok (.bipush (-4), 2) := dc_at dkX5_fits_b5 0 rfl
theorem dX5_fits_100 : decode cX5_fits 100 = .ok (.goto 19, 3) := dc_at dkX5_fits_b5 1 rfl
theorem dX5_fits_103 : decode cX5_fits 103 = .ok (.iload_n 1, 1) := dc_at dkX5_fits_b5 2 rfl
theorem dX5_fits_104 : decode cX5_fits 104 = .ok (.iconst 1, 1) := dc_at dkX5_fits_b5 3 rfl
theorem dX5_fits_105 : decode cX5_fits 105 = .ok (.if_icmp .ne 10, 3) := dc_at dkX5_fits_b5 4 rfl
theorem dX5_fits_108 : decode cX5_fits 108 = .ok (.iload_n 3, 1) := dc_at dkX5_fits_b5 5 rfl
theorem dX5_fits_109 : decode cX5_fits 109 = .ok (.bipush 10, 2) := dc_at dkX5_fits_b5 6 rfl
theorem dX5_fits_111 : decode cX5_fits 111 = .ok (.idiv, 1) := dc_at dkX5_fits_b5 7 rfl
theorem dX5_fits_112 : decode cX5_fits 112 = .ok (.goto 7, 3) := dc_at dkX5_fits_b5 8 rfl
theorem dX5_fits_115 : decode cX5_fits 115 = .ok (.iload_n 3, 1) := dc_at dkX5_fits_b5 9 rfl
def drX5_fits_b6 : List (Nat × (Instr × Nat)) := [(116, (.bipush 10, 2)), (118, (.irem, 1)), (119, (.ireturn, 1))]
theorem dkX5_fits_b6 : ((drX5_fits_b6).all fun r => decide (decode cX5_fits r.1 = .ok r.2)) = true := by decide +kernel
theorem dX5_fits_116 : decode cX5_fits 116 = .ok (.bipush 10, 2) := dc_at dkX5_fits_b6 0 rfl
theorem dX5_fits_118 : decode cX5_fits 118 = .ok (.irem, 1) := dc_at dkX5_fits_b6 1 rfl
theorem dX5_fits_119 : decode cX5_fits 119 = .ok (.ireturn, 1) := dc_at dkX5_fits_b6 2 rfl
def drX5_copies_b0 : List (Nat × (Instr × Nat)) := [(0, (.iconst 0, 1)), (1, (.istore_n 3, 1)), (2, (.iload_n 3, 1)), (3, (.sipush 400, 3)), (6, (.if_icmp .ge 25, 3)), (9, (.aload_n 0, 1)), (10, (.getfield 7, 3)), (13, (.iload_n 1, 1)), (14, (.iload_n 3, 1)), (15, (.iadd, 1))]
theorem dkX5_copies_b0 : ((drX5_copies_b0).all fun r => decide (decode cX5_copies r.1 = .ok r.2)) = true := by decide +kernel
theorem dX5_copies_0 : decode cX5_copies 0 = .ok (.iconst 0, 1) := dc_at dkX5_copies_b0 0 rfl
theorem dX5_copies_1 : decode cX5_copies 1 = .ok (.istore_n 3, 1) := dc_at dkX5_copies_b0 1 rfl
theorem dX5_copies_2 : decode cX5_copies 2 = .ok (.iload_n 3, 1) := dc_at dkX5_copies_b0 2 rfl
theorem dX5_copies_3 : decode cX5_copies 3 = .ok (.sipush 400, 3) := dc_at dkX5_copies_b0 3 rfl
theorem dX5_copies_6 : decode cX5_copies 6 = .ok (.if_icmp .ge 25, 3) := dc_at dkX5_copies_b0 4 rfl
theorem dX5_copies_9 : decode cX5_copies 9 = .ok (.aload_n 0, 1) := dc_at dkX5_copies_b0 5 rfl
theorem dX5_copies_10 : decode cX5_copies 10 = .ok (.getfield 7, 3) := dc_at dkX5_copies_b0 6 rfl
theorem dX5_copies_13 : decode cX5_copies 13 = .ok (.iload_n 1, 1) := dc_at dkX5_copies_b0 7 rfl
theorem dX5_copies_14 : decode cX5_copies 14 = .ok (.iload_n 3, 1) := dc_at dkX5_copies_b0 8 rfl
theorem dX5_copies_15 : decode cX5_copies 15 = .ok (.iadd, 1) := dc_at dkX5_copies_b0 9 rfl
def drX5_copies_b1 : List (Nat × (Instr × Nat)) := [(16, (.aload_n 0, 1)), (17, (.getfield 7, 3)), (20, (.iload_n 2, 1)), (21, (.iload_n 3, 1)), (22, (.iadd, 1)), (23, (.iaload, 1)), (24, (.iastore, 1)), (25, (.iinc 3 1, 3)), (28, (.goto (-26), 3)), (31, (.return_, 1))]
theorem dkX5_copies_b1 : ((drX5_copies_b1).all fun r => decide (decode cX5_copies r.1 = .ok r.2)) = true := by decide +kernel
theorem dX5_copies_16 : decode cX5_copies 16 = .ok (.aload_n 0, 1) := dc_at dkX5_copies_b1 0 rfl
theorem dX5_copies_17 : decode cX5_copies 17 = .ok (.getfield 7, 3) := dc_at dkX5_copies_b1 1 rfl
theorem dX5_copies_20 : decode cX5_copies 20 = .ok (.iload_n 2, 1) := dc_at dkX5_copies_b1 2 rfl
theorem dX5_copies_21 : decode cX5_copies 21 = .ok (.iload_n 3, 1) := dc_at dkX5_copies_b1 3 rfl
theorem dX5_copies_22 : decode cX5_copies 22 = .ok (.iadd, 1) := dc_at dkX5_copies_b1 4 rfl
theorem dX5_copies_23 : decode cX5_copies 23 = .ok (.iaload, 1) := dc_at dkX5_copies_b1 5 rfl
theorem dX5_copies_24 : decode cX5_copies 24 = .ok (.iastore, 1) := dc_at dkX5_copies_b1 6 rfl
theorem dX5_copies_25 : decode cX5_copies 25 = .ok (.iinc 3 1, 3) := dc_at dkX5_copies_b1 7 rfl
theorem dX5_copies_28 : decode cX5_copies 28 = .ok (.goto (-26), 3) := dc_at dkX5_copies_b1 8 rfl
theorem dX5_copies_31 : decode cX5_copies 31 = .ok (.return_, 1) := dc_at dkX5_copies_b1 9 rfl
def drX5_keep_b0 : List (Nat × (Instr × Nat)) := [(0, (.iload_n 1, 1)), (1, (.i2l, 1)), (2, (.lconst 0, 1)), (3, (.lconst 1, 1)), (4, (.invokestatic 75, 3)), (7, (.ifCond .ne 5, 3)), (10, (.iconst (-1), 1)), (11, (.ireturn, 1)), (12, (.aload_n 0, 1)), (13, (.getfield 13, 3))]
theorem dkX5_keep_b0 : ((drX5_keep_b0).all fun r => decide (decode cX5_keep r.1 = .ok r.2)) = true := by decide +kernel
theorem dX5_keep_0 : decode cX5_keep 0 = .ok (.iload_n 1, 1) := dc_at dkX5_keep_b0 0 rfl
theorem dX5_keep_1 : decode cX5_keep 1 = .ok (.i2l, 1) := dc_at dkX5_keep_b0 1 rfl
theorem dX5_keep_2 : decode cX5_keep 2 = .ok (.lconst 0, 1) := dc_at dkX5_keep_b0 2 rfl
theorem dX5_keep_3 : decode cX5_keep 3 = .ok (.lconst 1, 1) := dc_at dkX5_keep_b0 3 rfl
theorem dX5_keep_4 : decode cX5_keep 4 = .ok (.invokestatic 75, 3) := dc_at dkX5_keep_b0 4 rfl
theorem dX5_keep_7 : decode cX5_keep 7 = .ok (.ifCond .ne 5, 3) := dc_at dkX5_keep_b0 5 rfl
theorem dX5_keep_10 : decode cX5_keep 10 = .ok (.iconst (-1), 1) := dc_at dkX5_keep_b0 6 rfl
theorem dX5_keep_11 : decode cX5_keep 11 = .ok (.ireturn, 1) := dc_at dkX5_keep_b0 7 rfl
theorem dX5_keep_12 : decode cX5_keep 12 = .ok (.aload_n 0, 1) := dc_at dkX5_keep_b0 8 rfl
theorem dX5_keep_13 : decode cX5_keep 13 = .ok (.getfield 13, 3) := dc_at dkX5_keep_b0 9 rfl
def drX5_keep_b1 : List (Nat × (Instr × Nat)) := [(16, (.iload_n 1, 1)), (17, (.baload, 1)), (18, (.invokestatic 221, 3)), (21, (.istore_n 2, 1)), (22, (.aload_n 0, 1)), (23, (.getfield 13, 3)), (26, (.iload_n 1, 1)), (27, (.iconst 1, 1)), (28, (.bastore, 1)), (29, (.aload_n 0, 1))]
theorem dkX5_keep_b1 : ((drX5_keep_b1).all fun r => decide (decode cX5_keep r.1 = .ok r.2)) = true := by decide +kernel
theorem dX5_keep_16 : decode cX5_keep 16 = .ok (.iload_n 1, 1) := dc_at dkX5_keep_b1 0 rfl
theorem dX5_keep_17 : decode cX5_keep 17 = .ok (.baload, 1) := dc_at dkX5_keep_b1 1 rfl
theorem dX5_keep_18 : decode cX5_keep 18 = .ok (.invokestatic 221, 3) := dc_at dkX5_keep_b1 2 rfl
theorem dX5_keep_21 : decode cX5_keep 21 = .ok (.istore_n 2, 1) := dc_at dkX5_keep_b1 3 rfl
theorem dX5_keep_22 : decode cX5_keep 22 = .ok (.aload_n 0, 1) := dc_at dkX5_keep_b1 4 rfl
theorem dX5_keep_23 : decode cX5_keep 23 = .ok (.getfield 13, 3) := dc_at dkX5_keep_b1 5 rfl
theorem dX5_keep_26 : decode cX5_keep 26 = .ok (.iload_n 1, 1) := dc_at dkX5_keep_b1 6 rfl
theorem dX5_keep_27 : decode cX5_keep 27 = .ok (.iconst 1, 1) := dc_at dkX5_keep_b1 7 rfl
theorem dX5_keep_28 : decode cX5_keep 28 = .ok (.bastore, 1) := dc_at dkX5_keep_b1 8 rfl
theorem dX5_keep_29 : decode cX5_keep 29 = .ok (.aload_n 0, 1) := dc_at dkX5_keep_b1 9 rfl
def drX5_keep_b2 : List (Nat × (Instr × Nat)) := [(30, (.sipush 400, 3)), (33, (.iload_n 1, 1)), (34, (.iconst 1, 1)), (35, (.iadd, 1)), (36, (.imul, 1)), (37, (.iconst 0, 1)), (38, (.invokevirtual 278, 3)), (41, (.iload_n 2, 1)), (42, (.ireturn, 1))]
theorem dkX5_keep_b2 : ((drX5_keep_b2).all fun r => decide (decode cX5_keep r.1 = .ok r.2)) = true := by decide +kernel
theorem dX5_keep_30 : decode cX5_keep 30 = .ok (.sipush 400, 3) := dc_at dkX5_keep_b2 0 rfl
theorem dX5_keep_33 : decode cX5_keep 33 = .ok (.iload_n 1, 1) := dc_at dkX5_keep_b2 1 rfl
theorem dX5_keep_34 : decode cX5_keep 34 = .ok (.iconst 1, 1) := dc_at dkX5_keep_b2 2 rfl
theorem dX5_keep_35 : decode cX5_keep 35 = .ok (.iadd, 1) := dc_at dkX5_keep_b2 3 rfl
theorem dX5_keep_36 : decode cX5_keep 36 = .ok (.imul, 1) := dc_at dkX5_keep_b2 4 rfl
theorem dX5_keep_37 : decode cX5_keep 37 = .ok (.iconst 0, 1) := dc_at dkX5_keep_b2 5 rfl
theorem dX5_keep_38 : decode cX5_keep 38 = .ok (.invokevirtual 278, 3) := dc_at dkX5_keep_b2 6 rfl
theorem dX5_keep_41 : decode cX5_keep 41 = .ok (.iload_n 2, 1) := dc_at dkX5_keep_b2 7 rfl
theorem dX5_keep_42 : decode cX5_keep 42 = .ok (.ireturn, 1) := dc_at dkX5_keep_b2 8 rfl
def drX5_back_b0 : List (Nat × (Instr × Nat)) := [(0, (.iload_n 1, 1)), (1, (.i2l, 1)), (2, (.lconst 0, 1)), (3, (.lconst 1, 1)), (4, (.invokestatic 75, 3)), (7, (.ifCond .ne 5, 3)), (10, (.iconst (-1), 1)), (11, (.ireturn, 1)), (12, (.aload_n 0, 1)), (13, (.getfield 13, 3))]
theorem dkX5_back_b0 : ((drX5_back_b0).all fun r => decide (decode cX5_back r.1 = .ok r.2)) = true := by decide +kernel
theorem dX5_back_0 : decode cX5_back 0 = .ok (.iload_n 1, 1) := dc_at dkX5_back_b0 0 rfl
theorem dX5_back_1 : decode cX5_back 1 = .ok (.i2l, 1) := dc_at dkX5_back_b0 1 rfl
theorem dX5_back_2 : decode cX5_back 2 = .ok (.lconst 0, 1) := dc_at dkX5_back_b0 2 rfl
theorem dX5_back_3 : decode cX5_back 3 = .ok (.lconst 1, 1) := dc_at dkX5_back_b0 3 rfl
theorem dX5_back_4 : decode cX5_back 4 = .ok (.invokestatic 75, 3) := dc_at dkX5_back_b0 4 rfl
theorem dX5_back_7 : decode cX5_back 7 = .ok (.ifCond .ne 5, 3) := dc_at dkX5_back_b0 5 rfl
theorem dX5_back_10 : decode cX5_back 10 = .ok (.iconst (-1), 1) := dc_at dkX5_back_b0 6 rfl
theorem dX5_back_11 : decode cX5_back 11 = .ok (.ireturn, 1) := dc_at dkX5_back_b0 7 rfl
theorem dX5_back_12 : decode cX5_back 12 = .ok (.aload_n 0, 1) := dc_at dkX5_back_b0 8 rfl
theorem dX5_back_13 : decode cX5_back 13 = .ok (.getfield 13, 3) := dc_at dkX5_back_b0 9 rfl
def drX5_back_b1 : List (Nat × (Instr × Nat)) := [(16, (.iload_n 1, 1)), (17, (.baload, 1)), (18, (.ifCond .ne 6, 3)), (21, (.bipush (-2), 2)), (23, (.ireturn, 1)), (24, (.aload_n 0, 1)), (25, (.iconst 0, 1)), (26, (.sipush 400, 3)), (29, (.iload_n 1, 1)), (30, (.iconst 1, 1))]
theorem dkX5_back_b1 : ((drX5_back_b1).all fun r => decide (decode cX5_back r.1 = .ok r.2)) = true := by decide +kernel
theorem dX5_back_16 : decode cX5_back 16 = .ok (.iload_n 1, 1) := dc_at dkX5_back_b1 0 rfl
theorem dX5_back_17 : decode cX5_back 17 = .ok (.baload, 1) := dc_at dkX5_back_b1 1 rfl
theorem dX5_back_18 : decode cX5_back 18 = .ok (.ifCond .ne 6, 3) := dc_at dkX5_back_b1 2 rfl
theorem dX5_back_21 : decode cX5_back 21 = .ok (.bipush (-2), 2) := dc_at dkX5_back_b1 3 rfl
theorem dX5_back_23 : decode cX5_back 23 = .ok (.ireturn, 1) := dc_at dkX5_back_b1 4 rfl
theorem dX5_back_24 : decode cX5_back 24 = .ok (.aload_n 0, 1) := dc_at dkX5_back_b1 5 rfl
theorem dX5_back_25 : decode cX5_back 25 = .ok (.iconst 0, 1) := dc_at dkX5_back_b1 6 rfl
theorem dX5_back_26 : decode cX5_back 26 = .ok (.sipush 400, 3) := dc_at dkX5_back_b1 7 rfl
theorem dX5_back_29 : decode cX5_back 29 = .ok (.iload_n 1, 1) := dc_at dkX5_back_b1 8 rfl
theorem dX5_back_30 : decode cX5_back 30 = .ok (.iconst 1, 1) := dc_at dkX5_back_b1 9 rfl
def drX5_back_b2 : List (Nat × (Instr × Nat)) := [(31, (.iadd, 1)), (32, (.imul, 1)), (33, (.invokevirtual 278, 3)), (36, (.aload_n 0, 1)), (37, (.getfield 7, 3)), (40, (.iconst 0, 1)), (41, (.iaload, 1)), (42, (.ireturn, 1))]
theorem dkX5_back_b2 : ((drX5_back_b2).all fun r => decide (decode cX5_back r.1 = .ok r.2)) = true := by decide +kernel
theorem dX5_back_31 : decode cX5_back 31 = .ok (.iadd, 1) := dc_at dkX5_back_b2 0 rfl
theorem dX5_back_32 : decode cX5_back 32 = .ok (.imul, 1) := dc_at dkX5_back_b2 1 rfl
theorem dX5_back_33 : decode cX5_back 33 = .ok (.invokevirtual 278, 3) := dc_at dkX5_back_b2 2 rfl
theorem dX5_back_36 : decode cX5_back 36 = .ok (.aload_n 0, 1) := dc_at dkX5_back_b2 3 rfl
theorem dX5_back_37 : decode cX5_back 37 = .ok (.getfield 7, 3) := dc_at dkX5_back_b2 4 rfl
theorem dX5_back_40 : decode cX5_back 40 = .ok (.iconst 0, 1) := dc_at dkX5_back_b2 5 rfl
theorem dX5_back_41 : decode cX5_back 41 = .ok (.iaload, 1) := dc_at dkX5_back_b2 6 rfl
theorem dX5_back_42 : decode cX5_back 42 = .ok (.ireturn, 1) := dc_at dkX5_back_b2 7 rfl
def drX5_isSheet_b0 : List (Nat × (Instr × Nat)) := [(0, (.iload_n 0, 1)), (1, (.i2l, 1)), (2, (.lconst 0, 1)), (3, (.ldc2_w 282, 3)), (6, (.invokestatic 75, 3)), (9, (.ifCond .eq 19, 3)), (12, (.iload_n 1, 1)), (13, (.i2l, 1)), (14, (.lconst 0, 1)), (15, (.ldc2_w 168, 3))]
theorem dkX5_isSheet_b0 : ((drX5_isSheet_b0).all fun r => decide (decode cX5_isSheet r.1 = .ok r.2)) = true := by decide +kernel
theorem dX5_isSheet_0 : decode cX5_isSheet 0 = .ok (.iload_n 0, 1) := dc_at dkX5_isSheet_b0 0 rfl
theorem dX5_isSheet_1 : decode cX5_isSheet 1 = .ok (.i2l, 1) := dc_at dkX5_isSheet_b0 1 rfl
theorem dX5_isSheet_2 : decode cX5_isSheet 2 = .ok (.lconst 0, 1) := dc_at dkX5_isSheet_b0 2 rfl
theorem dX5_isSheet_3 : decode cX5_isSheet 3 = .ok (.ldc2_w 282, 3) := dc_at dkX5_isSheet_b0 3 rfl
theorem dX5_isSheet_6 : decode cX5_isSheet 6 = .ok (.invokestatic 75, 3) := dc_at dkX5_isSheet_b0 4 rfl
theorem dX5_isSheet_9 : decode cX5_isSheet 9 = .ok (.ifCond .eq 19, 3) := dc_at dkX5_isSheet_b0 5 rfl
theorem dX5_isSheet_12 : decode cX5_isSheet 12 = .ok (.iload_n 1, 1) := dc_at dkX5_isSheet_b0 6 rfl
theorem dX5_isSheet_13 : decode cX5_isSheet 13 = .ok (.i2l, 1) := dc_at dkX5_isSheet_b0 7 rfl
theorem dX5_isSheet_14 : decode cX5_isSheet 14 = .ok (.lconst 0, 1) := dc_at dkX5_isSheet_b0 8 rfl
theorem dX5_isSheet_15 : decode cX5_isSheet 15 = .ok (.ldc2_w 168, 3) := dc_at dkX5_isSheet_b0 9 rfl
def drX5_isSheet_b1 : List (Nat × (Instr × Nat)) := [(18, (.invokestatic 75, 3)), (21, (.ifCond .eq 7, 3)), (24, (.iconst 1, 1)), (25, (.goto 4, 3)), (28, (.iconst 0, 1)), (29, (.ireturn, 1))]
theorem dkX5_isSheet_b1 : ((drX5_isSheet_b1).all fun r => decide (decode cX5_isSheet r.1 = .ok r.2)) = true := by decide +kernel
theorem dX5_isSheet_18 : decode cX5_isSheet 18 = .ok (.invokestatic 75, 3) := dc_at dkX5_isSheet_b1 0 rfl
theorem dX5_isSheet_21 : decode cX5_isSheet 21 = .ok (.ifCond .eq 7, 3) := dc_at dkX5_isSheet_b1 1 rfl
theorem dX5_isSheet_24 : decode cX5_isSheet 24 = .ok (.iconst 1, 1) := dc_at dkX5_isSheet_b1 2 rfl
theorem dX5_isSheet_25 : decode cX5_isSheet 25 = .ok (.goto 4, 3) := dc_at dkX5_isSheet_b1 3 rfl
theorem dX5_isSheet_28 : decode cX5_isSheet 28 = .ok (.iconst 0, 1) := dc_at dkX5_isSheet_b1 4 rfl
theorem dX5_isSheet_29 : decode cX5_isSheet 29 = .ok (.ireturn, 1) := dc_at dkX5_isSheet_b1 5 rfl
def drX5_sheet_b0 : List (Nat × (Instr × Nat)) := [(0, (.iload_n 1, 1)), (1, (.iload_n 2, 1)), (2, (.invokestatic 284, 3)), (5, (.ifCond .eq 9, 3)), (8, (.iload_n 3, 1)), (9, (.bipush 40, 2)), (11, (.if_icmp .le 5, 3)), (14, (.iconst (-1), 1)), (15, (.ireturn, 1)), (16, (.iload_n 3, 1))]
theorem dkX5_sheet_b0 : ((drX5_sheet_b0).all fun r => decide (decode cX5_sheet r.1 = .ok r.2)) = true := by decide +kernel
theorem dX5_sheet_0 : decode cX5_sheet 0 = .ok (.iload_n 1, 1) := dc_at dkX5_sheet_b0 0 rfl
theorem dX5_sheet_1 : decode cX5_sheet 1 = .ok (.iload_n 2, 1) := dc_at dkX5_sheet_b0 1 rfl
theorem dX5_sheet_2 : decode cX5_sheet 2 = .ok (.invokestatic 284, 3) := dc_at dkX5_sheet_b0 2 rfl
theorem dX5_sheet_5 : decode cX5_sheet 5 = .ok (.ifCond .eq 9, 3) := dc_at dkX5_sheet_b0 3 rfl
theorem dX5_sheet_8 : decode cX5_sheet 8 = .ok (.iload_n 3, 1) := dc_at dkX5_sheet_b0 4 rfl
theorem dX5_sheet_9 : decode cX5_sheet 9 = .ok (.bipush 40, 2) := dc_at dkX5_sheet_b0 5 rfl
theorem dX5_sheet_11 : decode cX5_sheet 11 = .ok (.if_icmp .le 5, 3) := dc_at dkX5_sheet_b0 6 rfl
theorem dX5_sheet_14 : decode cX5_sheet 14 = .ok (.iconst (-1), 1) := dc_at dkX5_sheet_b0 7 rfl
theorem dX5_sheet_15 : decode cX5_sheet 15 = .ok (.ireturn, 1) := dc_at dkX5_sheet_b0 8 rfl
theorem dX5_sheet_16 : decode cX5_sheet 16 = .ok (.iload_n 3, 1) := dc_at dkX5_sheet_b0 9 rfl
def drX5_sheet_b1 : List (Nat × (Instr × Nat)) := [(17, (.ifCond .ge 6, 3)), (20, (.bipush (-14), 2)), (22, (.ireturn, 1)), (23, (.aload_n 0, 1)), (24, (.getfield 44, 3)), (27, (.iload_n 1, 1)), (28, (.iload_n 2, 1)), (29, (.iastore, 1)), (30, (.aload_n 0, 1)), (31, (.getfield 47, 3))]
theorem dkX5_sheet_b1 : ((drX5_sheet_b1).all fun r => decide (decode cX5_sheet r.1 = .ok r.2)) = true := by decide +kernel
theorem dX5_sheet_17 : decode cX5_sheet 17 = .ok (.ifCond .ge 6, 3) := dc_at dkX5_sheet_b1 0 rfl
theorem dX5_sheet_20 : decode cX5_sheet 20 = .ok (.bipush (-14), 2) := dc_at dkX5_sheet_b1 1 rfl
theorem dX5_sheet_22 : decode cX5_sheet 22 = .ok (.ireturn, 1) := dc_at dkX5_sheet_b1 2 rfl
theorem dX5_sheet_23 : decode cX5_sheet 23 = .ok (.aload_n 0, 1) := dc_at dkX5_sheet_b1 3 rfl
theorem dX5_sheet_24 : decode cX5_sheet 24 = .ok (.getfield 44, 3) := dc_at dkX5_sheet_b1 4 rfl
theorem dX5_sheet_27 : decode cX5_sheet 27 = .ok (.iload_n 1, 1) := dc_at dkX5_sheet_b1 5 rfl
theorem dX5_sheet_28 : decode cX5_sheet 28 = .ok (.iload_n 2, 1) := dc_at dkX5_sheet_b1 6 rfl
theorem dX5_sheet_29 : decode cX5_sheet 29 = .ok (.iastore, 1) := dc_at dkX5_sheet_b1 7 rfl
theorem dX5_sheet_30 : decode cX5_sheet 30 = .ok (.aload_n 0, 1) := dc_at dkX5_sheet_b1 8 rfl
theorem dX5_sheet_31 : decode cX5_sheet 31 = .ok (.getfield 47, 3) := dc_at dkX5_sheet_b1 9 rfl
def drX5_sheet_b2 : List (Nat × (Instr × Nat)) := [(34, (.iload_n 1, 1)), (35, (.iload_n 3, 1)), (36, (.iastore, 1)), (37, (.iconst 0, 1)), (38, (.istore 4, 2)), (40, (.iload 4, 2)), (42, (.bipush 40, 2)), (44, (.if_icmp .ge 22, 3)), (47, (.aload_n 0, 1)), (48, (.getfield 50, 3))]
theorem dkX5_sheet_b2 : ((drX5_sheet_b2).all fun r => decide (decode cX5_sheet r.1 = .ok r.2)) = true := by decide +kernel
theorem dX5_sheet_34 : decode cX5_sheet 34 = .ok (.iload_n 1, 1) := dc_at dkX5_sheet_b2 0 rfl
theorem dX5_sheet_35 : decode cX5_sheet 35 = .ok (.iload_n 3, 1) := dc_at dkX5_sheet_b2 1 rfl
theorem dX5_sheet_36 : decode cX5_sheet 36 = .ok (.iastore, 1) := dc_at dkX5_sheet_b2 2 rfl
theorem dX5_sheet_37 : decode cX5_sheet 37 = .ok (.iconst 0, 1) := dc_at dkX5_sheet_b2 3 rfl
theorem dX5_sheet_38 : decode cX5_sheet 38 = .ok (.istore 4, 2) := dc_at dkX5_sheet_b2 4 rfl
theorem dX5_sheet_40 : decode cX5_sheet 40 = .ok (.iload 4, 2) := dc_at dkX5_sheet_b2 5 rfl
theorem dX5_sheet_42 : decode cX5_sheet 42 = .ok (.bipush 40, 2) := dc_at dkX5_sheet_b2 6 rfl
theorem dX5_sheet_44 : decode cX5_sheet 44 = .ok (.if_icmp .ge 22, 3) := dc_at dkX5_sheet_b2 7 rfl
theorem dX5_sheet_47 : decode cX5_sheet 47 = .ok (.aload_n 0, 1) := dc_at dkX5_sheet_b2 8 rfl
theorem dX5_sheet_48 : decode cX5_sheet 48 = .ok (.getfield 50, 3) := dc_at dkX5_sheet_b2 9 rfl
def drX5_sheet_b3 : List (Nat × (Instr × Nat)) := [(51, (.bipush 40, 2)), (53, (.iload_n 1, 1)), (54, (.imul, 1)), (55, (.iload 4, 2)), (57, (.iadd, 1)), (58, (.iconst 0, 1)), (59, (.iastore, 1)), (60, (.iinc 4 1, 3)), (63, (.goto (-23), 3)), (66, (.iconst 1, 1))]
theorem dkX5_sheet_b3 : ((drX5_sheet_b3).all fun r => decide (decode cX5_sheet r.1 = .ok r.2)) = true := by decide +kernel
theorem dX5_sheet_51 : decode cX5_sheet 51 = .ok (.bipush 40, 2) := dc_at dkX5_sheet_b3 0 rfl
theorem dX5_sheet_53 : decode cX5_sheet 53 = .ok (.iload_n 1, 1) := dc_at dkX5_sheet_b3 1 rfl
theorem dX5_sheet_54 : decode cX5_sheet 54 = .ok (.imul, 1) := dc_at dkX5_sheet_b3 2 rfl
theorem dX5_sheet_55 : decode cX5_sheet 55 = .ok (.iload 4, 2) := dc_at dkX5_sheet_b3 3 rfl
theorem dX5_sheet_57 : decode cX5_sheet 57 = .ok (.iadd, 1) := dc_at dkX5_sheet_b3 4 rfl
theorem dX5_sheet_58 : decode cX5_sheet 58 = .ok (.iconst 0, 1) := dc_at dkX5_sheet_b3 5 rfl
theorem dX5_sheet_59 : decode cX5_sheet 59 = .ok (.iastore, 1) := dc_at dkX5_sheet_b3 6 rfl
theorem dX5_sheet_60 : decode cX5_sheet 60 = .ok (.iinc 4 1, 3) := dc_at dkX5_sheet_b3 7 rfl
theorem dX5_sheet_63 : decode cX5_sheet 63 = .ok (.goto (-23), 3) := dc_at dkX5_sheet_b3 8 rfl
theorem dX5_sheet_66 : decode cX5_sheet 66 = .ok (.iconst 1, 1) := dc_at dkX5_sheet_b3 9 rfl
def drX5_sheet_b4 : List (Nat × (Instr × Nat)) := [(67, (.ireturn, 1))]
theorem dkX5_sheet_b4 : ((drX5_sheet_b4).all fun r => decide (decode cX5_sheet r.1 = .ok r.2)) = true := by decide +kernel
theorem dX5_sheet_67 : decode cX5_sheet 67 = .ok (.ireturn, 1) := dc_at dkX5_sheet_b4 0 rfl
def drX5_lay_b0 : List (Nat × (Instr × Nat)) := [(0, (.iload_n 1, 1)), (1, (.iconst 0, 1)), (2, (.invokestatic 284, 3)), (5, (.ifCond .ne 5, 3)), (8, (.iconst (-1), 1)), (9, (.ireturn, 1)), (10, (.aload_n 0, 1)), (11, (.getfield 44, 3)), (14, (.iload_n 1, 1)), (15, (.iaload, 1))]
theorem dkX5_lay_b0 : ((drX5_lay_b0).all fun r => decide (decode cX5_lay r.1 = .ok r.2)) = true := by decide +kernel
theorem dX5_lay_0 : decode cX5_lay 0 = .ok (.iload_n 1, 1) := dc_at dkX5_lay_b0 0 rfl
theorem dX5_lay_1 : decode cX5_lay 1 = .ok (.iconst 0, 1) := dc_at dkX5_lay_b0 1 rfl
theorem dX5_lay_2 : decode cX5_lay 2 = .ok (.invokestatic 284, 3) := dc_at dkX5_lay_b0 2 rfl
theorem dX5_lay_5 : decode cX5_lay 5 = .ok (.ifCond .ne 5, 3) := dc_at dkX5_lay_b0 3 rfl
theorem dX5_lay_8 : decode cX5_lay 8 = .ok (.iconst (-1), 1) := dc_at dkX5_lay_b0 4 rfl
theorem dX5_lay_9 : decode cX5_lay 9 = .ok (.ireturn, 1) := dc_at dkX5_lay_b0 5 rfl
theorem dX5_lay_10 : decode cX5_lay 10 = .ok (.aload_n 0, 1) := dc_at dkX5_lay_b0 6 rfl
theorem dX5_lay_11 : decode cX5_lay 11 = .ok (.getfield 44, 3) := dc_at dkX5_lay_b0 7 rfl
theorem dX5_lay_14 : decode cX5_lay 14 = .ok (.iload_n 1, 1) := dc_at dkX5_lay_b0 8 rfl
theorem dX5_lay_15 : decode cX5_lay 15 = .ok (.iaload, 1) := dc_at dkX5_lay_b0 9 rfl
def drX5_lay_b1 : List (Nat × (Instr × Nat)) := [(16, (.bipush (-4), 2)), (18, (.if_icmp .ne 6, 3)), (21, (.bipush (-11), 2)), (23, (.ireturn, 1)), (24, (.iload_n 2, 1)), (25, (.i2l, 1)), (26, (.lconst 0, 1)), (27, (.aload_n 0, 1)), (28, (.getfield 47, 3)), (31, (.iload_n 1, 1))]
theorem dkX5_lay_b1 : ((drX5_lay_b1).all fun r => decide (decode cX5_lay r.1 = .ok r.2)) = true := by decide +kernel
theorem dX5_lay_16 : decode cX5_lay 16 = .ok (.bipush (-4), 2) := dc_at dkX5_lay_b1 0 rfl
theorem dX5_lay_18 : decode cX5_lay 18 = .ok (.if_icmp .ne 6, 3) := dc_at dkX5_lay_b1 1 rfl
theorem dX5_lay_21 : decode cX5_lay 21 = .ok (.bipush (-11), 2) := dc_at dkX5_lay_b1 2 rfl
theorem dX5_lay_23 : decode cX5_lay 23 = .ok (.ireturn, 1) := dc_at dkX5_lay_b1 3 rfl
theorem dX5_lay_24 : decode cX5_lay 24 = .ok (.iload_n 2, 1) := dc_at dkX5_lay_b1 4 rfl
theorem dX5_lay_25 : decode cX5_lay 25 = .ok (.i2l, 1) := dc_at dkX5_lay_b1 5 rfl
theorem dX5_lay_26 : decode cX5_lay 26 = .ok (.lconst 0, 1) := dc_at dkX5_lay_b1 6 rfl
theorem dX5_lay_27 : decode cX5_lay 27 = .ok (.aload_n 0, 1) := dc_at dkX5_lay_b1 7 rfl
theorem dX5_lay_28 : decode cX5_lay 28 = .ok (.getfield 47, 3) := dc_at dkX5_lay_b1 8 rfl
theorem dX5_lay_31 : decode cX5_lay 31 = .ok (.iload_n 1, 1) := dc_at dkX5_lay_b1 9 rfl
def drX5_lay_b2 : List (Nat × (Instr × Nat)) := [(32, (.iaload, 1)), (33, (.iconst 1, 1)), (34, (.isub, 1)), (35, (.i2l, 1)), (36, (.invokestatic 75, 3)), (39, (.ifCond .ne 6, 3)), (42, (.bipush (-12), 2)), (44, (.ireturn, 1)), (45, (.aload_n 0, 1)), (46, (.getfield 50, 3))]
theorem dkX5_lay_b2 : ((drX5_lay_b2).all fun r => decide (decode cX5_lay r.1 = .ok r.2)) = true := by decide +kernel
theorem dX5_lay_32 : decode cX5_lay 32 = .ok (.iaload, 1) := dc_at dkX5_lay_b2 0 rfl
theorem dX5_lay_33 : decode cX5_lay 33 = .ok (.iconst 1, 1) := dc_at dkX5_lay_b2 1 rfl
theorem dX5_lay_34 : decode cX5_lay 34 = .ok (.isub, 1) := dc_at dkX5_lay_b2 2 rfl
theorem dX5_lay_35 : decode cX5_lay 35 = .ok (.i2l, 1) := dc_at dkX5_lay_b2 3 rfl
theorem dX5_lay_36 : decode cX5_lay 36 = .ok (.invokestatic 75, 3) := dc_at dkX5_lay_b2 4 rfl
theorem dX5_lay_39 : decode cX5_lay 39 = .ok (.ifCond .ne 6, 3) := dc_at dkX5_lay_b2 5 rfl
theorem dX5_lay_42 : decode cX5_lay 42 = .ok (.bipush (-12), 2) := dc_at dkX5_lay_b2 6 rfl
theorem dX5_lay_44 : decode cX5_lay 44 = .ok (.ireturn, 1) := dc_at dkX5_lay_b2 7 rfl
theorem dX5_lay_45 : decode cX5_lay 45 = .ok (.aload_n 0, 1) := dc_at dkX5_lay_b2 8 rfl
theorem dX5_lay_46 : decode cX5_lay 46 = .ok (.getfield 50, 3) := dc_at dkX5_lay_b2 9 rfl
def drX5_lay_b3 : List (Nat × (Instr × Nat)) := [(49, (.bipush 40, 2)), (51, (.iload_n 1, 1)), (52, (.imul, 1)), (53, (.iload_n 2, 1)), (54, (.iadd, 1)), (55, (.aload_n 0, 1)), (56, (.getfield 44, 3)), (59, (.iload_n 1, 1)), (60, (.iaload, 1)), (61, (.ifCond .ne 8, 3))]
theorem dkX5_lay_b3 : ((drX5_lay_b3).all fun r => decide (decode cX5_lay r.1 = .ok r.2)) = true := by decide +kernel
theorem dX5_lay_49 : decode cX5_lay 49 = .ok (.bipush 40, 2) := dc_at dkX5_lay_b3 0 rfl
theorem dX5_lay_51 : decode cX5_lay 51 = .ok (.iload_n 1, 1) := dc_at dkX5_lay_b3 1 rfl
theorem dX5_lay_52 : decode cX5_lay 52 = .ok (.imul, 1) := dc_at dkX5_lay_b3 2 rfl
theorem dX5_lay_53 : decode cX5_lay 53 = .ok (.iload_n 2, 1) := dc_at dkX5_lay_b3 3 rfl
theorem dX5_lay_54 : decode cX5_lay 54 = .ok (.iadd, 1) := dc_at dkX5_lay_b3 4 rfl
theorem dX5_lay_55 : decode cX5_lay 55 = .ok (.aload_n 0, 1) := dc_at dkX5_lay_b3 5 rfl
theorem dX5_lay_56 : decode cX5_lay 56 = .ok (.getfield 44, 3) := dc_at dkX5_lay_b3 6 rfl
theorem dX5_lay_59 : decode cX5_lay 59 = .ok (.iload_n 1, 1) := dc_at dkX5_lay_b3 7 rfl
theorem dX5_lay_60 : decode cX5_lay 60 = .ok (.iaload, 1) := dc_at dkX5_lay_b3 8 rfl
theorem dX5_lay_61 : decode cX5_lay 61 = .ok (.ifCond .ne 8, 3) := dc_at dkX5_lay_b3 9 rfl
def drX5_lay_b4 : List (Nat × (Instr × Nat)) := [(64, (.iload_n 3, 1)), (65, (.i2b, 1)), (66, (.goto 19, 3)), (69, (.aload_n 0, 1)), (70, (.getfield 44, 3)), (73, (.iload_n 1, 1)), (74, (.iaload, 1)), (75, (.iconst 1, 1)), (76, (.if_icmp .ne 8, 3)), (79, (.iload_n 3, 1))]
theorem dkX5_lay_b4 : ((drX5_lay_b4).all fun r => decide (decode cX5_lay r.1 = .ok r.2)) = true := by decide +kernel
theorem dX5_lay_64 : decode cX5_lay 64 = .ok (.iload_n 3, 1) := dc_at dkX5_lay_b4 0 rfl
theorem dX5_lay_65 : decode cX5_lay 65 = .ok (.i2b, 1) := dc_at dkX5_lay_b4 1 rfl
theorem dX5_lay_66 : decode cX5_lay 66 = .ok (.goto 19, 3) := dc_at dkX5_lay_b4 2 rfl
theorem dX5_lay_69 : decode cX5_lay 69 = .ok (.aload_n 0, 1) := dc_at dkX5_lay_b4 3 rfl
theorem dX5_lay_70 : decode cX5_lay 70 = .ok (.getfield 44, 3) := dc_at dkX5_lay_b4 4 rfl
theorem dX5_lay_73 : decode cX5_lay 73 = .ok (.iload_n 1, 1) := dc_at dkX5_lay_b4 5 rfl
theorem dX5_lay_74 : decode cX5_lay 74 = .ok (.iaload, 1) := dc_at dkX5_lay_b4 6 rfl
theorem dX5_lay_75 : decode cX5_lay 75 = .ok (.iconst 1, 1) := dc_at dkX5_lay_b4 7 rfl
theorem dX5_lay_76 : decode cX5_lay 76 = .ok (.if_icmp .ne 8, 3) := dc_at dkX5_lay_b4 8 rfl
theorem dX5_lay_79 : decode cX5_lay 79 = .ok (.iload_n 3, 1) := dc_at dkX5_lay_b4 9 rfl
def drX5_lay_b5 : List (Nat × (Instr × Nat)) := [(80, (.i2s, 1)), (81, (.goto 4, 3)), (84, (.iload_n 3, 1)), (85, (.iastore, 1)), (86, (.iconst 1, 1)), (87, (.ireturn, 1))]
theorem dkX5_lay_b5 : ((drX5_lay_b5).all fun r => decide (decode cX5_lay r.1 = .ok r.2)) = true := by decide +kernel
theorem dX5_lay_80 : decode cX5_lay 80 = .ok (.i2s, 1) := dc_at dkX5_lay_b5 0 rfl
theorem dX5_lay_81 : decode cX5_lay 81 = .ok (.goto 4, 3) := dc_at dkX5_lay_b5 1 rfl
theorem dX5_lay_84 : decode cX5_lay 84 = .ok (.iload_n 3, 1) := dc_at dkX5_lay_b5 2 rfl
theorem dX5_lay_85 : decode cX5_lay 85 = .ok (.iastore, 1) := dc_at dkX5_lay_b5 3 rfl
theorem dX5_lay_86 : decode cX5_lay 86 = .ok (.iconst 1, 1) := dc_at dkX5_lay_b5 4 rfl
theorem dX5_lay_87 : decode cX5_lay 87 = .ok (.ireturn, 1) := dc_at dkX5_lay_b5 5 rfl
def drX5_read_b0 : List (Nat × (Instr × Nat)) := [(0, (.iload_n 1, 1)), (1, (.iload_n 2, 1)), (2, (.invokestatic 284, 3)), (5, (.ifCond .eq 16, 3)), (8, (.iload 4, 2)), (10, (.i2l, 1)), (11, (.lconst 0, 1)), (12, (.ldc2_w 287, 3)), (15, (.invokestatic 75, 3)), (18, (.ifCond .ne 5, 3))]
theorem dkX5_read_b0 : ((drX5_read_b0).all fun r => decide (decode cX5_read r.1 = .ok r.2)) = true := by decide +kernel
theorem dX5_read_0 : decode cX5_read 0 = .ok (.iload_n 1, 1) := dc_at dkX5_read_b0 0 rfl
theorem dX5_read_1 : decode cX5_read 1 = .ok (.iload_n 2, 1) := dc_at dkX5_read_b0 1 rfl
theorem dX5_read_2 : decode cX5_read 2 = .ok (.invokestatic 284, 3) := dc_at dkX5_read_b0 2 rfl
theorem dX5_read_5 : decode cX5_read 5 = .ok (.ifCond .eq 16, 3) := dc_at dkX5_read_b0 3 rfl
theorem dX5_read_8 : decode cX5_read 8 = .ok (.iload 4, 2) := dc_at dkX5_read_b0 4 rfl
theorem dX5_read_10 : decode cX5_read 10 = .ok (.i2l, 1) := dc_at dkX5_read_b0 5 rfl
theorem dX5_read_11 : decode cX5_read 11 = .ok (.lconst 0, 1) := dc_at dkX5_read_b0 6 rfl
theorem dX5_read_12 : decode cX5_read 12 = .ok (.ldc2_w 287, 3) := dc_at dkX5_read_b0 7 rfl
theorem dX5_read_15 : decode cX5_read 15 = .ok (.invokestatic 75, 3) := dc_at dkX5_read_b0 8 rfl
theorem dX5_read_18 : decode cX5_read 18 = .ok (.ifCond .ne 5, 3) := dc_at dkX5_read_b0 9 rfl
def drX5_read_b1 : List (Nat × (Instr × Nat)) := [(21, (.iconst (-1), 1)), (22, (.ireturn, 1)), (23, (.iconst 0, 1)), (24, (.istore 5, 2)), (26, (.iconst 0, 1)), (27, (.istore 6, 2)), (29, (.iconst 0, 1)), (30, (.istore 7, 2)), (32, (.iload 7, 2)), (34, (.iload 4, 2))]
theorem dkX5_read_b1 : ((drX5_read_b1).all fun r => decide (decode cX5_read r.1 = .ok r.2)) = true := by decide +kernel
theorem dX5_read_21 : decode cX5_read 21 = .ok (.iconst (-1), 1) := dc_at dkX5_read_b1 0 rfl
theorem dX5_read_22 : decode cX5_read 22 = .ok (.ireturn, 1) := dc_at dkX5_read_b1 1 rfl
theorem dX5_read_23 : decode cX5_read 23 = .ok (.iconst 0, 1) := dc_at dkX5_read_b1 2 rfl
theorem dX5_read_24 : decode cX5_read 24 = .ok (.istore 5, 2) := dc_at dkX5_read_b1 3 rfl
theorem dX5_read_26 : decode cX5_read 26 = .ok (.iconst 0, 1) := dc_at dkX5_read_b1 4 rfl
theorem dX5_read_27 : decode cX5_read 27 = .ok (.istore 6, 2) := dc_at dkX5_read_b1 5 rfl
theorem dX5_read_29 : decode cX5_read 29 = .ok (.iconst 0, 1) := dc_at dkX5_read_b1 6 rfl
theorem dX5_read_30 : decode cX5_read 30 = .ok (.istore 7, 2) := dc_at dkX5_read_b1 7 rfl
theorem dX5_read_32 : decode cX5_read 32 = .ok (.iload 7, 2) := dc_at dkX5_read_b1 8 rfl
theorem dX5_read_34 : decode cX5_read 34 = .ok (.iload 4, 2) := dc_at dkX5_read_b1 9 rfl
def drX5_read_b2 : List (Nat × (Instr × Nat)) := [(36, (.if_icmp .ge 136, 3)), (39, (.iload 5, 2)), (41, (.ifCond .ne 131, 3)), (44, (.iload_n 3, 1)), (45, (.i2l, 1)), (46, (.iload 7, 2)), (48, (.i2l, 1)), (49, (.ladd, 1)), (50, (.lstore 8, 2)), (52, (.aload_n 0, 1))]
theorem dkX5_read_b2 : ((drX5_read_b2).all fun r => decide (decode cX5_read r.1 = .ok r.2)) = true := by decide +kernel
theorem dX5_read_36 : decode cX5_read 36 = .ok (.if_icmp .ge 136, 3) := dc_at dkX5_read_b2 0 rfl
theorem dX5_read_39 : decode cX5_read 39 = .ok (.iload 5, 2) := dc_at dkX5_read_b2 1 rfl
theorem dX5_read_41 : decode cX5_read 41 = .ok (.ifCond .ne 131, 3) := dc_at dkX5_read_b2 2 rfl
theorem dX5_read_44 : decode cX5_read 44 = .ok (.iload_n 3, 1) := dc_at dkX5_read_b2 3 rfl
theorem dX5_read_45 : decode cX5_read 45 = .ok (.i2l, 1) := dc_at dkX5_read_b2 4 rfl
theorem dX5_read_46 : decode cX5_read 46 = .ok (.iload 7, 2) := dc_at dkX5_read_b2 5 rfl
theorem dX5_read_48 : decode cX5_read 48 = .ok (.i2l, 1) := dc_at dkX5_read_b2 6 rfl
theorem dX5_read_49 : decode cX5_read 49 = .ok (.ladd, 1) := dc_at dkX5_read_b2 7 rfl
theorem dX5_read_50 : decode cX5_read 50 = .ok (.lstore 8, 2) := dc_at dkX5_read_b2 8 rfl
theorem dX5_read_52 : decode cX5_read 52 = .ok (.aload_n 0, 1) := dc_at dkX5_read_b2 9 rfl
def drX5_read_b3 : List (Nat × (Instr × Nat)) := [(53, (.getfield 44, 3)), (56, (.iload_n 1, 1)), (57, (.iaload, 1)), (58, (.bipush (-4), 2)), (60, (.if_icmp .ne 7, 3)), (63, (.iconst 1, 1)), (64, (.goto 42, 3)), (67, (.aload_n 0, 1)), (68, (.getfield 44, 3)), (71, (.iload_n 1, 1))]
theorem dkX5_read_b3 : ((drX5_read_b3).all fun r => decide (decode cX5_read r.1 = .ok r.2)) = true := by decide +kernel
theorem dX5_read_53 : decode cX5_read 53 = .ok (.getfield 44, 3) := dc_at dkX5_read_b3 0 rfl
theorem dX5_read_56 : decode cX5_read 56 = .ok (.iload_n 1, 1) := dc_at dkX5_read_b3 1 rfl
theorem dX5_read_57 : decode cX5_read 57 = .ok (.iaload, 1) := dc_at dkX5_read_b3 2 rfl
theorem dX5_read_58 : decode cX5_read 58 = .ok (.bipush (-4), 2) := dc_at dkX5_read_b3 3 rfl
theorem dX5_read_60 : decode cX5_read 60 = .ok (.if_icmp .ne 7, 3) := dc_at dkX5_read_b3 4 rfl
theorem dX5_read_63 : decode cX5_read 63 = .ok (.iconst 1, 1) := dc_at dkX5_read_b3 5 rfl
theorem dX5_read_64 : decode cX5_read 64 = .ok (.goto 42, 3) := dc_at dkX5_read_b3 6 rfl
theorem dX5_read_67 : decode cX5_read 67 = .ok (.aload_n 0, 1) := dc_at dkX5_read_b3 7 rfl
theorem dX5_read_68 : decode cX5_read 68 = .ok (.getfield 44, 3) := dc_at dkX5_read_b3 8 rfl
theorem dX5_read_71 : decode cX5_read 71 = .ok (.iload_n 1, 1) := dc_at dkX5_read_b3 9 rfl
def drX5_read_b4 : List (Nat × (Instr × Nat)) := [(72, (.iaload, 1)), (73, (.iload_n 2, 1)), (74, (.if_icmp .eq 7, 3)), (77, (.iconst 3, 1)), (78, (.goto 28, 3)), (81, (.lload 8, 2)), (83, (.lconst 0, 1)), (84, (.lcmp, 1)), (85, (.ifCond .lt 16, 3)), (88, (.lload 8, 2))]
theorem dkX5_read_b4 : ((drX5_read_b4).all fun r => decide (decode cX5_read r.1 = .ok r.2)) = true := by decide +kernel
theorem dX5_read_72 : decode cX5_read 72 = .ok (.iaload, 1) := dc_at dkX5_read_b4 0 rfl
theorem dX5_read_73 : decode cX5_read 73 = .ok (.iload_n 2, 1) := dc_at dkX5_read_b4 1 rfl
theorem dX5_read_74 : decode cX5_read 74 = .ok (.if_icmp .eq 7, 3) := dc_at dkX5_read_b4 2 rfl
theorem dX5_read_77 : decode cX5_read 77 = .ok (.iconst 3, 1) := dc_at dkX5_read_b4 3 rfl
theorem dX5_read_78 : decode cX5_read 78 = .ok (.goto 28, 3) := dc_at dkX5_read_b4 4 rfl
theorem dX5_read_81 : decode cX5_read 81 = .ok (.lload 8, 2) := dc_at dkX5_read_b4 5 rfl
theorem dX5_read_83 : decode cX5_read 83 = .ok (.lconst 0, 1) := dc_at dkX5_read_b4 6 rfl
theorem dX5_read_84 : decode cX5_read 84 = .ok (.lcmp, 1) := dc_at dkX5_read_b4 7 rfl
theorem dX5_read_85 : decode cX5_read 85 = .ok (.ifCond .lt 16, 3) := dc_at dkX5_read_b4 8 rfl
theorem dX5_read_88 : decode cX5_read 88 = .ok (.lload 8, 2) := dc_at dkX5_read_b4 9 rfl
def drX5_read_b5 : List (Nat × (Instr × Nat)) := [(90, (.aload_n 0, 1)), (91, (.getfield 47, 3)), (94, (.iload_n 1, 1)), (95, (.iaload, 1)), (96, (.i2l, 1)), (97, (.lcmp, 1)), (98, (.ifCond .lt 7, 3)), (101, (.iconst 2, 1)), (102, (.goto 4, 3)), (105, (.iconst 0, 1))]
theorem dkX5_read_b5 : ((drX5_read_b5).all fun r => decide (decode cX5_read r.1 = .ok r.2)) = true := by decide +kernel
theorem dX5_read_90 : decode cX5_read 90 = .ok (.aload_n 0, 1) := dc_at dkX5_read_b5 0 rfl
theorem dX5_read_91 : decode cX5_read 91 = .ok (.getfield 47, 3) := dc_at dkX5_read_b5 1 rfl
theorem dX5_read_94 : decode cX5_read 94 = .ok (.iload_n 1, 1) := dc_at dkX5_read_b5 2 rfl
theorem dX5_read_95 : decode cX5_read 95 = .ok (.iaload, 1) := dc_at dkX5_read_b5 3 rfl
theorem dX5_read_96 : decode cX5_read 96 = .ok (.i2l, 1) := dc_at dkX5_read_b5 4 rfl
theorem dX5_read_97 : decode cX5_read 97 = .ok (.lcmp, 1) := dc_at dkX5_read_b5 5 rfl
theorem dX5_read_98 : decode cX5_read 98 = .ok (.ifCond .lt 7, 3) := dc_at dkX5_read_b5 6 rfl
theorem dX5_read_101 : decode cX5_read 101 = .ok (.iconst 2, 1) := dc_at dkX5_read_b5 7 rfl
theorem dX5_read_102 : decode cX5_read 102 = .ok (.goto 4, 3) := dc_at dkX5_read_b5 8 rfl
theorem dX5_read_105 : decode cX5_read 105 = .ok (.iconst 0, 1) := dc_at dkX5_read_b5 9 rfl
def drX5_read_b6 : List (Nat × (Instr × Nat)) := [(106, (.istore 5, 2)), (108, (.iload 5, 2)), (110, (.ifCond .ne 56, 3)), (113, (.aload_n 0, 1)), (114, (.getfield 50, 3)), (117, (.bipush 40, 2)), (119, (.iload_n 1, 1)), (120, (.imul, 1)), (121, (.iload_n 3, 1)), (122, (.iadd, 1))]
theorem dkX5_read_b6 : ((drX5_read_b6).all fun r => decide (decode cX5_read r.1 = .ok r.2)) = true := by decide +kernel
theorem dX5_read_106 : decode cX5_read 106 = .ok (.istore 5, 2) := dc_at dkX5_read_b6 0 rfl
theorem dX5_read_108 : decode cX5_read 108 = .ok (.iload 5, 2) := dc_at dkX5_read_b6 1 rfl
theorem dX5_read_110 : decode cX5_read 110 = .ok (.ifCond .ne 56, 3) := dc_at dkX5_read_b6 2 rfl
theorem dX5_read_113 : decode cX5_read 113 = .ok (.aload_n 0, 1) := dc_at dkX5_read_b6 3 rfl
theorem dX5_read_114 : decode cX5_read 114 = .ok (.getfield 50, 3) := dc_at dkX5_read_b6 4 rfl
theorem dX5_read_117 : decode cX5_read 117 = .ok (.bipush 40, 2) := dc_at dkX5_read_b6 5 rfl
theorem dX5_read_119 : decode cX5_read 119 = .ok (.iload_n 1, 1) := dc_at dkX5_read_b6 6 rfl
theorem dX5_read_120 : decode cX5_read 120 = .ok (.imul, 1) := dc_at dkX5_read_b6 7 rfl
theorem dX5_read_121 : decode cX5_read 121 = .ok (.iload_n 3, 1) := dc_at dkX5_read_b6 8 rfl
theorem dX5_read_122 : decode cX5_read 122 = .ok (.iadd, 1) := dc_at dkX5_read_b6 9 rfl
def drX5_read_b7 : List (Nat × (Instr × Nat)) := [(123, (.iload 7, 2)), (125, (.iadd, 1)), (126, (.iaload, 1)), (127, (.i2l, 1)), (128, (.lconst 0, 1)), (129, (.ldc2_w 73, 3)), (132, (.invokestatic 75, 3)), (135, (.ifCond .ne 9, 3)), (138, (.bipush (-20), 2)), (140, (.iload 7, 2))]
theorem dkX5_read_b7 : ((drX5_read_b7).all fun r => decide (decode cX5_read r.1 = .ok r.2)) = true := by decide +kernel
theorem dX5_read_123 : decode cX5_read 123 = .ok (.iload 7, 2) := dc_at dkX5_read_b7 0 rfl
theorem dX5_read_125 : decode cX5_read 125 = .ok (.iadd, 1) := dc_at dkX5_read_b7 1 rfl
theorem dX5_read_126 : decode cX5_read 126 = .ok (.iaload, 1) := dc_at dkX5_read_b7 2 rfl
theorem dX5_read_127 : decode cX5_read 127 = .ok (.i2l, 1) := dc_at dkX5_read_b7 3 rfl
theorem dX5_read_128 : decode cX5_read 128 = .ok (.lconst 0, 1) := dc_at dkX5_read_b7 4 rfl
theorem dX5_read_129 : decode cX5_read 129 = .ok (.ldc2_w 73, 3) := dc_at dkX5_read_b7 5 rfl
theorem dX5_read_132 : decode cX5_read 132 = .ok (.invokestatic 75, 3) := dc_at dkX5_read_b7 6 rfl
theorem dX5_read_135 : decode cX5_read 135 = .ok (.ifCond .ne 9, 3) := dc_at dkX5_read_b7 7 rfl
theorem dX5_read_138 : decode cX5_read 138 = .ok (.bipush (-20), 2) := dc_at dkX5_read_b7 8 rfl
theorem dX5_read_140 : decode cX5_read 140 = .ok (.iload 7, 2) := dc_at dkX5_read_b7 9 rfl
def drX5_read_b8 : List (Nat × (Instr × Nat)) := [(142, (.isub, 1)), (143, (.ireturn, 1)), (144, (.aload_n 0, 1)), (145, (.getfield 7, 3)), (148, (.sipush 327, 3)), (151, (.iaload, 1)), (152, (.iload 6, 2)), (154, (.iadd, 1)), (155, (.bipush 12, 2)), (157, (.if_icmp .ne 6, 3))]
theorem dkX5_read_b8 : ((drX5_read_b8).all fun r => decide (decode cX5_read r.1 = .ok r.2)) = true := by decide +kernel
theorem dX5_read_142 : decode cX5_read 142 = .ok (.isub, 1) := dc_at dkX5_read_b8 0 rfl
theorem dX5_read_143 : decode cX5_read 143 = .ok (.ireturn, 1) := dc_at dkX5_read_b8 1 rfl
theorem dX5_read_144 : decode cX5_read 144 = .ok (.aload_n 0, 1) := dc_at dkX5_read_b8 2 rfl
theorem dX5_read_145 : decode cX5_read 145 = .ok (.getfield 7, 3) := dc_at dkX5_read_b8 3 rfl
theorem dX5_read_148 : decode cX5_read 148 = .ok (.sipush 327, 3) := dc_at dkX5_read_b8 4 rfl
theorem dX5_read_151 : decode cX5_read 151 = .ok (.iaload, 1) := dc_at dkX5_read_b8 5 rfl
theorem dX5_read_152 : decode cX5_read 152 = .ok (.iload 6, 2) := dc_at dkX5_read_b8 6 rfl
theorem dX5_read_154 : decode cX5_read 154 = .ok (.iadd, 1) := dc_at dkX5_read_b8 7 rfl
theorem dX5_read_155 : decode cX5_read 155 = .ok (.bipush 12, 2) := dc_at dkX5_read_b8 8 rfl
theorem dX5_read_157 : decode cX5_read 157 = .ok (.if_icmp .ne 6, 3) := dc_at dkX5_read_b8 9 rfl
def drX5_read_b9 : List (Nat × (Instr × Nat)) := [(160, (.bipush (-3), 2)), (162, (.ireturn, 1)), (163, (.iinc 6 1, 3)), (166, (.iinc 7 1, 3)), (169, (.goto (-137), 3)), (172, (.aload_n 0, 1)), (173, (.iload 5, 2)), (175, (.putfield 289, 3)), (178, (.iconst 0, 1)), (179, (.istore 7, 2))]
theorem dkX5_read_b9 : ((drX5_read_b9).all fun r => decide (decode cX5_read r.1 = .ok r.2)) = true := by decide +kernel
theorem dX5_read_160 : decode cX5_read 160 = .ok (.bipush (-3), 2) := dc_at dkX5_read_b9 0 rfl
theorem dX5_read_162 : decode cX5_read 162 = .ok (.ireturn, 1) := dc_at dkX5_read_b9 1 rfl
theorem dX5_read_163 : decode cX5_read 163 = .ok (.iinc 6 1, 3) := dc_at dkX5_read_b9 2 rfl
theorem dX5_read_166 : decode cX5_read 166 = .ok (.iinc 7 1, 3) := dc_at dkX5_read_b9 3 rfl
theorem dX5_read_169 : decode cX5_read 169 = .ok (.goto (-137), 3) := dc_at dkX5_read_b9 4 rfl
theorem dX5_read_172 : decode cX5_read 172 = .ok (.aload_n 0, 1) := dc_at dkX5_read_b9 5 rfl
theorem dX5_read_173 : decode cX5_read 173 = .ok (.iload 5, 2) := dc_at dkX5_read_b9 6 rfl
theorem dX5_read_175 : decode cX5_read 175 = .ok (.putfield 289, 3) := dc_at dkX5_read_b9 7 rfl
theorem dX5_read_178 : decode cX5_read 178 = .ok (.iconst 0, 1) := dc_at dkX5_read_b9 8 rfl
theorem dX5_read_179 : decode cX5_read 179 = .ok (.istore 7, 2) := dc_at dkX5_read_b9 9 rfl
def drX5_read_b10 : List (Nat × (Instr × Nat)) := [(181, (.iload 7, 2)), (183, (.iload 6, 2)), (185, (.if_icmp .ge 28, 3)), (188, (.aload_n 0, 1)), (189, (.aload_n 0, 1)), (190, (.getfield 50, 3)), (193, (.bipush 40, 2)), (195, (.iload_n 1, 1)), (196, (.imul, 1)), (197, (.iload_n 3, 1))]
theorem dkX5_read_b10 : ((drX5_read_b10).all fun r => decide (decode cX5_read r.1 = .ok r.2)) = true := by decide +kernel
theorem dX5_read_181 : decode cX5_read 181 = .ok (.iload 7, 2) := dc_at dkX5_read_b10 0 rfl
theorem dX5_read_183 : decode cX5_read 183 = .ok (.iload 6, 2) := dc_at dkX5_read_b10 1 rfl
theorem dX5_read_185 : decode cX5_read 185 = .ok (.if_icmp .ge 28, 3) := dc_at dkX5_read_b10 2 rfl
theorem dX5_read_188 : decode cX5_read 188 = .ok (.aload_n 0, 1) := dc_at dkX5_read_b10 3 rfl
theorem dX5_read_189 : decode cX5_read 189 = .ok (.aload_n 0, 1) := dc_at dkX5_read_b10 4 rfl
theorem dX5_read_190 : decode cX5_read 190 = .ok (.getfield 50, 3) := dc_at dkX5_read_b10 5 rfl
theorem dX5_read_193 : decode cX5_read 193 = .ok (.bipush 40, 2) := dc_at dkX5_read_b10 6 rfl
theorem dX5_read_195 : decode cX5_read 195 = .ok (.iload_n 1, 1) := dc_at dkX5_read_b10 7 rfl
theorem dX5_read_196 : decode cX5_read 196 = .ok (.imul, 1) := dc_at dkX5_read_b10 8 rfl
theorem dX5_read_197 : decode cX5_read 197 = .ok (.iload_n 3, 1) := dc_at dkX5_read_b10 9 rfl
def drX5_read_b11 : List (Nat × (Instr × Nat)) := [(198, (.iadd, 1)), (199, (.iload 7, 2)), (201, (.iadd, 1)), (202, (.iaload, 1)), (203, (.invokevirtual 292, 3)), (206, (.pop, 1)), (207, (.iinc 7 1, 3)), (210, (.goto (-29), 3)), (213, (.iload 6, 2)), (215, (.ireturn, 1))]
theorem dkX5_read_b11 : ((drX5_read_b11).all fun r => decide (decode cX5_read r.1 = .ok r.2)) = true := by decide +kernel
theorem dX5_read_198 : decode cX5_read 198 = .ok (.iadd, 1) := dc_at dkX5_read_b11 0 rfl
theorem dX5_read_199 : decode cX5_read 199 = .ok (.iload 7, 2) := dc_at dkX5_read_b11 1 rfl
theorem dX5_read_201 : decode cX5_read 201 = .ok (.iadd, 1) := dc_at dkX5_read_b11 2 rfl
theorem dX5_read_202 : decode cX5_read 202 = .ok (.iaload, 1) := dc_at dkX5_read_b11 3 rfl
theorem dX5_read_203 : decode cX5_read 203 = .ok (.invokevirtual 292, 3) := dc_at dkX5_read_b11 4 rfl
theorem dX5_read_206 : decode cX5_read 206 = .ok (.pop, 1) := dc_at dkX5_read_b11 5 rfl
theorem dX5_read_207 : decode cX5_read 207 = .ok (.iinc 7 1, 3) := dc_at dkX5_read_b11 6 rfl
theorem dX5_read_210 : decode cX5_read 210 = .ok (.goto (-29), 3) := dc_at dkX5_read_b11 7 rfl
theorem dX5_read_213 : decode cX5_read 213 = .ok (.iload 6, 2) := dc_at dkX5_read_b11 8 rfl
theorem dX5_read_215 : decode cX5_read 215 = .ok (.ireturn, 1) := dc_at dkX5_read_b11 9 rfl
def drX5_torn_b0 : List (Nat × (Instr × Nat)) := [(0, (.aload_n 0, 1)), (1, (.getfield 289, 3)), (4, (.ireturn, 1))]
theorem dkX5_torn_b0 : ((drX5_torn_b0).all fun r => decide (decode cX5_torn r.1 = .ok r.2)) = true := by decide +kernel
theorem dX5_torn_0 : decode cX5_torn 0 = .ok (.aload_n 0, 1) := dc_at dkX5_torn_b0 0 rfl
theorem dX5_torn_1 : decode cX5_torn 1 = .ok (.getfield 289, 3) := dc_at dkX5_torn_b0 1 rfl
theorem dX5_torn_4 : decode cX5_torn 4 = .ok (.ireturn, 1) := dc_at dkX5_torn_b0 2 rfl
def drX5_count_b0 : List (Nat × (Instr × Nat)) := [(0, (.iconst 0, 1)), (1, (.istore_n 2, 1)), (2, (.iconst 0, 1)), (3, (.istore_n 3, 1)), (4, (.iconst 0, 1)), (5, (.istore 4, 2)), (7, (.iload 4, 2)), (9, (.aload_n 0, 1)), (10, (.getfield 7, 3)), (13, (.iconst 0, 1))]
theorem dkX5_count_b0 : ((drX5_count_b0).all fun r => decide (decode cX5_count r.1 = .ok r.2)) = true := by decide +kernel
theorem dX5_count_0 : decode cX5_count 0 = .ok (.iconst 0, 1) := dc_at dkX5_count_b0 0 rfl
theorem dX5_count_1 : decode cX5_count 1 = .ok (.istore_n 2, 1) := dc_at dkX5_count_b0 1 rfl
theorem dX5_count_2 : decode cX5_count 2 = .ok (.iconst 0, 1) := dc_at dkX5_count_b0 2 rfl
theorem dX5_count_3 : decode cX5_count 3 = .ok (.istore_n 3, 1) := dc_at dkX5_count_b0 3 rfl
theorem dX5_count_4 : decode cX5_count 4 = .ok (.iconst 0, 1) := dc_at dkX5_count_b0 4 rfl
theorem dX5_count_5 : decode cX5_count 5 = .ok (.istore 4, 2) := dc_at dkX5_count_b0 5 rfl
theorem dX5_count_7 : decode cX5_count 7 = .ok (.iload 4, 2) := dc_at dkX5_count_b0 6 rfl
theorem dX5_count_9 : decode cX5_count 9 = .ok (.aload_n 0, 1) := dc_at dkX5_count_b0 7 rfl
theorem dX5_count_10 : decode cX5_count 10 = .ok (.getfield 7, 3) := dc_at dkX5_count_b0 8 rfl
theorem dX5_count_13 : decode cX5_count 13 = .ok (.iconst 0, 1) := dc_at dkX5_count_b0 9 rfl
def drX5_count_b1 : List (Nat × (Instr × Nat)) := [(14, (.iaload, 1)), (15, (.if_icmp .ge 46, 3)), (18, (.iload_n 2, 1)), (19, (.aload_n 0, 1)), (20, (.getfield 7, 3)), (23, (.bipush 13, 2)), (25, (.iload 4, 2)), (27, (.iadd, 1)), (28, (.iaload, 1)), (29, (.ifCond .ne 7, 3))]
theorem dkX5_count_b1 : ((drX5_count_b1).all fun r => decide (decode cX5_count r.1 = .ok r.2)) = true := by decide +kernel
theorem dX5_count_14 : decode cX5_count 14 = .ok (.iaload, 1) := dc_at dkX5_count_b1 0 rfl
theorem dX5_count_15 : decode cX5_count 15 = .ok (.if_icmp .ge 46, 3) := dc_at dkX5_count_b1 1 rfl
theorem dX5_count_18 : decode cX5_count 18 = .ok (.iload_n 2, 1) := dc_at dkX5_count_b1 2 rfl
theorem dX5_count_19 : decode cX5_count 19 = .ok (.aload_n 0, 1) := dc_at dkX5_count_b1 3 rfl
theorem dX5_count_20 : decode cX5_count 20 = .ok (.getfield 7, 3) := dc_at dkX5_count_b1 4 rfl
theorem dX5_count_23 : decode cX5_count 23 = .ok (.bipush 13, 2) := dc_at dkX5_count_b1 5 rfl
theorem dX5_count_25 : decode cX5_count 25 = .ok (.iload 4, 2) := dc_at dkX5_count_b1 6 rfl
theorem dX5_count_27 : decode cX5_count 27 = .ok (.iadd, 1) := dc_at dkX5_count_b1 7 rfl
theorem dX5_count_28 : decode cX5_count 28 = .ok (.iaload, 1) := dc_at dkX5_count_b1 8 rfl
theorem dX5_count_29 : decode cX5_count 29 = .ok (.ifCond .ne 7, 3) := dc_at dkX5_count_b1 9 rfl
def drX5_count_b2 : List (Nat × (Instr × Nat)) := [(32, (.iconst 1, 1)), (33, (.goto 4, 3)), (36, (.iconst 0, 1)), (37, (.invokestatic 221, 3)), (40, (.iadd, 1)), (41, (.istore_n 2, 1)), (42, (.iload_n 3, 1)), (43, (.aload_n 0, 1)), (44, (.getfield 7, 3)), (47, (.bipush 13, 2))]
theorem dkX5_count_b2 : ((drX5_count_b2).all fun r => decide (decode cX5_count r.1 = .ok r.2)) = true := by decide +kernel
theorem dX5_count_32 : decode cX5_count 32 = .ok (.iconst 1, 1) := dc_at dkX5_count_b2 0 rfl
theorem dX5_count_33 : decode cX5_count 33 = .ok (.goto 4, 3) := dc_at dkX5_count_b2 1 rfl
theorem dX5_count_36 : decode cX5_count 36 = .ok (.iconst 0, 1) := dc_at dkX5_count_b2 2 rfl
theorem dX5_count_37 : decode cX5_count 37 = .ok (.invokestatic 221, 3) := dc_at dkX5_count_b2 3 rfl
theorem dX5_count_40 : decode cX5_count 40 = .ok (.iadd, 1) := dc_at dkX5_count_b2 4 rfl
theorem dX5_count_41 : decode cX5_count 41 = .ok (.istore_n 2, 1) := dc_at dkX5_count_b2 5 rfl
theorem dX5_count_42 : decode cX5_count 42 = .ok (.iload_n 3, 1) := dc_at dkX5_count_b2 6 rfl
theorem dX5_count_43 : decode cX5_count 43 = .ok (.aload_n 0, 1) := dc_at dkX5_count_b2 7 rfl
theorem dX5_count_44 : decode cX5_count 44 = .ok (.getfield 7, 3) := dc_at dkX5_count_b2 8 rfl
theorem dX5_count_47 : decode cX5_count 47 = .ok (.bipush 13, 2) := dc_at dkX5_count_b2 9 rfl
def drX5_count_b3 : List (Nat × (Instr × Nat)) := [(49, (.iload 4, 2)), (51, (.iadd, 1)), (52, (.iaload, 1)), (53, (.iadd, 1)), (54, (.istore_n 3, 1)), (55, (.iinc 4 1, 3)), (58, (.goto (-51), 3)), (61, (.iload_n 1, 1)), (62, (.tableswitch 110 0 6 #[42, 49, 51, 53, 62, 82, 87], 42)), (104, (.aload_n 0, 1))]
theorem dkX5_count_b3 : ((drX5_count_b3).all fun r => decide (decode cX5_count r.1 = .ok r.2)) = true := by decide +kernel
theorem dX5_count_49 : decode cX5_count 49 = .ok (.iload 4, 2) := dc_at dkX5_count_b3 0 rfl
theorem dX5_count_51 : decode cX5_count 51 = .ok (.iadd, 1) := dc_at dkX5_count_b3 1 rfl
theorem dX5_count_52 : decode cX5_count 52 = .ok (.iaload, 1) := dc_at dkX5_count_b3 2 rfl
theorem dX5_count_53 : decode cX5_count 53 = .ok (.iadd, 1) := dc_at dkX5_count_b3 3 rfl
theorem dX5_count_54 : decode cX5_count 54 = .ok (.istore_n 3, 1) := dc_at dkX5_count_b3 4 rfl
theorem dX5_count_55 : decode cX5_count 55 = .ok (.iinc 4 1, 3) := dc_at dkX5_count_b3 5 rfl
theorem dX5_count_58 : decode cX5_count 58 = .ok (.goto (-51), 3) := dc_at dkX5_count_b3 6 rfl
theorem dX5_count_61 : decode cX5_count 61 = .ok (.iload_n 1, 1) := dc_at dkX5_count_b3 7 rfl
theorem dX5_count_62 : decode cX5_count 62 = .ok (.tableswitch 110 0 6 #[42, 49, 51, 53, 62, 82, 87], 42) := dc_at dkX5_count_b3 8 rfl
theorem dX5_count_104 : decode cX5_count 104 = .ok (.aload_n 0, 1) := dc_at dkX5_count_b3 9 rfl
def drX5_count_b4 : List (Nat × (Instr × Nat)) := [(105, (.getfield 7, 3)), (108, (.iconst 0, 1)), (109, (.iaload, 1)), (110, (.ireturn, 1)), (111, (.iload_n 2, 1)), (112, (.ireturn, 1)), (113, (.iload_n 3, 1)), (114, (.ireturn, 1)), (115, (.aload_n 0, 1)), (116, (.getfield 7, 3))]
theorem dkX5_count_b4 : ((drX5_count_b4).all fun r => decide (decode cX5_count r.1 = .ok r.2)) = true := by decide +kernel
theorem dX5_count_105 : decode cX5_count 105 = .ok (.getfield 7, 3) := dc_at dkX5_count_b4 0 rfl
theorem dX5_count_108 : decode cX5_count 108 = .ok (.iconst 0, 1) := dc_at dkX5_count_b4 1 rfl
theorem dX5_count_109 : decode cX5_count 109 = .ok (.iaload, 1) := dc_at dkX5_count_b4 2 rfl
theorem dX5_count_110 : decode cX5_count 110 = .ok (.ireturn, 1) := dc_at dkX5_count_b4 3 rfl
theorem dX5_count_111 : decode cX5_count 111 = .ok (.iload_n 2, 1) := dc_at dkX5_count_b4 4 rfl
theorem dX5_count_112 : decode cX5_count 112 = .ok (.ireturn, 1) := dc_at dkX5_count_b4 5 rfl
theorem dX5_count_113 : decode cX5_count 113 = .ok (.iload_n 3, 1) := dc_at dkX5_count_b4 6 rfl
theorem dX5_count_114 : decode cX5_count 114 = .ok (.ireturn, 1) := dc_at dkX5_count_b4 7 rfl
theorem dX5_count_115 : decode cX5_count 115 = .ok (.aload_n 0, 1) := dc_at dkX5_count_b4 8 rfl
theorem dX5_count_116 : decode cX5_count 116 = .ok (.getfield 7, 3) := dc_at dkX5_count_b4 9 rfl
def drX5_count_b5 : List (Nat × (Instr × Nat)) := [(119, (.sipush 341, 3)), (122, (.iaload, 1)), (123, (.ireturn, 1)), (124, (.aload_n 0, 1)), (125, (.getfield 13, 3)), (128, (.iconst 0, 1)), (129, (.baload, 1)), (130, (.invokestatic 221, 3)), (133, (.aload_n 0, 1)), (134, (.getfield 13, 3))]
theorem dkX5_count_b5 : ((drX5_count_b5).all fun r => decide (decode cX5_count r.1 = .ok r.2)) = true := by decide +kernel
theorem dX5_count_119 : decode cX5_count 119 = .ok (.sipush 341, 3) := dc_at dkX5_count_b5 0 rfl
theorem dX5_count_122 : decode cX5_count 122 = .ok (.iaload, 1) := dc_at dkX5_count_b5 1 rfl
theorem dX5_count_123 : decode cX5_count 123 = .ok (.ireturn, 1) := dc_at dkX5_count_b5 2 rfl
theorem dX5_count_124 : decode cX5_count 124 = .ok (.aload_n 0, 1) := dc_at dkX5_count_b5 3 rfl
theorem dX5_count_125 : decode cX5_count 125 = .ok (.getfield 13, 3) := dc_at dkX5_count_b5 4 rfl
theorem dX5_count_128 : decode cX5_count 128 = .ok (.iconst 0, 1) := dc_at dkX5_count_b5 5 rfl
theorem dX5_count_129 : decode cX5_count 129 = .ok (.baload, 1) := dc_at dkX5_count_b5 6 rfl
theorem dX5_count_130 : decode cX5_count 130 = .ok (.invokestatic 221, 3) := dc_at dkX5_count_b5 7 rfl
theorem dX5_count_133 : decode cX5_count 133 = .ok (.aload_n 0, 1) := dc_at dkX5_count_b5 8 rfl
theorem dX5_count_134 : decode cX5_count 134 = .ok (.getfield 13, 3) := dc_at dkX5_count_b5 9 rfl
def drX5_count_b6 : List (Nat × (Instr × Nat)) := [(137, (.iconst 1, 1)), (138, (.baload, 1)), (139, (.invokestatic 221, 3)), (142, (.iadd, 1)), (143, (.ireturn, 1)), (144, (.aload_n 0, 1)), (145, (.getfield 70, 3)), (148, (.ireturn, 1)), (149, (.aload_n 0, 1)), (150, (.getfield 44, 3))]
theorem dkX5_count_b6 : ((drX5_count_b6).all fun r => decide (decode cX5_count r.1 = .ok r.2)) = true := by decide +kernel
theorem dX5_count_137 : decode cX5_count 137 = .ok (.iconst 1, 1) := dc_at dkX5_count_b6 0 rfl
theorem dX5_count_138 : decode cX5_count 138 = .ok (.baload, 1) := dc_at dkX5_count_b6 1 rfl
theorem dX5_count_139 : decode cX5_count 139 = .ok (.invokestatic 221, 3) := dc_at dkX5_count_b6 2 rfl
theorem dX5_count_142 : decode cX5_count 142 = .ok (.iadd, 1) := dc_at dkX5_count_b6 3 rfl
theorem dX5_count_143 : decode cX5_count 143 = .ok (.ireturn, 1) := dc_at dkX5_count_b6 4 rfl
theorem dX5_count_144 : decode cX5_count 144 = .ok (.aload_n 0, 1) := dc_at dkX5_count_b6 5 rfl
theorem dX5_count_145 : decode cX5_count 145 = .ok (.getfield 70, 3) := dc_at dkX5_count_b6 6 rfl
theorem dX5_count_148 : decode cX5_count 148 = .ok (.ireturn, 1) := dc_at dkX5_count_b6 7 rfl
theorem dX5_count_149 : decode cX5_count 149 = .ok (.aload_n 0, 1) := dc_at dkX5_count_b6 8 rfl
theorem dX5_count_150 : decode cX5_count 150 = .ok (.getfield 44, 3) := dc_at dkX5_count_b6 9 rfl
def drX5_count_b7 : List (Nat × (Instr × Nat)) := [(153, (.iconst 0, 1)), (154, (.iaload, 1)), (155, (.bipush (-4), 2)), (157, (.if_icmp .ne 8, 3)), (160, (.bipush (-4), 2)), (162, (.goto 9, 3)), (165, (.aload_n 0, 1)), (166, (.getfield 47, 3)), (169, (.iconst 0, 1)), (170, (.iaload, 1))]
theorem dkX5_count_b7 : ((drX5_count_b7).all fun r => decide (decode cX5_count r.1 = .ok r.2)) = true := by decide +kernel
theorem dX5_count_153 : decode cX5_count 153 = .ok (.iconst 0, 1) := dc_at dkX5_count_b7 0 rfl
theorem dX5_count_154 : decode cX5_count 154 = .ok (.iaload, 1) := dc_at dkX5_count_b7 1 rfl
theorem dX5_count_155 : decode cX5_count 155 = .ok (.bipush (-4), 2) := dc_at dkX5_count_b7 2 rfl
theorem dX5_count_157 : decode cX5_count 157 = .ok (.if_icmp .ne 8, 3) := dc_at dkX5_count_b7 3 rfl
theorem dX5_count_160 : decode cX5_count 160 = .ok (.bipush (-4), 2) := dc_at dkX5_count_b7 4 rfl
theorem dX5_count_162 : decode cX5_count 162 = .ok (.goto 9, 3) := dc_at dkX5_count_b7 5 rfl
theorem dX5_count_165 : decode cX5_count 165 = .ok (.aload_n 0, 1) := dc_at dkX5_count_b7 6 rfl
theorem dX5_count_166 : decode cX5_count 166 = .ok (.getfield 47, 3) := dc_at dkX5_count_b7 7 rfl
theorem dX5_count_169 : decode cX5_count 169 = .ok (.iconst 0, 1) := dc_at dkX5_count_b7 8 rfl
theorem dX5_count_170 : decode cX5_count 170 = .ok (.iaload, 1) := dc_at dkX5_count_b7 9 rfl
def drX5_count_b8 : List (Nat × (Instr × Nat)) := [(171, (.ireturn, 1)), (172, (.iconst (-1), 1)), (173, (.ireturn, 1))]
theorem dkX5_count_b8 : ((drX5_count_b8).all fun r => decide (decode cX5_count r.1 = .ok r.2)) = true := by decide +kernel
theorem dX5_count_171 : decode cX5_count 171 = .ok (.ireturn, 1) := dc_at dkX5_count_b8 0 rfl
theorem dX5_count_172 : decode cX5_count 172 = .ok (.iconst (-1), 1) := dc_at dkX5_count_b8 1 rfl
theorem dX5_count_173 : decode cX5_count 173 = .ok (.ireturn, 1) := dc_at dkX5_count_b8 2 rfl
def drJ6_bitCount_0f7a4_b0 : List (Nat × (Instr × Nat)) := [(0, (.iload_n 0, 1)), (1, (.iload_n 0, 1)), (2, (.iconst 1, 1)), (3, (.iushr, 1)), (4, (.ldc_w 265, 3)), (7, (.iand, 1)), (8, (.isub, 1)), (9, (.istore_n 0, 1)), (10, (.iload_n 0, 1)), (11, (.ldc_w 266, 3))]
theorem dkJ6_bitCount_0f7a4_b0 : ((drJ6_bitCount_0f7a4_b0).all fun r => decide (decode cJ6_bitCount_0f7a4 r.1 = .ok r.2)) = true := by decide +kernel
theorem dJ6_bitCount_0f7a4_0 : decode cJ6_bitCount_0f7a4 0 = .ok (.iload_n 0, 1) := dc_at dkJ6_bitCount_0f7a4_b0 0 rfl
theorem dJ6_bitCount_0f7a4_1 : decode cJ6_bitCount_0f7a4 1 = .ok (.iload_n 0, 1) := dc_at dkJ6_bitCount_0f7a4_b0 1 rfl
theorem dJ6_bitCount_0f7a4_2 : decode cJ6_bitCount_0f7a4 2 = .ok (.iconst 1, 1) := dc_at dkJ6_bitCount_0f7a4_b0 2 rfl
theorem dJ6_bitCount_0f7a4_3 : decode cJ6_bitCount_0f7a4 3 = .ok (.iushr, 1) := dc_at dkJ6_bitCount_0f7a4_b0 3 rfl
theorem dJ6_bitCount_0f7a4_4 : decode cJ6_bitCount_0f7a4 4 = .ok (.ldc_w 265, 3) := dc_at dkJ6_bitCount_0f7a4_b0 4 rfl
theorem dJ6_bitCount_0f7a4_7 : decode cJ6_bitCount_0f7a4 7 = .ok (.iand, 1) := dc_at dkJ6_bitCount_0f7a4_b0 5 rfl
theorem dJ6_bitCount_0f7a4_8 : decode cJ6_bitCount_0f7a4 8 = .ok (.isub, 1) := dc_at dkJ6_bitCount_0f7a4_b0 6 rfl
theorem dJ6_bitCount_0f7a4_9 : decode cJ6_bitCount_0f7a4 9 = .ok (.istore_n 0, 1) := dc_at dkJ6_bitCount_0f7a4_b0 7 rfl
theorem dJ6_bitCount_0f7a4_10 : decode cJ6_bitCount_0f7a4 10 = .ok (.iload_n 0, 1) := dc_at dkJ6_bitCount_0f7a4_b0 8 rfl
theorem dJ6_bitCount_0f7a4_11 : decode cJ6_bitCount_0f7a4 11 = .ok (.ldc_w 266, 3) := dc_at dkJ6_bitCount_0f7a4_b0 9 rfl
def drJ6_bitCount_0f7a4_b1 : List (Nat × (Instr × Nat)) := [(14, (.iand, 1)), (15, (.iload_n 0, 1)), (16, (.iconst 2, 1)), (17, (.iushr, 1)), (18, (.ldc_w 266, 3)), (21, (.iand, 1)), (22, (.iadd, 1)), (23, (.istore_n 0, 1)), (24, (.iload_n 0, 1)), (25, (.iload_n 0, 1))]
theorem dkJ6_bitCount_0f7a4_b1 : ((drJ6_bitCount_0f7a4_b1).all fun r => decide (decode cJ6_bitCount_0f7a4 r.1 = .ok r.2)) = true := by decide +kernel
theorem dJ6_bitCount_0f7a4_14 : decode cJ6_bitCount_0f7a4 14 = .ok (.iand, 1) := dc_at dkJ6_bitCount_0f7a4_b1 0 rfl
theorem dJ6_bitCount_0f7a4_15 : decode cJ6_bitCount_0f7a4 15 = .ok (.iload_n 0, 1) := dc_at dkJ6_bitCount_0f7a4_b1 1 rfl
theorem dJ6_bitCount_0f7a4_16 : decode cJ6_bitCount_0f7a4 16 = .ok (.iconst 2, 1) := dc_at dkJ6_bitCount_0f7a4_b1 2 rfl
theorem dJ6_bitCount_0f7a4_17 : decode cJ6_bitCount_0f7a4 17 = .ok (.iushr, 1) := dc_at dkJ6_bitCount_0f7a4_b1 3 rfl
theorem dJ6_bitCount_0f7a4_18 : decode cJ6_bitCount_0f7a4 18 = .ok (.ldc_w 266, 3) := dc_at dkJ6_bitCount_0f7a4_b1 4 rfl
theorem dJ6_bitCount_0f7a4_21 : decode cJ6_bitCount_0f7a4 21 = .ok (.iand, 1) := dc_at dkJ6_bitCount_0f7a4_b1 5 rfl
theorem dJ6_bitCount_0f7a4_22 : decode cJ6_bitCount_0f7a4 22 = .ok (.iadd, 1) := dc_at dkJ6_bitCount_0f7a4_b1 6 rfl
theorem dJ6_bitCount_0f7a4_23 : decode cJ6_bitCount_0f7a4 23 = .ok (.istore_n 0, 1) := dc_at dkJ6_bitCount_0f7a4_b1 7 rfl
theorem dJ6_bitCount_0f7a4_24 : decode cJ6_bitCount_0f7a4 24 = .ok (.iload_n 0, 1) := dc_at dkJ6_bitCount_0f7a4_b1 8 rfl
theorem dJ6_bitCount_0f7a4_25 : decode cJ6_bitCount_0f7a4 25 = .ok (.iload_n 0, 1) := dc_at dkJ6_bitCount_0f7a4_b1 9 rfl
def drJ6_bitCount_0f7a4_b2 : List (Nat × (Instr × Nat)) := [(26, (.iconst 4, 1)), (27, (.iushr, 1)), (28, (.iadd, 1)), (29, (.ldc_w 267, 3)), (32, (.iand, 1)), (33, (.istore_n 0, 1)), (34, (.iload_n 0, 1)), (35, (.iload_n 0, 1)), (36, (.bipush 8, 2)), (38, (.iushr, 1))]
theorem dkJ6_bitCount_0f7a4_b2 : ((drJ6_bitCount_0f7a4_b2).all fun r => decide (decode cJ6_bitCount_0f7a4 r.1 = .ok r.2)) = true := by decide +kernel
theorem dJ6_bitCount_0f7a4_26 : decode cJ6_bitCount_0f7a4 26 = .ok (.iconst 4, 1) := dc_at dkJ6_bitCount_0f7a4_b2 0 rfl
theorem dJ6_bitCount_0f7a4_27 : decode cJ6_bitCount_0f7a4 27 = .ok (.iushr, 1) := dc_at dkJ6_bitCount_0f7a4_b2 1 rfl
theorem dJ6_bitCount_0f7a4_28 : decode cJ6_bitCount_0f7a4 28 = .ok (.iadd, 1) := dc_at dkJ6_bitCount_0f7a4_b2 2 rfl
theorem dJ6_bitCount_0f7a4_29 : decode cJ6_bitCount_0f7a4 29 = .ok (.ldc_w 267, 3) := dc_at dkJ6_bitCount_0f7a4_b2 3 rfl
theorem dJ6_bitCount_0f7a4_32 : decode cJ6_bitCount_0f7a4 32 = .ok (.iand, 1) := dc_at dkJ6_bitCount_0f7a4_b2 4 rfl
theorem dJ6_bitCount_0f7a4_33 : decode cJ6_bitCount_0f7a4 33 = .ok (.istore_n 0, 1) := dc_at dkJ6_bitCount_0f7a4_b2 5 rfl
theorem dJ6_bitCount_0f7a4_34 : decode cJ6_bitCount_0f7a4 34 = .ok (.iload_n 0, 1) := dc_at dkJ6_bitCount_0f7a4_b2 6 rfl
theorem dJ6_bitCount_0f7a4_35 : decode cJ6_bitCount_0f7a4 35 = .ok (.iload_n 0, 1) := dc_at dkJ6_bitCount_0f7a4_b2 7 rfl
theorem dJ6_bitCount_0f7a4_36 : decode cJ6_bitCount_0f7a4 36 = .ok (.bipush 8, 2) := dc_at dkJ6_bitCount_0f7a4_b2 8 rfl
theorem dJ6_bitCount_0f7a4_38 : decode cJ6_bitCount_0f7a4 38 = .ok (.iushr, 1) := dc_at dkJ6_bitCount_0f7a4_b2 9 rfl
def drJ6_bitCount_0f7a4_b3 : List (Nat × (Instr × Nat)) := [(39, (.iadd, 1)), (40, (.istore_n 0, 1)), (41, (.iload_n 0, 1)), (42, (.iload_n 0, 1)), (43, (.bipush 16, 2)), (45, (.iushr, 1)), (46, (.iadd, 1)), (47, (.istore_n 0, 1)), (48, (.iload_n 0, 1)), (49, (.bipush 63, 2))]
theorem dkJ6_bitCount_0f7a4_b3 : ((drJ6_bitCount_0f7a4_b3).all fun r => decide (decode cJ6_bitCount_0f7a4 r.1 = .ok r.2)) = true := by decide +kernel
theorem dJ6_bitCount_0f7a4_39 : decode cJ6_bitCount_0f7a4 39 = .ok (.iadd, 1) := dc_at dkJ6_bitCount_0f7a4_b3 0 rfl
theorem dJ6_bitCount_0f7a4_40 : decode cJ6_bitCount_0f7a4 40 = .ok (.istore_n 0, 1) := dc_at dkJ6_bitCount_0f7a4_b3 1 rfl
theorem dJ6_bitCount_0f7a4_41 : decode cJ6_bitCount_0f7a4 41 = .ok (.iload_n 0, 1) := dc_at dkJ6_bitCount_0f7a4_b3 2 rfl
theorem dJ6_bitCount_0f7a4_42 : decode cJ6_bitCount_0f7a4 42 = .ok (.iload_n 0, 1) := dc_at dkJ6_bitCount_0f7a4_b3 3 rfl
theorem dJ6_bitCount_0f7a4_43 : decode cJ6_bitCount_0f7a4 43 = .ok (.bipush 16, 2) := dc_at dkJ6_bitCount_0f7a4_b3 4 rfl
theorem dJ6_bitCount_0f7a4_45 : decode cJ6_bitCount_0f7a4 45 = .ok (.iushr, 1) := dc_at dkJ6_bitCount_0f7a4_b3 5 rfl
theorem dJ6_bitCount_0f7a4_46 : decode cJ6_bitCount_0f7a4 46 = .ok (.iadd, 1) := dc_at dkJ6_bitCount_0f7a4_b3 6 rfl
theorem dJ6_bitCount_0f7a4_47 : decode cJ6_bitCount_0f7a4 47 = .ok (.istore_n 0, 1) := dc_at dkJ6_bitCount_0f7a4_b3 7 rfl
theorem dJ6_bitCount_0f7a4_48 : decode cJ6_bitCount_0f7a4 48 = .ok (.iload_n 0, 1) := dc_at dkJ6_bitCount_0f7a4_b3 8 rfl
theorem dJ6_bitCount_0f7a4_49 : decode cJ6_bitCount_0f7a4 49 = .ok (.bipush 63, 2) := dc_at dkJ6_bitCount_0f7a4_b3 9 rfl
def drJ6_bitCount_0f7a4_b4 : List (Nat × (Instr × Nat)) := [(51, (.iand, 1)), (52, (.ireturn, 1))]
theorem dkJ6_bitCount_0f7a4_b4 : ((drJ6_bitCount_0f7a4_b4).all fun r => decide (decode cJ6_bitCount_0f7a4 r.1 = .ok r.2)) = true := by decide +kernel
theorem dJ6_bitCount_0f7a4_51 : decode cJ6_bitCount_0f7a4 51 = .ok (.iand, 1) := dc_at dkJ6_bitCount_0f7a4_b4 0 rfl
theorem dJ6_bitCount_0f7a4_52 : decode cJ6_bitCount_0f7a4 52 = .ok (.ireturn, 1) := dc_at dkJ6_bitCount_0f7a4_b4 1 rfl
def drJ9_abs_0f7a4_b0 : List (Nat × (Instr × Nat)) := [(0, (.iload_n 0, 1)), (1, (.ifCond .ge 8, 3)), (4, (.iload_n 0, 1)), (5, (.ineg, 1)), (6, (.goto 4, 3)), (9, (.iload_n 0, 1)), (10, (.ireturn, 1))]
theorem dkJ9_abs_0f7a4_b0 : ((drJ9_abs_0f7a4_b0).all fun r => decide (decode cJ9_abs_0f7a4 r.1 = .ok r.2)) = true := by decide +kernel
theorem dJ9_abs_0f7a4_0 : decode cJ9_abs_0f7a4 0 = .ok (.iload_n 0, 1) := dc_at dkJ9_abs_0f7a4_b0 0 rfl
theorem dJ9_abs_0f7a4_1 : decode cJ9_abs_0f7a4 1 = .ok (.ifCond .ge 8, 3) := dc_at dkJ9_abs_0f7a4_b0 1 rfl
theorem dJ9_abs_0f7a4_4 : decode cJ9_abs_0f7a4 4 = .ok (.iload_n 0, 1) := dc_at dkJ9_abs_0f7a4_b0 2 rfl
theorem dJ9_abs_0f7a4_5 : decode cJ9_abs_0f7a4 5 = .ok (.ineg, 1) := dc_at dkJ9_abs_0f7a4_b0 3 rfl
theorem dJ9_abs_0f7a4_6 : decode cJ9_abs_0f7a4 6 = .ok (.goto 4, 3) := dc_at dkJ9_abs_0f7a4_b0 4 rfl
theorem dJ9_abs_0f7a4_9 : decode cJ9_abs_0f7a4 9 = .ok (.iload_n 0, 1) := dc_at dkJ9_abs_0f7a4_b0 5 rfl
theorem dJ9_abs_0f7a4_10 : decode cJ9_abs_0f7a4 10 = .ok (.ireturn, 1) := dc_at dkJ9_abs_0f7a4_b0 6 rfl
def drJ9_max_7cf53_b0 : List (Nat × (Instr × Nat)) := [(0, (.iload_n 0, 1)), (1, (.iload_n 1, 1)), (2, (.if_icmp .lt 7, 3)), (5, (.iload_n 0, 1)), (6, (.goto 4, 3)), (9, (.iload_n 1, 1)), (10, (.ireturn, 1))]
theorem dkJ9_max_7cf53_b0 : ((drJ9_max_7cf53_b0).all fun r => decide (decode cJ9_max_7cf53 r.1 = .ok r.2)) = true := by decide +kernel
theorem dJ9_max_7cf53_0 : decode cJ9_max_7cf53 0 = .ok (.iload_n 0, 1) := dc_at dkJ9_max_7cf53_b0 0 rfl
theorem dJ9_max_7cf53_1 : decode cJ9_max_7cf53 1 = .ok (.iload_n 1, 1) := dc_at dkJ9_max_7cf53_b0 1 rfl
theorem dJ9_max_7cf53_2 : decode cJ9_max_7cf53 2 = .ok (.if_icmp .lt 7, 3) := dc_at dkJ9_max_7cf53_b0 2 rfl
theorem dJ9_max_7cf53_5 : decode cJ9_max_7cf53 5 = .ok (.iload_n 0, 1) := dc_at dkJ9_max_7cf53_b0 3 rfl
theorem dJ9_max_7cf53_6 : decode cJ9_max_7cf53 6 = .ok (.goto 4, 3) := dc_at dkJ9_max_7cf53_b0 4 rfl
theorem dJ9_max_7cf53_9 : decode cJ9_max_7cf53 9 = .ok (.iload_n 1, 1) := dc_at dkJ9_max_7cf53_b0 5 rfl
theorem dJ9_max_7cf53_10 : decode cJ9_max_7cf53 10 = .ok (.ireturn, 1) := dc_at dkJ9_max_7cf53_b0 6 rfl
def drJ9_min_7cf53_b0 : List (Nat × (Instr × Nat)) := [(0, (.iload_n 0, 1)), (1, (.iload_n 1, 1)), (2, (.if_icmp .gt 7, 3)), (5, (.iload_n 0, 1)), (6, (.goto 4, 3)), (9, (.iload_n 1, 1)), (10, (.ireturn, 1))]
theorem dkJ9_min_7cf53_b0 : ((drJ9_min_7cf53_b0).all fun r => decide (decode cJ9_min_7cf53 r.1 = .ok r.2)) = true := by decide +kernel
theorem dJ9_min_7cf53_0 : decode cJ9_min_7cf53 0 = .ok (.iload_n 0, 1) := dc_at dkJ9_min_7cf53_b0 0 rfl
theorem dJ9_min_7cf53_1 : decode cJ9_min_7cf53 1 = .ok (.iload_n 1, 1) := dc_at dkJ9_min_7cf53_b0 1 rfl
theorem dJ9_min_7cf53_2 : decode cJ9_min_7cf53 2 = .ok (.if_icmp .gt 7, 3) := dc_at dkJ9_min_7cf53_b0 2 rfl
theorem dJ9_min_7cf53_5 : decode cJ9_min_7cf53 5 = .ok (.iload_n 0, 1) := dc_at dkJ9_min_7cf53_b0 3 rfl
theorem dJ9_min_7cf53_6 : decode cJ9_min_7cf53 6 = .ok (.goto 4, 3) := dc_at dkJ9_min_7cf53_b0 4 rfl
theorem dJ9_min_7cf53_9 : decode cJ9_min_7cf53 9 = .ok (.iload_n 1, 1) := dc_at dkJ9_min_7cf53_b0 5 rfl
theorem dJ9_min_7cf53_10 : decode cJ9_min_7cf53 10 = .ok (.ireturn, 1) := dc_at dkJ9_min_7cf53_b0 6 rfl
def drJ0_length_8abf5_b0 : List (Nat × (Instr × Nat)) := [(0, (.aload_n 0, 1)), (1, (.getfield 9, 3)), (4, (.arraylength, 1)), (5, (.aload_n 0, 1)), (6, (.invokevirtual 335, 3)), (9, (.ishr, 1)), (10, (.ireturn, 1))]
theorem dkJ0_length_8abf5_b0 : ((drJ0_length_8abf5_b0).all fun r => decide (decode cJ0_length_8abf5 r.1 = .ok r.2)) = true := by decide +kernel
theorem dJ0_length_8abf5_0 : decode cJ0_length_8abf5 0 = .ok (.aload_n 0, 1) := dc_at dkJ0_length_8abf5_b0 0 rfl
theorem dJ0_length_8abf5_1 : decode cJ0_length_8abf5 1 = .ok (.getfield 9, 3) := dc_at dkJ0_length_8abf5_b0 1 rfl
theorem dJ0_length_8abf5_4 : decode cJ0_length_8abf5 4 = .ok (.arraylength, 1) := dc_at dkJ0_length_8abf5_b0 2 rfl
theorem dJ0_length_8abf5_5 : decode cJ0_length_8abf5 5 = .ok (.aload_n 0, 1) := dc_at dkJ0_length_8abf5_b0 3 rfl
theorem dJ0_length_8abf5_6 : decode cJ0_length_8abf5 6 = .ok (.invokevirtual 335, 3) := dc_at dkJ0_length_8abf5_b0 4 rfl
theorem dJ0_length_8abf5_9 : decode cJ0_length_8abf5 9 = .ok (.ishr, 1) := dc_at dkJ0_length_8abf5_b0 5 rfl
theorem dJ0_length_8abf5_10 : decode cJ0_length_8abf5 10 = .ok (.ireturn, 1) := dc_at dkJ0_length_8abf5_b0 6 rfl
def drJ0_charAt_5068e_b0 : List (Nat × (Instr × Nat)) := [(0, (.aload_n 0, 1)), (1, (.invokevirtual 492, 3)), (4, (.ifCond .eq 12, 3)), (7, (.aload_n 0, 1)), (8, (.getfield 9, 3)), (11, (.iload_n 1, 1)), (12, (.invokestatic 495, 3)), (15, (.ireturn, 1)), (16, (.aload_n 0, 1)), (17, (.getfield 9, 3))]
theorem dkJ0_charAt_5068e_b0 : ((drJ0_charAt_5068e_b0).all fun r => decide (decode cJ0_charAt_5068e r.1 = .ok r.2)) = true := by decide +kernel
theorem dJ0_charAt_5068e_0 : decode cJ0_charAt_5068e 0 = .ok (.aload_n 0, 1) := dc_at dkJ0_charAt_5068e_b0 0 rfl
theorem dJ0_charAt_5068e_1 : decode cJ0_charAt_5068e 1 = .ok (.invokevirtual 492, 3) := dc_at dkJ0_charAt_5068e_b0 1 rfl
theorem dJ0_charAt_5068e_4 : decode cJ0_charAt_5068e 4 = .ok (.ifCond .eq 12, 3) := dc_at dkJ0_charAt_5068e_b0 2 rfl
theorem dJ0_charAt_5068e_7 : decode cJ0_charAt_5068e 7 = .ok (.aload_n 0, 1) := dc_at dkJ0_charAt_5068e_b0 3 rfl
theorem dJ0_charAt_5068e_8 : decode cJ0_charAt_5068e 8 = .ok (.getfield 9, 3) := dc_at dkJ0_charAt_5068e_b0 4 rfl
theorem dJ0_charAt_5068e_11 : decode cJ0_charAt_5068e 11 = .ok (.iload_n 1, 1) := dc_at dkJ0_charAt_5068e_b0 5 rfl
theorem dJ0_charAt_5068e_12 : decode cJ0_charAt_5068e 12 = .ok (.invokestatic 495, 3) := dc_at dkJ0_charAt_5068e_b0 6 rfl
theorem dJ0_charAt_5068e_15 : decode cJ0_charAt_5068e 15 = .ok (.ireturn, 1) := dc_at dkJ0_charAt_5068e_b0 7 rfl
theorem dJ0_charAt_5068e_16 : decode cJ0_charAt_5068e 16 = .ok (.aload_n 0, 1) := dc_at dkJ0_charAt_5068e_b0 8 rfl
theorem dJ0_charAt_5068e_17 : decode cJ0_charAt_5068e 17 = .ok (.getfield 9, 3) := dc_at dkJ0_charAt_5068e_b0 9 rfl
def drJ0_charAt_5068e_b1 : List (Nat × (Instr × Nat)) := [(20, (.iload_n 1, 1)), (21, (.invokestatic 498, 3)), (24, (.ireturn, 1))]
theorem dkJ0_charAt_5068e_b1 : ((drJ0_charAt_5068e_b1).all fun r => decide (decode cJ0_charAt_5068e r.1 = .ok r.2)) = true := by decide +kernel
theorem dJ0_charAt_5068e_20 : decode cJ0_charAt_5068e 20 = .ok (.iload_n 1, 1) := dc_at dkJ0_charAt_5068e_b1 0 rfl
theorem dJ0_charAt_5068e_21 : decode cJ0_charAt_5068e 21 = .ok (.invokestatic 498, 3) := dc_at dkJ0_charAt_5068e_b1 1 rfl
theorem dJ0_charAt_5068e_24 : decode cJ0_charAt_5068e 24 = .ok (.ireturn, 1) := dc_at dkJ0_charAt_5068e_b1 2 rfl
def drJ0_coder_7d493_b0 : List (Nat × (Instr × Nat)) := [(0, (.getstatic 38, 3)), (3, (.ifCond .eq 10, 3)), (6, (.aload_n 0, 1)), (7, (.getfield 15, 3)), (10, (.goto 4, 3)), (13, (.iconst 1, 1)), (14, (.ireturn, 1))]
theorem dkJ0_coder_7d493_b0 : ((drJ0_coder_7d493_b0).all fun r => decide (decode cJ0_coder_7d493 r.1 = .ok r.2)) = true := by decide +kernel
theorem dJ0_coder_7d493_0 : decode cJ0_coder_7d493 0 = .ok (.getstatic 38, 3) := dc_at dkJ0_coder_7d493_b0 0 rfl
theorem dJ0_coder_7d493_3 : decode cJ0_coder_7d493 3 = .ok (.ifCond .eq 10, 3) := dc_at dkJ0_coder_7d493_b0 1 rfl
theorem dJ0_coder_7d493_6 : decode cJ0_coder_7d493 6 = .ok (.aload_n 0, 1) := dc_at dkJ0_coder_7d493_b0 2 rfl
theorem dJ0_coder_7d493_7 : decode cJ0_coder_7d493 7 = .ok (.getfield 15, 3) := dc_at dkJ0_coder_7d493_b0 3 rfl
theorem dJ0_coder_7d493_10 : decode cJ0_coder_7d493 10 = .ok (.goto 4, 3) := dc_at dkJ0_coder_7d493_b0 4 rfl
theorem dJ0_coder_7d493_13 : decode cJ0_coder_7d493 13 = .ok (.iconst 1, 1) := dc_at dkJ0_coder_7d493_b0 5 rfl
theorem dJ0_coder_7d493_14 : decode cJ0_coder_7d493 14 = .ok (.ireturn, 1) := dc_at dkJ0_coder_7d493_b0 6 rfl
def drJ0_isLatin1_aae02_b0 : List (Nat × (Instr × Nat)) := [(0, (.getstatic 38, 3)), (3, (.ifCond .eq 14, 3)), (6, (.aload_n 0, 1)), (7, (.getfield 15, 3)), (10, (.ifCond .ne 7, 3)), (13, (.iconst 1, 1)), (14, (.goto 4, 3)), (17, (.iconst 0, 1)), (18, (.ireturn, 1))]
theorem dkJ0_isLatin1_aae02_b0 : ((drJ0_isLatin1_aae02_b0).all fun r => decide (decode cJ0_isLatin1_aae02 r.1 = .ok r.2)) = true := by decide +kernel
theorem dJ0_isLatin1_aae02_0 : decode cJ0_isLatin1_aae02 0 = .ok (.getstatic 38, 3) := dc_at dkJ0_isLatin1_aae02_b0 0 rfl
theorem dJ0_isLatin1_aae02_3 : decode cJ0_isLatin1_aae02 3 = .ok (.ifCond .eq 14, 3) := dc_at dkJ0_isLatin1_aae02_b0 1 rfl
theorem dJ0_isLatin1_aae02_6 : decode cJ0_isLatin1_aae02 6 = .ok (.aload_n 0, 1) := dc_at dkJ0_isLatin1_aae02_b0 2 rfl
theorem dJ0_isLatin1_aae02_7 : decode cJ0_isLatin1_aae02 7 = .ok (.getfield 15, 3) := dc_at dkJ0_isLatin1_aae02_b0 3 rfl
theorem dJ0_isLatin1_aae02_10 : decode cJ0_isLatin1_aae02 10 = .ok (.ifCond .ne 7, 3) := dc_at dkJ0_isLatin1_aae02_b0 4 rfl
theorem dJ0_isLatin1_aae02_13 : decode cJ0_isLatin1_aae02 13 = .ok (.iconst 1, 1) := dc_at dkJ0_isLatin1_aae02_b0 5 rfl
theorem dJ0_isLatin1_aae02_14 : decode cJ0_isLatin1_aae02 14 = .ok (.goto 4, 3) := dc_at dkJ0_isLatin1_aae02_b0 6 rfl
theorem dJ0_isLatin1_aae02_17 : decode cJ0_isLatin1_aae02 17 = .ok (.iconst 0, 1) := dc_at dkJ0_isLatin1_aae02_b0 7 rfl
theorem dJ0_isLatin1_aae02_18 : decode cJ0_isLatin1_aae02 18 = .ok (.ireturn, 1) := dc_at dkJ0_isLatin1_aae02_b0 8 rfl
def drJ0_checkIndex_df160_b0 : List (Nat × (Instr × Nat)) := [(0, (.iload_n 0, 1)), (1, (.iload_n 1, 1)), (2, (.getstatic 1053, 3)), (5, (.invokestatic 1059, 3)), (8, (.pop, 1)), (9, (.return_, 1))]
theorem dkJ0_checkIndex_df160_b0 : ((drJ0_checkIndex_df160_b0).all fun r => decide (decode cJ0_checkIndex_df160 r.1 = .ok r.2)) = true := by decide +kernel
theorem dJ0_checkIndex_df160_0 : decode cJ0_checkIndex_df160 0 = .ok (.iload_n 0, 1) := dc_at dkJ0_checkIndex_df160_b0 0 rfl
theorem dJ0_checkIndex_df160_1 : decode cJ0_checkIndex_df160 1 = .ok (.iload_n 1, 1) := dc_at dkJ0_checkIndex_df160_b0 1 rfl
theorem dJ0_checkIndex_df160_2 : decode cJ0_checkIndex_df160 2 = .ok (.getstatic 1053, 3) := dc_at dkJ0_checkIndex_df160_b0 2 rfl
theorem dJ0_checkIndex_df160_5 : decode cJ0_checkIndex_df160 5 = .ok (.invokestatic 1059, 3) := dc_at dkJ0_checkIndex_df160_b0 3 rfl
theorem dJ0_checkIndex_df160_8 : decode cJ0_checkIndex_df160 8 = .ok (.pop, 1) := dc_at dkJ0_checkIndex_df160_b0 4 rfl
theorem dJ0_checkIndex_df160_9 : decode cJ0_checkIndex_df160 9 = .ok (.return_, 1) := dc_at dkJ0_checkIndex_df160_b0 5 rfl
def drJ1_charAt_3b067_b0 : List (Nat × (Instr × Nat)) := [(0, (.iload_n 1, 1)), (1, (.aload_n 0, 1)), (2, (.arraylength, 1)), (3, (.invokestatic 9, 3)), (6, (.aload_n 0, 1)), (7, (.iload_n 1, 1)), (8, (.baload, 1)), (9, (.sipush 255, 3)), (12, (.iand, 1)), (13, (.i2c, 1))]
theorem dkJ1_charAt_3b067_b0 : ((drJ1_charAt_3b067_b0).all fun r => decide (decode cJ1_charAt_3b067 r.1 = .ok r.2)) = true := by decide +kernel
theorem dJ1_charAt_3b067_0 : decode cJ1_charAt_3b067 0 = .ok (.iload_n 1, 1) := dc_at dkJ1_charAt_3b067_b0 0 rfl
theorem dJ1_charAt_3b067_1 : decode cJ1_charAt_3b067 1 = .ok (.aload_n 0, 1) := dc_at dkJ1_charAt_3b067_b0 1 rfl
theorem dJ1_charAt_3b067_2 : decode cJ1_charAt_3b067 2 = .ok (.arraylength, 1) := dc_at dkJ1_charAt_3b067_b0 2 rfl
theorem dJ1_charAt_3b067_3 : decode cJ1_charAt_3b067 3 = .ok (.invokestatic 9, 3) := dc_at dkJ1_charAt_3b067_b0 3 rfl
theorem dJ1_charAt_3b067_6 : decode cJ1_charAt_3b067 6 = .ok (.aload_n 0, 1) := dc_at dkJ1_charAt_3b067_b0 4 rfl
theorem dJ1_charAt_3b067_7 : decode cJ1_charAt_3b067 7 = .ok (.iload_n 1, 1) := dc_at dkJ1_charAt_3b067_b0 5 rfl
theorem dJ1_charAt_3b067_8 : decode cJ1_charAt_3b067 8 = .ok (.baload, 1) := dc_at dkJ1_charAt_3b067_b0 6 rfl
theorem dJ1_charAt_3b067_9 : decode cJ1_charAt_3b067 9 = .ok (.sipush 255, 3) := dc_at dkJ1_charAt_3b067_b0 7 rfl
theorem dJ1_charAt_3b067_12 : decode cJ1_charAt_3b067 12 = .ok (.iand, 1) := dc_at dkJ1_charAt_3b067_b0 8 rfl
theorem dJ1_charAt_3b067_13 : decode cJ1_charAt_3b067 13 = .ok (.i2c, 1) := dc_at dkJ1_charAt_3b067_b0 9 rfl
def drJ1_charAt_3b067_b1 : List (Nat × (Instr × Nat)) := [(14, (.ireturn, 1))]
theorem dkJ1_charAt_3b067_b1 : ((drJ1_charAt_3b067_b1).all fun r => decide (decode cJ1_charAt_3b067 r.1 = .ok r.2)) = true := by decide +kernel
theorem dJ1_charAt_3b067_14 : decode cJ1_charAt_3b067 14 = .ok (.ireturn, 1) := dc_at dkJ1_charAt_3b067_b1 0 rfl
def drJ2_getChar_3b067_b0 : List (Nat × (Instr × Nat)) := [(0, (.getstatic 44, 3)), (3, (.ifCond .ne 25, 3)), (6, (.iload_n 1, 1)), (7, (.ifCond .lt 11, 3)), (10, (.iload_n 1, 1)), (11, (.aload_n 0, 1)), (12, (.invokestatic 48, 3)), (15, (.if_icmp .lt 13, 3)), (18, (.new 52, 3)), (21, (.dup, 1))]
theorem dkJ2_getChar_3b067_b0 : ((drJ2_getChar_3b067_b0).all fun r => decide (decode cJ2_getChar_3b067 r.1 = .ok r.2)) = true := by decide +kernel
theorem dJ2_getChar_3b067_0 : decode cJ2_getChar_3b067 0 = .ok (.getstatic 44, 3) := dc_at dkJ2_getChar_3b067_b0 0 rfl
theorem dJ2_getChar_3b067_3 : decode cJ2_getChar_3b067 3 = .ok (.ifCond .ne 25, 3) := dc_at dkJ2_getChar_3b067_b0 1 rfl
theorem dJ2_getChar_3b067_6 : decode cJ2_getChar_3b067 6 = .ok (.iload_n 1, 1) := dc_at dkJ2_getChar_3b067_b0 2 rfl
theorem dJ2_getChar_3b067_7 : decode cJ2_getChar_3b067 7 = .ok (.ifCond .lt 11, 3) := dc_at dkJ2_getChar_3b067_b0 3 rfl
theorem dJ2_getChar_3b067_10 : decode cJ2_getChar_3b067 10 = .ok (.iload_n 1, 1) := dc_at dkJ2_getChar_3b067_b0 4 rfl
theorem dJ2_getChar_3b067_11 : decode cJ2_getChar_3b067 11 = .ok (.aload_n 0, 1) := dc_at dkJ2_getChar_3b067_b0 5 rfl
theorem dJ2_getChar_3b067_12 : decode cJ2_getChar_3b067 12 = .ok (.invokestatic 48, 3) := dc_at dkJ2_getChar_3b067_b0 6 rfl
theorem dJ2_getChar_3b067_15 : decode cJ2_getChar_3b067 15 = .ok (.if_icmp .lt 13, 3) := dc_at dkJ2_getChar_3b067_b0 7 rfl
theorem dJ2_getChar_3b067_18 : decode cJ2_getChar_3b067 18 = .ok (.new 52, 3) := dc_at dkJ2_getChar_3b067_b0 8 rfl
theorem dJ2_getChar_3b067_21 : decode cJ2_getChar_3b067 21 = .ok (.dup, 1) := dc_at dkJ2_getChar_3b067_b0 9 rfl
def drJ2_getChar_3b067_b1 : List (Nat × (Instr × Nat)) := [(22, (.ldc 54, 2)), (24, (.invokespecial 56, 3)), (27, (.athrow, 1)), (28, (.iload_n 1, 1)), (29, (.iconst 1, 1)), (30, (.ishl, 1)), (31, (.istore_n 1, 1)), (32, (.aload_n 0, 1)), (33, (.iload_n 1, 1)), (34, (.iinc 1 1, 3))]
theorem dkJ2_getChar_3b067_b1 : ((drJ2_getChar_3b067_b1).all fun r => decide (decode cJ2_getChar_3b067 r.1 = .ok r.2)) = true := by decide +kernel
theorem dJ2_getChar_3b067_22 : decode cJ2_getChar_3b067 22 = .ok (.ldc 54, 2) := dc_at dkJ2_getChar_3b067_b1 0 rfl
theorem dJ2_getChar_3b067_24 : decode cJ2_getChar_3b067 24 = .ok (.invokespecial 56, 3) := dc_at dkJ2_getChar_3b067_b1 1 rfl
theorem dJ2_getChar_3b067_27 : decode cJ2_getChar_3b067 27 = .ok (.athrow, 1) := dc_at dkJ2_getChar_3b067_b1 2 rfl
theorem dJ2_getChar_3b067_28 : decode cJ2_getChar_3b067 28 = .ok (.iload_n 1, 1) := dc_at dkJ2_getChar_3b067_b1 3 rfl
theorem dJ2_getChar_3b067_29 : decode cJ2_getChar_3b067 29 = .ok (.iconst 1, 1) := dc_at dkJ2_getChar_3b067_b1 4 rfl
theorem dJ2_getChar_3b067_30 : decode cJ2_getChar_3b067 30 = .ok (.ishl, 1) := dc_at dkJ2_getChar_3b067_b1 5 rfl
theorem dJ2_getChar_3b067_31 : decode cJ2_getChar_3b067 31 = .ok (.istore_n 1, 1) := dc_at dkJ2_getChar_3b067_b1 6 rfl
theorem dJ2_getChar_3b067_32 : decode cJ2_getChar_3b067 32 = .ok (.aload_n 0, 1) := dc_at dkJ2_getChar_3b067_b1 7 rfl
theorem dJ2_getChar_3b067_33 : decode cJ2_getChar_3b067 33 = .ok (.iload_n 1, 1) := dc_at dkJ2_getChar_3b067_b1 8 rfl
theorem dJ2_getChar_3b067_34 : decode cJ2_getChar_3b067 34 = .ok (.iinc 1 1, 3) := dc_at dkJ2_getChar_3b067_b1 9 rfl
def drJ2_getChar_3b067_b2 : List (Nat × (Instr × Nat)) := [(37, (.baload, 1)), (38, (.sipush 255, 3)), (41, (.iand, 1)), (42, (.getstatic 59, 3)), (45, (.ishl, 1)), (46, (.aload_n 0, 1)), (47, (.iload_n 1, 1)), (48, (.baload, 1)), (49, (.sipush 255, 3)), (52, (.iand, 1))]
theorem dkJ2_getChar_3b067_b2 : ((drJ2_getChar_3b067_b2).all fun r => decide (decode cJ2_getChar_3b067 r.1 = .ok r.2)) = true := by decide +kernel
theorem dJ2_getChar_3b067_37 : decode cJ2_getChar_3b067 37 = .ok (.baload, 1) := dc_at dkJ2_getChar_3b067_b2 0 rfl
theorem dJ2_getChar_3b067_38 : decode cJ2_getChar_3b067 38 = .ok (.sipush 255, 3) := dc_at dkJ2_getChar_3b067_b2 1 rfl
theorem dJ2_getChar_3b067_41 : decode cJ2_getChar_3b067 41 = .ok (.iand, 1) := dc_at dkJ2_getChar_3b067_b2 2 rfl
theorem dJ2_getChar_3b067_42 : decode cJ2_getChar_3b067 42 = .ok (.getstatic 59, 3) := dc_at dkJ2_getChar_3b067_b2 3 rfl
theorem dJ2_getChar_3b067_45 : decode cJ2_getChar_3b067 45 = .ok (.ishl, 1) := dc_at dkJ2_getChar_3b067_b2 4 rfl
theorem dJ2_getChar_3b067_46 : decode cJ2_getChar_3b067 46 = .ok (.aload_n 0, 1) := dc_at dkJ2_getChar_3b067_b2 5 rfl
theorem dJ2_getChar_3b067_47 : decode cJ2_getChar_3b067 47 = .ok (.iload_n 1, 1) := dc_at dkJ2_getChar_3b067_b2 6 rfl
theorem dJ2_getChar_3b067_48 : decode cJ2_getChar_3b067 48 = .ok (.baload, 1) := dc_at dkJ2_getChar_3b067_b2 7 rfl
theorem dJ2_getChar_3b067_49 : decode cJ2_getChar_3b067 49 = .ok (.sipush 255, 3) := dc_at dkJ2_getChar_3b067_b2 8 rfl
theorem dJ2_getChar_3b067_52 : decode cJ2_getChar_3b067 52 = .ok (.iand, 1) := dc_at dkJ2_getChar_3b067_b2 9 rfl
def drJ2_getChar_3b067_b3 : List (Nat × (Instr × Nat)) := [(53, (.getstatic 63, 3)), (56, (.ishl, 1)), (57, (.ior, 1)), (58, (.i2c, 1)), (59, (.ireturn, 1))]
theorem dkJ2_getChar_3b067_b3 : ((drJ2_getChar_3b067_b3).all fun r => decide (decode cJ2_getChar_3b067 r.1 = .ok r.2)) = true := by decide +kernel
theorem dJ2_getChar_3b067_53 : decode cJ2_getChar_3b067 53 = .ok (.getstatic 63, 3) := dc_at dkJ2_getChar_3b067_b3 0 rfl
theorem dJ2_getChar_3b067_56 : decode cJ2_getChar_3b067 56 = .ok (.ishl, 1) := dc_at dkJ2_getChar_3b067_b3 1 rfl
theorem dJ2_getChar_3b067_57 : decode cJ2_getChar_3b067 57 = .ok (.ior, 1) := dc_at dkJ2_getChar_3b067_b3 2 rfl
theorem dJ2_getChar_3b067_58 : decode cJ2_getChar_3b067 58 = .ok (.i2c, 1) := dc_at dkJ2_getChar_3b067_b3 3 rfl
theorem dJ2_getChar_3b067_59 : decode cJ2_getChar_3b067 59 = .ok (.ireturn, 1) := dc_at dkJ2_getChar_3b067_b3 4 rfl
def drJ2_length_9d52b_b0 : List (Nat × (Instr × Nat)) := [(0, (.aload_n 0, 1)), (1, (.arraylength, 1)), (2, (.iconst 1, 1)), (3, (.ishr, 1)), (4, (.ireturn, 1))]
theorem dkJ2_length_9d52b_b0 : ((drJ2_length_9d52b_b0).all fun r => decide (decode cJ2_length_9d52b r.1 = .ok r.2)) = true := by decide +kernel
theorem dJ2_length_9d52b_0 : decode cJ2_length_9d52b 0 = .ok (.aload_n 0, 1) := dc_at dkJ2_length_9d52b_b0 0 rfl
theorem dJ2_length_9d52b_1 : decode cJ2_length_9d52b 1 = .ok (.arraylength, 1) := dc_at dkJ2_length_9d52b_b0 1 rfl
theorem dJ2_length_9d52b_2 : decode cJ2_length_9d52b 2 = .ok (.iconst 1, 1) := dc_at dkJ2_length_9d52b_b0 2 rfl
theorem dJ2_length_9d52b_3 : decode cJ2_length_9d52b 3 = .ok (.ishr, 1) := dc_at dkJ2_length_9d52b_b0 3 rfl
theorem dJ2_length_9d52b_4 : decode cJ2_length_9d52b 4 = .ok (.ireturn, 1) := dc_at dkJ2_length_9d52b_b0 4 rfl
def drJ2_charAt_3b067_b0 : List (Nat × (Instr × Nat)) := [(0, (.iload_n 1, 1)), (1, (.aload_n 0, 1)), (2, (.invokestatic 67, 3)), (5, (.aload_n 0, 1)), (6, (.iload_n 1, 1)), (7, (.invokestatic 71, 3)), (10, (.ireturn, 1))]
theorem dkJ2_charAt_3b067_b0 : ((drJ2_charAt_3b067_b0).all fun r => decide (decode cJ2_charAt_3b067 r.1 = .ok r.2)) = true := by decide +kernel
theorem dJ2_charAt_3b067_0 : decode cJ2_charAt_3b067 0 = .ok (.iload_n 1, 1) := dc_at dkJ2_charAt_3b067_b0 0 rfl
theorem dJ2_charAt_3b067_1 : decode cJ2_charAt_3b067 1 = .ok (.aload_n 0, 1) := dc_at dkJ2_charAt_3b067_b0 1 rfl
theorem dJ2_charAt_3b067_2 : decode cJ2_charAt_3b067 2 = .ok (.invokestatic 67, 3) := dc_at dkJ2_charAt_3b067_b0 2 rfl
theorem dJ2_charAt_3b067_5 : decode cJ2_charAt_3b067 5 = .ok (.aload_n 0, 1) := dc_at dkJ2_charAt_3b067_b0 3 rfl
theorem dJ2_charAt_3b067_6 : decode cJ2_charAt_3b067 6 = .ok (.iload_n 1, 1) := dc_at dkJ2_charAt_3b067_b0 4 rfl
theorem dJ2_charAt_3b067_7 : decode cJ2_charAt_3b067 7 = .ok (.invokestatic 71, 3) := dc_at dkJ2_charAt_3b067_b0 5 rfl
theorem dJ2_charAt_3b067_10 : decode cJ2_charAt_3b067 10 = .ok (.ireturn, 1) := dc_at dkJ2_charAt_3b067_b0 6 rfl
def drJ2_checkIndex_2214a_b0 : List (Nat × (Instr × Nat)) := [(0, (.iload_n 0, 1)), (1, (.aload_n 1, 1)), (2, (.invokestatic 48, 3)), (5, (.invokestatic 414, 3)), (8, (.return_, 1))]
theorem dkJ2_checkIndex_2214a_b0 : ((drJ2_checkIndex_2214a_b0).all fun r => decide (decode cJ2_checkIndex_2214a r.1 = .ok r.2)) = true := by decide +kernel
theorem dJ2_checkIndex_2214a_0 : decode cJ2_checkIndex_2214a 0 = .ok (.iload_n 0, 1) := dc_at dkJ2_checkIndex_2214a_b0 0 rfl
theorem dJ2_checkIndex_2214a_1 : decode cJ2_checkIndex_2214a 1 = .ok (.aload_n 1, 1) := dc_at dkJ2_checkIndex_2214a_b0 1 rfl
theorem dJ2_checkIndex_2214a_2 : decode cJ2_checkIndex_2214a 2 = .ok (.invokestatic 48, 3) := dc_at dkJ2_checkIndex_2214a_b0 2 rfl
theorem dJ2_checkIndex_2214a_5 : decode cJ2_checkIndex_2214a 5 = .ok (.invokestatic 414, 3) := dc_at dkJ2_checkIndex_2214a_b0 3 rfl
theorem dJ2_checkIndex_2214a_8 : decode cJ2_checkIndex_2214a 8 = .ok (.return_, 1) := dc_at dkJ2_checkIndex_2214a_b0 4 rfl
def drJ3_checkIndex_8e157_b0 : List (Nat × (Instr × Nat)) := [(0, (.iload_n 0, 1)), (1, (.ifCond .lt 8, 3)), (4, (.iload_n 0, 1)), (5, (.iload_n 1, 1)), (6, (.if_icmp .lt 10, 3)), (9, (.aload_n 2, 1)), (10, (.iload_n 0, 1)), (11, (.iload_n 1, 1)), (12, (.invokestatic 95, 3)), (15, (.athrow, 1))]
theorem dkJ3_checkIndex_8e157_b0 : ((drJ3_checkIndex_8e157_b0).all fun r => decide (decode cJ3_checkIndex_8e157 r.1 = .ok r.2)) = true := by decide +kernel
theorem dJ3_checkIndex_8e157_0 : decode cJ3_checkIndex_8e157 0 = .ok (.iload_n 0, 1) := dc_at dkJ3_checkIndex_8e157_b0 0 rfl
theorem dJ3_checkIndex_8e157_1 : decode cJ3_checkIndex_8e157 1 = .ok (.ifCond .lt 8, 3) := dc_at dkJ3_checkIndex_8e157_b0 1 rfl
theorem dJ3_checkIndex_8e157_4 : decode cJ3_checkIndex_8e157 4 = .ok (.iload_n 0, 1) := dc_at dkJ3_checkIndex_8e157_b0 2 rfl
theorem dJ3_checkIndex_8e157_5 : decode cJ3_checkIndex_8e157 5 = .ok (.iload_n 1, 1) := dc_at dkJ3_checkIndex_8e157_b0 3 rfl
theorem dJ3_checkIndex_8e157_6 : decode cJ3_checkIndex_8e157 6 = .ok (.if_icmp .lt 10, 3) := dc_at dkJ3_checkIndex_8e157_b0 4 rfl
theorem dJ3_checkIndex_8e157_9 : decode cJ3_checkIndex_8e157 9 = .ok (.aload_n 2, 1) := dc_at dkJ3_checkIndex_8e157_b0 5 rfl
theorem dJ3_checkIndex_8e157_10 : decode cJ3_checkIndex_8e157 10 = .ok (.iload_n 0, 1) := dc_at dkJ3_checkIndex_8e157_b0 6 rfl
theorem dJ3_checkIndex_8e157_11 : decode cJ3_checkIndex_8e157 11 = .ok (.iload_n 1, 1) := dc_at dkJ3_checkIndex_8e157_b0 7 rfl
theorem dJ3_checkIndex_8e157_12 : decode cJ3_checkIndex_8e157 12 = .ok (.invokestatic 95, 3) := dc_at dkJ3_checkIndex_8e157_b0 8 rfl
theorem dJ3_checkIndex_8e157_15 : decode cJ3_checkIndex_8e157 15 = .ok (.athrow, 1) := dc_at dkJ3_checkIndex_8e157_b0 9 rfl
def drJ3_checkIndex_8e157_b1 : List (Nat × (Instr × Nat)) := [(16, (.iload_n 0, 1)), (17, (.ireturn, 1))]
theorem dkJ3_checkIndex_8e157_b1 : ((drJ3_checkIndex_8e157_b1).all fun r => decide (decode cJ3_checkIndex_8e157 r.1 = .ok r.2)) = true := by decide +kernel
theorem dJ3_checkIndex_8e157_16 : decode cJ3_checkIndex_8e157 16 = .ok (.iload_n 0, 1) := dc_at dkJ3_checkIndex_8e157_b1 0 rfl
theorem dJ3_checkIndex_8e157_17 : decode cJ3_checkIndex_8e157 17 = .ok (.ireturn, 1) := dc_at dkJ3_checkIndex_8e157_b1 1 rfl
def drL_law_b0 : List (Nat × (Instr × Nat)) := [(0, (.new 7, 3)), (3, (.dup, 1)), (4, (.invokespecial 9, 3)), (7, (.astore_n 1, 1)), (8, (.new 10, 3)), (11, (.dup, 1)), (12, (.invokespecial 12, 3)), (15, (.astore_n 2, 1)), (16, (.iconst 0, 1)), (17, (.istore_n 3, 1))]
theorem dkL_law_b0 : ((drL_law_b0).all fun r => decide (decode cL_law r.1 = .ok r.2)) = true := by decide +kernel
theorem dL_law_0 : decode cL_law 0 = .ok (.new 7, 3) := dc_at dkL_law_b0 0 rfl
theorem dL_law_3 : decode cL_law 3 = .ok (.dup, 1) := dc_at dkL_law_b0 1 rfl
theorem dL_law_4 : decode cL_law 4 = .ok (.invokespecial 9, 3) := dc_at dkL_law_b0 2 rfl
theorem dL_law_7 : decode cL_law 7 = .ok (.astore_n 1, 1) := dc_at dkL_law_b0 3 rfl
theorem dL_law_8 : decode cL_law 8 = .ok (.new 10, 3) := dc_at dkL_law_b0 4 rfl
theorem dL_law_11 : decode cL_law 11 = .ok (.dup, 1) := dc_at dkL_law_b0 5 rfl
theorem dL_law_12 : decode cL_law 12 = .ok (.invokespecial 12, 3) := dc_at dkL_law_b0 6 rfl
theorem dL_law_15 : decode cL_law 15 = .ok (.astore_n 2, 1) := dc_at dkL_law_b0 7 rfl
theorem dL_law_16 : decode cL_law 16 = .ok (.iconst 0, 1) := dc_at dkL_law_b0 8 rfl
theorem dL_law_17 : decode cL_law 17 = .ok (.istore_n 3, 1) := dc_at dkL_law_b0 9 rfl
def drL_law_b1 : List (Nat × (Instr × Nat)) := [(18, (.iload_n 3, 1)), (19, (.aload_n 0, 1)), (20, (.arraylength, 1)), (21, (.bipush 6, 2)), (23, (.isub, 1)), (24, (.if_icmp .gt 1419, 3)), (27, (.aload_n 0, 1)), (28, (.iload_n 3, 1)), (29, (.iaload, 1)), (30, (.bipush 63, 2))]
theorem dkL_law_b1 : ((drL_law_b1).all fun r => decide (decode cL_law r.1 = .ok r.2)) = true := by decide +kernel
theorem dL_law_18 : decode cL_law 18 = .ok (.iload_n 3, 1) := dc_at dkL_law_b1 0 rfl
theorem dL_law_19 : decode cL_law 19 = .ok (.aload_n 0, 1) := dc_at dkL_law_b1 1 rfl
theorem dL_law_20 : decode cL_law 20 = .ok (.arraylength, 1) := dc_at dkL_law_b1 2 rfl
theorem dL_law_21 : decode cL_law 21 = .ok (.bipush 6, 2) := dc_at dkL_law_b1 3 rfl
theorem dL_law_23 : decode cL_law 23 = .ok (.isub, 1) := dc_at dkL_law_b1 4 rfl
theorem dL_law_24 : decode cL_law 24 = .ok (.if_icmp .gt 1419, 3) := dc_at dkL_law_b1 5 rfl
theorem dL_law_27 : decode cL_law 27 = .ok (.aload_n 0, 1) := dc_at dkL_law_b1 6 rfl
theorem dL_law_28 : decode cL_law 28 = .ok (.iload_n 3, 1) := dc_at dkL_law_b1 7 rfl
theorem dL_law_29 : decode cL_law 29 = .ok (.iaload, 1) := dc_at dkL_law_b1 8 rfl
theorem dL_law_30 : decode cL_law 30 = .ok (.bipush 63, 2) := dc_at dkL_law_b1 9 rfl
def drL_law_b2 : List (Nat × (Instr × Nat)) := [(32, (.iand, 1)), (33, (.tableswitch 1404 0 40 #[179, 232, 255, 268, 281, 304, 353, 386, 399, 442, 465, 488, 537, 570, 593, 616, 639, 662, 705, 728, 751, 784, 817, 840, 863, 896, 919, 952, 975, 998, 1061, 1114, 1147, 1160, 1183, 1206, 1229, 1272, 1315, 1368, 1381], 179)), (212, (.aload_n 1, 1)), (213, (.aload_n 0, 1)), (214, (.iload_n 3, 1)), (215, (.iconst 1, 1)), (216, (.iadd, 1)), (217, (.iaload, 1)), (218, (.i2l, 1)), (219, (.bipush 32, 2))]
theorem dkL_law_b2 : ((drL_law_b2).all fun r => decide (decode cL_law r.1 = .ok r.2)) = true := by decide +kernel
theorem dL_law_32 : decode cL_law 32 = .ok (.iand, 1) := dc_at dkL_law_b2 0 rfl
theorem dL_law_33 : decode cL_law 33 = .ok (.tableswitch 1404 0 40 #[179, 232, 255, 268, 281, 304, 353, 386, 399, 442, 465, 488, 537, 570, 593, 616, 639, 662, 705, 728, 751, 784, 817, 840, 863, 896, 919, 952, 975, 998, 1061, 1114, 1147, 1160, 1183, 1206, 1229, 1272, 1315, 1368, 1381], 179) := dc_at dkL_law_b2 1 rfl
theorem dL_law_212 : decode cL_law 212 = .ok (.aload_n 1, 1) := dc_at dkL_law_b2 2 rfl
theorem dL_law_213 : decode cL_law 213 = .ok (.aload_n 0, 1) := dc_at dkL_law_b2 3 rfl
theorem dL_law_214 : decode cL_law 214 = .ok (.iload_n 3, 1) := dc_at dkL_law_b2 4 rfl
theorem dL_law_215 : decode cL_law 215 = .ok (.iconst 1, 1) := dc_at dkL_law_b2 5 rfl
theorem dL_law_216 : decode cL_law 216 = .ok (.iadd, 1) := dc_at dkL_law_b2 6 rfl
theorem dL_law_217 : decode cL_law 217 = .ok (.iaload, 1) := dc_at dkL_law_b2 7 rfl
theorem dL_law_218 : decode cL_law 218 = .ok (.i2l, 1) := dc_at dkL_law_b2 8 rfl
theorem dL_law_219 : decode cL_law 219 = .ok (.bipush 32, 2) := dc_at dkL_law_b2 9 rfl
def drL_law_b3 : List (Nat × (Instr × Nat)) := [(221, (.lshl, 1)), (222, (.aload_n 0, 1)), (223, (.iload_n 3, 1)), (224, (.iconst 2, 1)), (225, (.iadd, 1)), (226, (.iaload, 1)), (227, (.i2l, 1)), (228, (.ldc2_w 13, 3)), (231, (.land, 1)), (232, (.lor, 1))]
theorem dkL_law_b3 : ((drL_law_b3).all fun r => decide (decode cL_law r.1 = .ok r.2)) = true := by decide +kernel
theorem dL_law_221 : decode cL_law 221 = .ok (.lshl, 1) := dc_at dkL_law_b3 0 rfl
theorem dL_law_222 : decode cL_law 222 = .ok (.aload_n 0, 1) := dc_at dkL_law_b3 1 rfl
theorem dL_law_223 : decode cL_law 223 = .ok (.iload_n 3, 1) := dc_at dkL_law_b3 2 rfl
theorem dL_law_224 : decode cL_law 224 = .ok (.iconst 2, 1) := dc_at dkL_law_b3 3 rfl
theorem dL_law_225 : decode cL_law 225 = .ok (.iadd, 1) := dc_at dkL_law_b3 4 rfl
theorem dL_law_226 : decode cL_law 226 = .ok (.iaload, 1) := dc_at dkL_law_b3 5 rfl
theorem dL_law_227 : decode cL_law 227 = .ok (.i2l, 1) := dc_at dkL_law_b3 6 rfl
theorem dL_law_228 : decode cL_law 228 = .ok (.ldc2_w 13, 3) := dc_at dkL_law_b3 7 rfl
theorem dL_law_231 : decode cL_law 231 = .ok (.land, 1) := dc_at dkL_law_b3 8 rfl
theorem dL_law_232 : decode cL_law 232 = .ok (.lor, 1) := dc_at dkL_law_b3 9 rfl
def drL_law_b4 : List (Nat × (Instr × Nat)) := [(233, (.invokevirtual 15, 3)), (236, (.pop, 1)), (237, (.aload_n 2, 1)), (238, (.aload_n 0, 1)), (239, (.iload_n 3, 1)), (240, (.iconst 1, 1)), (241, (.iadd, 1)), (242, (.iaload, 1)), (243, (.i2l, 1)), (244, (.bipush 32, 2))]
theorem dkL_law_b4 : ((drL_law_b4).all fun r => decide (decode cL_law r.1 = .ok r.2)) = true := by decide +kernel
theorem dL_law_233 : decode cL_law 233 = .ok (.invokevirtual 15, 3) := dc_at dkL_law_b4 0 rfl
theorem dL_law_236 : decode cL_law 236 = .ok (.pop, 1) := dc_at dkL_law_b4 1 rfl
theorem dL_law_237 : decode cL_law 237 = .ok (.aload_n 2, 1) := dc_at dkL_law_b4 2 rfl
theorem dL_law_238 : decode cL_law 238 = .ok (.aload_n 0, 1) := dc_at dkL_law_b4 3 rfl
theorem dL_law_239 : decode cL_law 239 = .ok (.iload_n 3, 1) := dc_at dkL_law_b4 4 rfl
theorem dL_law_240 : decode cL_law 240 = .ok (.iconst 1, 1) := dc_at dkL_law_b4 5 rfl
theorem dL_law_241 : decode cL_law 241 = .ok (.iadd, 1) := dc_at dkL_law_b4 6 rfl
theorem dL_law_242 : decode cL_law 242 = .ok (.iaload, 1) := dc_at dkL_law_b4 7 rfl
theorem dL_law_243 : decode cL_law 243 = .ok (.i2l, 1) := dc_at dkL_law_b4 8 rfl
theorem dL_law_244 : decode cL_law 244 = .ok (.bipush 32, 2) := dc_at dkL_law_b4 9 rfl
def drL_law_b5 : List (Nat × (Instr × Nat)) := [(246, (.lshl, 1)), (247, (.aload_n 0, 1)), (248, (.iload_n 3, 1)), (249, (.iconst 2, 1)), (250, (.iadd, 1)), (251, (.iaload, 1)), (252, (.i2l, 1)), (253, (.ldc2_w 13, 3)), (256, (.land, 1)), (257, (.lor, 1))]
theorem dkL_law_b5 : ((drL_law_b5).all fun r => decide (decode cL_law r.1 = .ok r.2)) = true := by decide +kernel
theorem dL_law_246 : decode cL_law 246 = .ok (.lshl, 1) := dc_at dkL_law_b5 0 rfl
theorem dL_law_247 : decode cL_law 247 = .ok (.aload_n 0, 1) := dc_at dkL_law_b5 1 rfl
theorem dL_law_248 : decode cL_law 248 = .ok (.iload_n 3, 1) := dc_at dkL_law_b5 2 rfl
theorem dL_law_249 : decode cL_law 249 = .ok (.iconst 2, 1) := dc_at dkL_law_b5 3 rfl
theorem dL_law_250 : decode cL_law 250 = .ok (.iadd, 1) := dc_at dkL_law_b5 4 rfl
theorem dL_law_251 : decode cL_law 251 = .ok (.iaload, 1) := dc_at dkL_law_b5 5 rfl
theorem dL_law_252 : decode cL_law 252 = .ok (.i2l, 1) := dc_at dkL_law_b5 6 rfl
theorem dL_law_253 : decode cL_law 253 = .ok (.ldc2_w 13, 3) := dc_at dkL_law_b5 7 rfl
theorem dL_law_256 : decode cL_law 256 = .ok (.land, 1) := dc_at dkL_law_b5 8 rfl
theorem dL_law_257 : decode cL_law 257 = .ok (.lor, 1) := dc_at dkL_law_b5 9 rfl
def drL_law_b6 : List (Nat × (Instr × Nat)) := [(258, (.invokevirtual 19, 3)), (261, (.pop, 1)), (262, (.goto 1175, 3)), (265, (.aload_n 1, 1)), (266, (.aload_n 0, 1)), (267, (.iload_n 3, 1)), (268, (.iconst 1, 1)), (269, (.iadd, 1)), (270, (.iaload, 1)), (271, (.invokevirtual 20, 3))]
theorem dkL_law_b6 : ((drL_law_b6).all fun r => decide (decode cL_law r.1 = .ok r.2)) = true := by decide +kernel
theorem dL_law_258 : decode cL_law 258 = .ok (.invokevirtual 19, 3) := dc_at dkL_law_b6 0 rfl
theorem dL_law_261 : decode cL_law 261 = .ok (.pop, 1) := dc_at dkL_law_b6 1 rfl
theorem dL_law_262 : decode cL_law 262 = .ok (.goto 1175, 3) := dc_at dkL_law_b6 2 rfl
theorem dL_law_265 : decode cL_law 265 = .ok (.aload_n 1, 1) := dc_at dkL_law_b6 3 rfl
theorem dL_law_266 : decode cL_law 266 = .ok (.aload_n 0, 1) := dc_at dkL_law_b6 4 rfl
theorem dL_law_267 : decode cL_law 267 = .ok (.iload_n 3, 1) := dc_at dkL_law_b6 5 rfl
theorem dL_law_268 : decode cL_law 268 = .ok (.iconst 1, 1) := dc_at dkL_law_b6 6 rfl
theorem dL_law_269 : decode cL_law 269 = .ok (.iadd, 1) := dc_at dkL_law_b6 7 rfl
theorem dL_law_270 : decode cL_law 270 = .ok (.iaload, 1) := dc_at dkL_law_b6 8 rfl
theorem dL_law_271 : decode cL_law 271 = .ok (.invokevirtual 20, 3) := dc_at dkL_law_b6 9 rfl
def drL_law_b7 : List (Nat × (Instr × Nat)) := [(274, (.pop, 1)), (275, (.aload_n 2, 1)), (276, (.aload_n 0, 1)), (277, (.iload_n 3, 1)), (278, (.iconst 1, 1)), (279, (.iadd, 1)), (280, (.iaload, 1)), (281, (.invokevirtual 24, 3)), (284, (.pop, 1)), (285, (.goto 1152, 3))]
theorem dkL_law_b7 : ((drL_law_b7).all fun r => decide (decode cL_law r.1 = .ok r.2)) = true := by decide +kernel
theorem dL_law_274 : decode cL_law 274 = .ok (.pop, 1) := dc_at dkL_law_b7 0 rfl
theorem dL_law_275 : decode cL_law 275 = .ok (.aload_n 2, 1) := dc_at dkL_law_b7 1 rfl
theorem dL_law_276 : decode cL_law 276 = .ok (.aload_n 0, 1) := dc_at dkL_law_b7 2 rfl
theorem dL_law_277 : decode cL_law 277 = .ok (.iload_n 3, 1) := dc_at dkL_law_b7 3 rfl
theorem dL_law_278 : decode cL_law 278 = .ok (.iconst 1, 1) := dc_at dkL_law_b7 4 rfl
theorem dL_law_279 : decode cL_law 279 = .ok (.iadd, 1) := dc_at dkL_law_b7 5 rfl
theorem dL_law_280 : decode cL_law 280 = .ok (.iaload, 1) := dc_at dkL_law_b7 6 rfl
theorem dL_law_281 : decode cL_law 281 = .ok (.invokevirtual 24, 3) := dc_at dkL_law_b7 7 rfl
theorem dL_law_284 : decode cL_law 284 = .ok (.pop, 1) := dc_at dkL_law_b7 8 rfl
theorem dL_law_285 : decode cL_law 285 = .ok (.goto 1152, 3) := dc_at dkL_law_b7 9 rfl
def drL_law_b8 : List (Nat × (Instr × Nat)) := [(288, (.aload_n 1, 1)), (289, (.invokevirtual 25, 3)), (292, (.pop, 1)), (293, (.aload_n 2, 1)), (294, (.invokevirtual 29, 3)), (297, (.pop, 1)), (298, (.goto 1139, 3)), (301, (.aload_n 1, 1)), (302, (.invokevirtual 30, 3)), (305, (.pop, 1))]
theorem dkL_law_b8 : ((drL_law_b8).all fun r => decide (decode cL_law r.1 = .ok r.2)) = true := by decide +kernel
theorem dL_law_288 : decode cL_law 288 = .ok (.aload_n 1, 1) := dc_at dkL_law_b8 0 rfl
theorem dL_law_289 : decode cL_law 289 = .ok (.invokevirtual 25, 3) := dc_at dkL_law_b8 1 rfl
theorem dL_law_292 : decode cL_law 292 = .ok (.pop, 1) := dc_at dkL_law_b8 2 rfl
theorem dL_law_293 : decode cL_law 293 = .ok (.aload_n 2, 1) := dc_at dkL_law_b8 3 rfl
theorem dL_law_294 : decode cL_law 294 = .ok (.invokevirtual 29, 3) := dc_at dkL_law_b8 4 rfl
theorem dL_law_297 : decode cL_law 297 = .ok (.pop, 1) := dc_at dkL_law_b8 5 rfl
theorem dL_law_298 : decode cL_law 298 = .ok (.goto 1139, 3) := dc_at dkL_law_b8 6 rfl
theorem dL_law_301 : decode cL_law 301 = .ok (.aload_n 1, 1) := dc_at dkL_law_b8 7 rfl
theorem dL_law_302 : decode cL_law 302 = .ok (.invokevirtual 30, 3) := dc_at dkL_law_b8 8 rfl
theorem dL_law_305 : decode cL_law 305 = .ok (.pop, 1) := dc_at dkL_law_b8 9 rfl
def drL_law_b9 : List (Nat × (Instr × Nat)) := [(306, (.aload_n 2, 1)), (307, (.invokevirtual 33, 3)), (310, (.pop, 1)), (311, (.goto 1126, 3)), (314, (.aload_n 1, 1)), (315, (.aload_n 0, 1)), (316, (.iload_n 3, 1)), (317, (.iconst 1, 1)), (318, (.iadd, 1)), (319, (.iaload, 1))]
theorem dkL_law_b9 : ((drL_law_b9).all fun r => decide (decode cL_law r.1 = .ok r.2)) = true := by decide +kernel
theorem dL_law_306 : decode cL_law 306 = .ok (.aload_n 2, 1) := dc_at dkL_law_b9 0 rfl
theorem dL_law_307 : decode cL_law 307 = .ok (.invokevirtual 33, 3) := dc_at dkL_law_b9 1 rfl
theorem dL_law_310 : decode cL_law 310 = .ok (.pop, 1) := dc_at dkL_law_b9 2 rfl
theorem dL_law_311 : decode cL_law 311 = .ok (.goto 1126, 3) := dc_at dkL_law_b9 3 rfl
theorem dL_law_314 : decode cL_law 314 = .ok (.aload_n 1, 1) := dc_at dkL_law_b9 4 rfl
theorem dL_law_315 : decode cL_law 315 = .ok (.aload_n 0, 1) := dc_at dkL_law_b9 5 rfl
theorem dL_law_316 : decode cL_law 316 = .ok (.iload_n 3, 1) := dc_at dkL_law_b9 6 rfl
theorem dL_law_317 : decode cL_law 317 = .ok (.iconst 1, 1) := dc_at dkL_law_b9 7 rfl
theorem dL_law_318 : decode cL_law 318 = .ok (.iadd, 1) := dc_at dkL_law_b9 8 rfl
theorem dL_law_319 : decode cL_law 319 = .ok (.iaload, 1) := dc_at dkL_law_b9 9 rfl
def drL_law_b10 : List (Nat × (Instr × Nat)) := [(320, (.invokevirtual 34, 3)), (323, (.pop, 1)), (324, (.aload_n 2, 1)), (325, (.aload_n 0, 1)), (326, (.iload_n 3, 1)), (327, (.iconst 1, 1)), (328, (.iadd, 1)), (329, (.iaload, 1)), (330, (.invokevirtual 37, 3)), (333, (.pop, 1))]
theorem dkL_law_b10 : ((drL_law_b10).all fun r => decide (decode cL_law r.1 = .ok r.2)) = true := by decide +kernel
theorem dL_law_320 : decode cL_law 320 = .ok (.invokevirtual 34, 3) := dc_at dkL_law_b10 0 rfl
theorem dL_law_323 : decode cL_law 323 = .ok (.pop, 1) := dc_at dkL_law_b10 1 rfl
theorem dL_law_324 : decode cL_law 324 = .ok (.aload_n 2, 1) := dc_at dkL_law_b10 2 rfl
theorem dL_law_325 : decode cL_law 325 = .ok (.aload_n 0, 1) := dc_at dkL_law_b10 3 rfl
theorem dL_law_326 : decode cL_law 326 = .ok (.iload_n 3, 1) := dc_at dkL_law_b10 4 rfl
theorem dL_law_327 : decode cL_law 327 = .ok (.iconst 1, 1) := dc_at dkL_law_b10 5 rfl
theorem dL_law_328 : decode cL_law 328 = .ok (.iadd, 1) := dc_at dkL_law_b10 6 rfl
theorem dL_law_329 : decode cL_law 329 = .ok (.iaload, 1) := dc_at dkL_law_b10 7 rfl
theorem dL_law_330 : decode cL_law 330 = .ok (.invokevirtual 37, 3) := dc_at dkL_law_b10 8 rfl
theorem dL_law_333 : decode cL_law 333 = .ok (.pop, 1) := dc_at dkL_law_b10 9 rfl
def drL_law_b11 : List (Nat × (Instr × Nat)) := [(334, (.goto 1103, 3)), (337, (.aload_n 1, 1)), (338, (.aload_n 0, 1)), (339, (.iload_n 3, 1)), (340, (.iconst 1, 1)), (341, (.iadd, 1)), (342, (.iaload, 1)), (343, (.aload_n 0, 1)), (344, (.iload_n 3, 1)), (345, (.iconst 2, 1))]
theorem dkL_law_b11 : ((drL_law_b11).all fun r => decide (decode cL_law r.1 = .ok r.2)) = true := by decide +kernel
theorem dL_law_334 : decode cL_law 334 = .ok (.goto 1103, 3) := dc_at dkL_law_b11 0 rfl
theorem dL_law_337 : decode cL_law 337 = .ok (.aload_n 1, 1) := dc_at dkL_law_b11 1 rfl
theorem dL_law_338 : decode cL_law 338 = .ok (.aload_n 0, 1) := dc_at dkL_law_b11 2 rfl
theorem dL_law_339 : decode cL_law 339 = .ok (.iload_n 3, 1) := dc_at dkL_law_b11 3 rfl
theorem dL_law_340 : decode cL_law 340 = .ok (.iconst 1, 1) := dc_at dkL_law_b11 4 rfl
theorem dL_law_341 : decode cL_law 341 = .ok (.iadd, 1) := dc_at dkL_law_b11 5 rfl
theorem dL_law_342 : decode cL_law 342 = .ok (.iaload, 1) := dc_at dkL_law_b11 6 rfl
theorem dL_law_343 : decode cL_law 343 = .ok (.aload_n 0, 1) := dc_at dkL_law_b11 7 rfl
theorem dL_law_344 : decode cL_law 344 = .ok (.iload_n 3, 1) := dc_at dkL_law_b11 8 rfl
theorem dL_law_345 : decode cL_law 345 = .ok (.iconst 2, 1) := dc_at dkL_law_b11 9 rfl
def drL_law_b12 : List (Nat × (Instr × Nat)) := [(346, (.iadd, 1)), (347, (.iaload, 1)), (348, (.ifCond .eq 7, 3)), (351, (.iconst 1, 1)), (352, (.goto 4, 3)), (355, (.iconst 0, 1)), (356, (.invokevirtual 38, 3)), (359, (.pop, 1)), (360, (.aload_n 2, 1)), (361, (.aload_n 0, 1))]
theorem dkL_law_b12 : ((drL_law_b12).all fun r => decide (decode cL_law r.1 = .ok r.2)) = true := by decide +kernel
theorem dL_law_346 : decode cL_law 346 = .ok (.iadd, 1) := dc_at dkL_law_b12 0 rfl
theorem dL_law_347 : decode cL_law 347 = .ok (.iaload, 1) := dc_at dkL_law_b12 1 rfl
theorem dL_law_348 : decode cL_law 348 = .ok (.ifCond .eq 7, 3) := dc_at dkL_law_b12 2 rfl
theorem dL_law_351 : decode cL_law 351 = .ok (.iconst 1, 1) := dc_at dkL_law_b12 3 rfl
theorem dL_law_352 : decode cL_law 352 = .ok (.goto 4, 3) := dc_at dkL_law_b12 4 rfl
theorem dL_law_355 : decode cL_law 355 = .ok (.iconst 0, 1) := dc_at dkL_law_b12 5 rfl
theorem dL_law_356 : decode cL_law 356 = .ok (.invokevirtual 38, 3) := dc_at dkL_law_b12 6 rfl
theorem dL_law_359 : decode cL_law 359 = .ok (.pop, 1) := dc_at dkL_law_b12 7 rfl
theorem dL_law_360 : decode cL_law 360 = .ok (.aload_n 2, 1) := dc_at dkL_law_b12 8 rfl
theorem dL_law_361 : decode cL_law 361 = .ok (.aload_n 0, 1) := dc_at dkL_law_b12 9 rfl
def drL_law_b13 : List (Nat × (Instr × Nat)) := [(362, (.iload_n 3, 1)), (363, (.iconst 1, 1)), (364, (.iadd, 1)), (365, (.iaload, 1)), (366, (.aload_n 0, 1)), (367, (.iload_n 3, 1)), (368, (.iconst 2, 1)), (369, (.iadd, 1)), (370, (.iaload, 1)), (371, (.ifCond .eq 7, 3))]
theorem dkL_law_b13 : ((drL_law_b13).all fun r => decide (decode cL_law r.1 = .ok r.2)) = true := by decide +kernel
theorem dL_law_362 : decode cL_law 362 = .ok (.iload_n 3, 1) := dc_at dkL_law_b13 0 rfl
theorem dL_law_363 : decode cL_law 363 = .ok (.iconst 1, 1) := dc_at dkL_law_b13 1 rfl
theorem dL_law_364 : decode cL_law 364 = .ok (.iadd, 1) := dc_at dkL_law_b13 2 rfl
theorem dL_law_365 : decode cL_law 365 = .ok (.iaload, 1) := dc_at dkL_law_b13 3 rfl
theorem dL_law_366 : decode cL_law 366 = .ok (.aload_n 0, 1) := dc_at dkL_law_b13 4 rfl
theorem dL_law_367 : decode cL_law 367 = .ok (.iload_n 3, 1) := dc_at dkL_law_b13 5 rfl
theorem dL_law_368 : decode cL_law 368 = .ok (.iconst 2, 1) := dc_at dkL_law_b13 6 rfl
theorem dL_law_369 : decode cL_law 369 = .ok (.iadd, 1) := dc_at dkL_law_b13 7 rfl
theorem dL_law_370 : decode cL_law 370 = .ok (.iaload, 1) := dc_at dkL_law_b13 8 rfl
theorem dL_law_371 : decode cL_law 371 = .ok (.ifCond .eq 7, 3) := dc_at dkL_law_b13 9 rfl
def drL_law_b14 : List (Nat × (Instr × Nat)) := [(374, (.iconst 1, 1)), (375, (.goto 4, 3)), (378, (.iconst 0, 1)), (379, (.invokevirtual 42, 3)), (382, (.pop, 1)), (383, (.goto 1054, 3)), (386, (.aload_n 1, 1)), (387, (.aload_n 0, 1)), (388, (.iload_n 3, 1)), (389, (.iconst 1, 1))]
theorem dkL_law_b14 : ((drL_law_b14).all fun r => decide (decode cL_law r.1 = .ok r.2)) = true := by decide +kernel
theorem dL_law_374 : decode cL_law 374 = .ok (.iconst 1, 1) := dc_at dkL_law_b14 0 rfl
theorem dL_law_375 : decode cL_law 375 = .ok (.goto 4, 3) := dc_at dkL_law_b14 1 rfl
theorem dL_law_378 : decode cL_law 378 = .ok (.iconst 0, 1) := dc_at dkL_law_b14 2 rfl
theorem dL_law_379 : decode cL_law 379 = .ok (.invokevirtual 42, 3) := dc_at dkL_law_b14 3 rfl
theorem dL_law_382 : decode cL_law 382 = .ok (.pop, 1) := dc_at dkL_law_b14 4 rfl
theorem dL_law_383 : decode cL_law 383 = .ok (.goto 1054, 3) := dc_at dkL_law_b14 5 rfl
theorem dL_law_386 : decode cL_law 386 = .ok (.aload_n 1, 1) := dc_at dkL_law_b14 6 rfl
theorem dL_law_387 : decode cL_law 387 = .ok (.aload_n 0, 1) := dc_at dkL_law_b14 7 rfl
theorem dL_law_388 : decode cL_law 388 = .ok (.iload_n 3, 1) := dc_at dkL_law_b14 8 rfl
theorem dL_law_389 : decode cL_law 389 = .ok (.iconst 1, 1) := dc_at dkL_law_b14 9 rfl
def drL_law_b15 : List (Nat × (Instr × Nat)) := [(390, (.iadd, 1)), (391, (.iaload, 1)), (392, (.aload_n 0, 1)), (393, (.iload_n 3, 1)), (394, (.iconst 2, 1)), (395, (.iadd, 1)), (396, (.iaload, 1)), (397, (.invokevirtual 43, 3)), (400, (.pop, 1)), (401, (.aload_n 2, 1))]
theorem dkL_law_b15 : ((drL_law_b15).all fun r => decide (decode cL_law r.1 = .ok r.2)) = true := by decide +kernel
theorem dL_law_390 : decode cL_law 390 = .ok (.iadd, 1) := dc_at dkL_law_b15 0 rfl
theorem dL_law_391 : decode cL_law 391 = .ok (.iaload, 1) := dc_at dkL_law_b15 1 rfl
theorem dL_law_392 : decode cL_law 392 = .ok (.aload_n 0, 1) := dc_at dkL_law_b15 2 rfl
theorem dL_law_393 : decode cL_law 393 = .ok (.iload_n 3, 1) := dc_at dkL_law_b15 3 rfl
theorem dL_law_394 : decode cL_law 394 = .ok (.iconst 2, 1) := dc_at dkL_law_b15 4 rfl
theorem dL_law_395 : decode cL_law 395 = .ok (.iadd, 1) := dc_at dkL_law_b15 5 rfl
theorem dL_law_396 : decode cL_law 396 = .ok (.iaload, 1) := dc_at dkL_law_b15 6 rfl
theorem dL_law_397 : decode cL_law 397 = .ok (.invokevirtual 43, 3) := dc_at dkL_law_b15 7 rfl
theorem dL_law_400 : decode cL_law 400 = .ok (.pop, 1) := dc_at dkL_law_b15 8 rfl
theorem dL_law_401 : decode cL_law 401 = .ok (.aload_n 2, 1) := dc_at dkL_law_b15 9 rfl
def drL_law_b16 : List (Nat × (Instr × Nat)) := [(402, (.aload_n 0, 1)), (403, (.iload_n 3, 1)), (404, (.iconst 1, 1)), (405, (.iadd, 1)), (406, (.iaload, 1)), (407, (.aload_n 0, 1)), (408, (.iload_n 3, 1)), (409, (.iconst 2, 1)), (410, (.iadd, 1)), (411, (.iaload, 1))]
theorem dkL_law_b16 : ((drL_law_b16).all fun r => decide (decode cL_law r.1 = .ok r.2)) = true := by decide +kernel
theorem dL_law_402 : decode cL_law 402 = .ok (.aload_n 0, 1) := dc_at dkL_law_b16 0 rfl
theorem dL_law_403 : decode cL_law 403 = .ok (.iload_n 3, 1) := dc_at dkL_law_b16 1 rfl
theorem dL_law_404 : decode cL_law 404 = .ok (.iconst 1, 1) := dc_at dkL_law_b16 2 rfl
theorem dL_law_405 : decode cL_law 405 = .ok (.iadd, 1) := dc_at dkL_law_b16 3 rfl
theorem dL_law_406 : decode cL_law 406 = .ok (.iaload, 1) := dc_at dkL_law_b16 4 rfl
theorem dL_law_407 : decode cL_law 407 = .ok (.aload_n 0, 1) := dc_at dkL_law_b16 5 rfl
theorem dL_law_408 : decode cL_law 408 = .ok (.iload_n 3, 1) := dc_at dkL_law_b16 6 rfl
theorem dL_law_409 : decode cL_law 409 = .ok (.iconst 2, 1) := dc_at dkL_law_b16 7 rfl
theorem dL_law_410 : decode cL_law 410 = .ok (.iadd, 1) := dc_at dkL_law_b16 8 rfl
theorem dL_law_411 : decode cL_law 411 = .ok (.iaload, 1) := dc_at dkL_law_b16 9 rfl
def drL_law_b17 : List (Nat × (Instr × Nat)) := [(412, (.invokevirtual 47, 3)), (415, (.pop, 1)), (416, (.goto 1021, 3)), (419, (.aload_n 1, 1)), (420, (.invokevirtual 48, 3)), (423, (.pop, 1)), (424, (.aload_n 2, 1)), (425, (.invokevirtual 51, 3)), (428, (.pop, 1)), (429, (.goto 1008, 3))]
theorem dkL_law_b17 : ((drL_law_b17).all fun r => decide (decode cL_law r.1 = .ok r.2)) = true := by decide +kernel
theorem dL_law_412 : decode cL_law 412 = .ok (.invokevirtual 47, 3) := dc_at dkL_law_b17 0 rfl
theorem dL_law_415 : decode cL_law 415 = .ok (.pop, 1) := dc_at dkL_law_b17 1 rfl
theorem dL_law_416 : decode cL_law 416 = .ok (.goto 1021, 3) := dc_at dkL_law_b17 2 rfl
theorem dL_law_419 : decode cL_law 419 = .ok (.aload_n 1, 1) := dc_at dkL_law_b17 3 rfl
theorem dL_law_420 : decode cL_law 420 = .ok (.invokevirtual 48, 3) := dc_at dkL_law_b17 4 rfl
theorem dL_law_423 : decode cL_law 423 = .ok (.pop, 1) := dc_at dkL_law_b17 5 rfl
theorem dL_law_424 : decode cL_law 424 = .ok (.aload_n 2, 1) := dc_at dkL_law_b17 6 rfl
theorem dL_law_425 : decode cL_law 425 = .ok (.invokevirtual 51, 3) := dc_at dkL_law_b17 7 rfl
theorem dL_law_428 : decode cL_law 428 = .ok (.pop, 1) := dc_at dkL_law_b17 8 rfl
theorem dL_law_429 : decode cL_law 429 = .ok (.goto 1008, 3) := dc_at dkL_law_b17 9 rfl
def drL_law_b18 : List (Nat × (Instr × Nat)) := [(432, (.aload_n 1, 1)), (433, (.aload_n 0, 1)), (434, (.iload_n 3, 1)), (435, (.iconst 1, 1)), (436, (.iadd, 1)), (437, (.iaload, 1)), (438, (.aload_n 0, 1)), (439, (.iload_n 3, 1)), (440, (.iconst 2, 1)), (441, (.iadd, 1))]
theorem dkL_law_b18 : ((drL_law_b18).all fun r => decide (decode cL_law r.1 = .ok r.2)) = true := by decide +kernel
theorem dL_law_432 : decode cL_law 432 = .ok (.aload_n 1, 1) := dc_at dkL_law_b18 0 rfl
theorem dL_law_433 : decode cL_law 433 = .ok (.aload_n 0, 1) := dc_at dkL_law_b18 1 rfl
theorem dL_law_434 : decode cL_law 434 = .ok (.iload_n 3, 1) := dc_at dkL_law_b18 2 rfl
theorem dL_law_435 : decode cL_law 435 = .ok (.iconst 1, 1) := dc_at dkL_law_b18 3 rfl
theorem dL_law_436 : decode cL_law 436 = .ok (.iadd, 1) := dc_at dkL_law_b18 4 rfl
theorem dL_law_437 : decode cL_law 437 = .ok (.iaload, 1) := dc_at dkL_law_b18 5 rfl
theorem dL_law_438 : decode cL_law 438 = .ok (.aload_n 0, 1) := dc_at dkL_law_b18 6 rfl
theorem dL_law_439 : decode cL_law 439 = .ok (.iload_n 3, 1) := dc_at dkL_law_b18 7 rfl
theorem dL_law_440 : decode cL_law 440 = .ok (.iconst 2, 1) := dc_at dkL_law_b18 8 rfl
theorem dL_law_441 : decode cL_law 441 = .ok (.iadd, 1) := dc_at dkL_law_b18 9 rfl
def drL_law_b19 : List (Nat × (Instr × Nat)) := [(442, (.iaload, 1)), (443, (.aload_n 0, 1)), (444, (.iload_n 3, 1)), (445, (.iconst 3, 1)), (446, (.iadd, 1)), (447, (.iaload, 1)), (448, (.invokevirtual 52, 3)), (451, (.pop, 1)), (452, (.aload_n 2, 1)), (453, (.aload_n 0, 1))]
theorem dkL_law_b19 : ((drL_law_b19).all fun r => decide (decode cL_law r.1 = .ok r.2)) = true := by decide +kernel
theorem dL_law_442 : decode cL_law 442 = .ok (.iaload, 1) := dc_at dkL_law_b19 0 rfl
theorem dL_law_443 : decode cL_law 443 = .ok (.aload_n 0, 1) := dc_at dkL_law_b19 1 rfl
theorem dL_law_444 : decode cL_law 444 = .ok (.iload_n 3, 1) := dc_at dkL_law_b19 2 rfl
theorem dL_law_445 : decode cL_law 445 = .ok (.iconst 3, 1) := dc_at dkL_law_b19 3 rfl
theorem dL_law_446 : decode cL_law 446 = .ok (.iadd, 1) := dc_at dkL_law_b19 4 rfl
theorem dL_law_447 : decode cL_law 447 = .ok (.iaload, 1) := dc_at dkL_law_b19 5 rfl
theorem dL_law_448 : decode cL_law 448 = .ok (.invokevirtual 52, 3) := dc_at dkL_law_b19 6 rfl
theorem dL_law_451 : decode cL_law 451 = .ok (.pop, 1) := dc_at dkL_law_b19 7 rfl
theorem dL_law_452 : decode cL_law 452 = .ok (.aload_n 2, 1) := dc_at dkL_law_b19 8 rfl
theorem dL_law_453 : decode cL_law 453 = .ok (.aload_n 0, 1) := dc_at dkL_law_b19 9 rfl
def drL_law_b20 : List (Nat × (Instr × Nat)) := [(454, (.iload_n 3, 1)), (455, (.iconst 1, 1)), (456, (.iadd, 1)), (457, (.iaload, 1)), (458, (.aload_n 0, 1)), (459, (.iload_n 3, 1)), (460, (.iconst 2, 1)), (461, (.iadd, 1)), (462, (.iaload, 1)), (463, (.aload_n 0, 1))]
theorem dkL_law_b20 : ((drL_law_b20).all fun r => decide (decode cL_law r.1 = .ok r.2)) = true := by decide +kernel
theorem dL_law_454 : decode cL_law 454 = .ok (.iload_n 3, 1) := dc_at dkL_law_b20 0 rfl
theorem dL_law_455 : decode cL_law 455 = .ok (.iconst 1, 1) := dc_at dkL_law_b20 1 rfl
theorem dL_law_456 : decode cL_law 456 = .ok (.iadd, 1) := dc_at dkL_law_b20 2 rfl
theorem dL_law_457 : decode cL_law 457 = .ok (.iaload, 1) := dc_at dkL_law_b20 3 rfl
theorem dL_law_458 : decode cL_law 458 = .ok (.aload_n 0, 1) := dc_at dkL_law_b20 4 rfl
theorem dL_law_459 : decode cL_law 459 = .ok (.iload_n 3, 1) := dc_at dkL_law_b20 5 rfl
theorem dL_law_460 : decode cL_law 460 = .ok (.iconst 2, 1) := dc_at dkL_law_b20 6 rfl
theorem dL_law_461 : decode cL_law 461 = .ok (.iadd, 1) := dc_at dkL_law_b20 7 rfl
theorem dL_law_462 : decode cL_law 462 = .ok (.iaload, 1) := dc_at dkL_law_b20 8 rfl
theorem dL_law_463 : decode cL_law 463 = .ok (.aload_n 0, 1) := dc_at dkL_law_b20 9 rfl
def drL_law_b21 : List (Nat × (Instr × Nat)) := [(464, (.iload_n 3, 1)), (465, (.iconst 3, 1)), (466, (.iadd, 1)), (467, (.iaload, 1)), (468, (.invokevirtual 56, 3)), (471, (.pop, 1)), (472, (.goto 965, 3)), (475, (.aload_n 1, 1)), (476, (.aload_n 0, 1)), (477, (.iload_n 3, 1))]
theorem dkL_law_b21 : ((drL_law_b21).all fun r => decide (decode cL_law r.1 = .ok r.2)) = true := by decide +kernel
theorem dL_law_464 : decode cL_law 464 = .ok (.iload_n 3, 1) := dc_at dkL_law_b21 0 rfl
theorem dL_law_465 : decode cL_law 465 = .ok (.iconst 3, 1) := dc_at dkL_law_b21 1 rfl
theorem dL_law_466 : decode cL_law 466 = .ok (.iadd, 1) := dc_at dkL_law_b21 2 rfl
theorem dL_law_467 : decode cL_law 467 = .ok (.iaload, 1) := dc_at dkL_law_b21 3 rfl
theorem dL_law_468 : decode cL_law 468 = .ok (.invokevirtual 56, 3) := dc_at dkL_law_b21 4 rfl
theorem dL_law_471 : decode cL_law 471 = .ok (.pop, 1) := dc_at dkL_law_b21 5 rfl
theorem dL_law_472 : decode cL_law 472 = .ok (.goto 965, 3) := dc_at dkL_law_b21 6 rfl
theorem dL_law_475 : decode cL_law 475 = .ok (.aload_n 1, 1) := dc_at dkL_law_b21 7 rfl
theorem dL_law_476 : decode cL_law 476 = .ok (.aload_n 0, 1) := dc_at dkL_law_b21 8 rfl
theorem dL_law_477 : decode cL_law 477 = .ok (.iload_n 3, 1) := dc_at dkL_law_b21 9 rfl
def drL_law_b22 : List (Nat × (Instr × Nat)) := [(478, (.iconst 1, 1)), (479, (.iadd, 1)), (480, (.iaload, 1)), (481, (.invokevirtual 57, 3)), (484, (.pop, 1)), (485, (.aload_n 2, 1)), (486, (.aload_n 0, 1)), (487, (.iload_n 3, 1)), (488, (.iconst 1, 1)), (489, (.iadd, 1))]
theorem dkL_law_b22 : ((drL_law_b22).all fun r => decide (decode cL_law r.1 = .ok r.2)) = true := by decide +kernel
theorem dL_law_478 : decode cL_law 478 = .ok (.iconst 1, 1) := dc_at dkL_law_b22 0 rfl
theorem dL_law_479 : decode cL_law 479 = .ok (.iadd, 1) := dc_at dkL_law_b22 1 rfl
theorem dL_law_480 : decode cL_law 480 = .ok (.iaload, 1) := dc_at dkL_law_b22 2 rfl
theorem dL_law_481 : decode cL_law 481 = .ok (.invokevirtual 57, 3) := dc_at dkL_law_b22 3 rfl
theorem dL_law_484 : decode cL_law 484 = .ok (.pop, 1) := dc_at dkL_law_b22 4 rfl
theorem dL_law_485 : decode cL_law 485 = .ok (.aload_n 2, 1) := dc_at dkL_law_b22 5 rfl
theorem dL_law_486 : decode cL_law 486 = .ok (.aload_n 0, 1) := dc_at dkL_law_b22 6 rfl
theorem dL_law_487 : decode cL_law 487 = .ok (.iload_n 3, 1) := dc_at dkL_law_b22 7 rfl
theorem dL_law_488 : decode cL_law 488 = .ok (.iconst 1, 1) := dc_at dkL_law_b22 8 rfl
theorem dL_law_489 : decode cL_law 489 = .ok (.iadd, 1) := dc_at dkL_law_b22 9 rfl
def drL_law_b23 : List (Nat × (Instr × Nat)) := [(490, (.iaload, 1)), (491, (.invokevirtual 60, 3)), (494, (.pop, 1)), (495, (.goto 942, 3)), (498, (.aload_n 1, 1)), (499, (.aload_n 0, 1)), (500, (.iload_n 3, 1)), (501, (.iconst 1, 1)), (502, (.iadd, 1)), (503, (.iaload, 1))]
theorem dkL_law_b23 : ((drL_law_b23).all fun r => decide (decode cL_law r.1 = .ok r.2)) = true := by decide +kernel
theorem dL_law_490 : decode cL_law 490 = .ok (.iaload, 1) := dc_at dkL_law_b23 0 rfl
theorem dL_law_491 : decode cL_law 491 = .ok (.invokevirtual 60, 3) := dc_at dkL_law_b23 1 rfl
theorem dL_law_494 : decode cL_law 494 = .ok (.pop, 1) := dc_at dkL_law_b23 2 rfl
theorem dL_law_495 : decode cL_law 495 = .ok (.goto 942, 3) := dc_at dkL_law_b23 3 rfl
theorem dL_law_498 : decode cL_law 498 = .ok (.aload_n 1, 1) := dc_at dkL_law_b23 4 rfl
theorem dL_law_499 : decode cL_law 499 = .ok (.aload_n 0, 1) := dc_at dkL_law_b23 5 rfl
theorem dL_law_500 : decode cL_law 500 = .ok (.iload_n 3, 1) := dc_at dkL_law_b23 6 rfl
theorem dL_law_501 : decode cL_law 501 = .ok (.iconst 1, 1) := dc_at dkL_law_b23 7 rfl
theorem dL_law_502 : decode cL_law 502 = .ok (.iadd, 1) := dc_at dkL_law_b23 8 rfl
theorem dL_law_503 : decode cL_law 503 = .ok (.iaload, 1) := dc_at dkL_law_b23 9 rfl
def drL_law_b24 : List (Nat × (Instr × Nat)) := [(504, (.invokevirtual 61, 3)), (507, (.pop, 1)), (508, (.aload_n 2, 1)), (509, (.aload_n 0, 1)), (510, (.iload_n 3, 1)), (511, (.iconst 1, 1)), (512, (.iadd, 1)), (513, (.iaload, 1)), (514, (.invokevirtual 64, 3)), (517, (.pop, 1))]
theorem dkL_law_b24 : ((drL_law_b24).all fun r => decide (decode cL_law r.1 = .ok r.2)) = true := by decide +kernel
theorem dL_law_504 : decode cL_law 504 = .ok (.invokevirtual 61, 3) := dc_at dkL_law_b24 0 rfl
theorem dL_law_507 : decode cL_law 507 = .ok (.pop, 1) := dc_at dkL_law_b24 1 rfl
theorem dL_law_508 : decode cL_law 508 = .ok (.aload_n 2, 1) := dc_at dkL_law_b24 2 rfl
theorem dL_law_509 : decode cL_law 509 = .ok (.aload_n 0, 1) := dc_at dkL_law_b24 3 rfl
theorem dL_law_510 : decode cL_law 510 = .ok (.iload_n 3, 1) := dc_at dkL_law_b24 4 rfl
theorem dL_law_511 : decode cL_law 511 = .ok (.iconst 1, 1) := dc_at dkL_law_b24 5 rfl
theorem dL_law_512 : decode cL_law 512 = .ok (.iadd, 1) := dc_at dkL_law_b24 6 rfl
theorem dL_law_513 : decode cL_law 513 = .ok (.iaload, 1) := dc_at dkL_law_b24 7 rfl
theorem dL_law_514 : decode cL_law 514 = .ok (.invokevirtual 64, 3) := dc_at dkL_law_b24 8 rfl
theorem dL_law_517 : decode cL_law 517 = .ok (.pop, 1) := dc_at dkL_law_b24 9 rfl
def drL_law_b25 : List (Nat × (Instr × Nat)) := [(518, (.goto 919, 3)), (521, (.aload_n 1, 1)), (522, (.aload_n 0, 1)), (523, (.iload_n 3, 1)), (524, (.iconst 1, 1)), (525, (.iadd, 1)), (526, (.iaload, 1)), (527, (.aload_n 0, 1)), (528, (.iload_n 3, 1)), (529, (.iconst 2, 1))]
theorem dkL_law_b25 : ((drL_law_b25).all fun r => decide (decode cL_law r.1 = .ok r.2)) = true := by decide +kernel
theorem dL_law_518 : decode cL_law 518 = .ok (.goto 919, 3) := dc_at dkL_law_b25 0 rfl
theorem dL_law_521 : decode cL_law 521 = .ok (.aload_n 1, 1) := dc_at dkL_law_b25 1 rfl
theorem dL_law_522 : decode cL_law 522 = .ok (.aload_n 0, 1) := dc_at dkL_law_b25 2 rfl
theorem dL_law_523 : decode cL_law 523 = .ok (.iload_n 3, 1) := dc_at dkL_law_b25 3 rfl
theorem dL_law_524 : decode cL_law 524 = .ok (.iconst 1, 1) := dc_at dkL_law_b25 4 rfl
theorem dL_law_525 : decode cL_law 525 = .ok (.iadd, 1) := dc_at dkL_law_b25 5 rfl
theorem dL_law_526 : decode cL_law 526 = .ok (.iaload, 1) := dc_at dkL_law_b25 6 rfl
theorem dL_law_527 : decode cL_law 527 = .ok (.aload_n 0, 1) := dc_at dkL_law_b25 7 rfl
theorem dL_law_528 : decode cL_law 528 = .ok (.iload_n 3, 1) := dc_at dkL_law_b25 8 rfl
theorem dL_law_529 : decode cL_law 529 = .ok (.iconst 2, 1) := dc_at dkL_law_b25 9 rfl
def drL_law_b26 : List (Nat × (Instr × Nat)) := [(530, (.iadd, 1)), (531, (.iaload, 1)), (532, (.ifCond .eq 7, 3)), (535, (.iconst 1, 1)), (536, (.goto 4, 3)), (539, (.iconst 0, 1)), (540, (.invokevirtual 65, 3)), (543, (.pop, 1)), (544, (.aload_n 2, 1)), (545, (.aload_n 0, 1))]
theorem dkL_law_b26 : ((drL_law_b26).all fun r => decide (decode cL_law r.1 = .ok r.2)) = true := by decide +kernel
theorem dL_law_530 : decode cL_law 530 = .ok (.iadd, 1) := dc_at dkL_law_b26 0 rfl
theorem dL_law_531 : decode cL_law 531 = .ok (.iaload, 1) := dc_at dkL_law_b26 1 rfl
theorem dL_law_532 : decode cL_law 532 = .ok (.ifCond .eq 7, 3) := dc_at dkL_law_b26 2 rfl
theorem dL_law_535 : decode cL_law 535 = .ok (.iconst 1, 1) := dc_at dkL_law_b26 3 rfl
theorem dL_law_536 : decode cL_law 536 = .ok (.goto 4, 3) := dc_at dkL_law_b26 4 rfl
theorem dL_law_539 : decode cL_law 539 = .ok (.iconst 0, 1) := dc_at dkL_law_b26 5 rfl
theorem dL_law_540 : decode cL_law 540 = .ok (.invokevirtual 65, 3) := dc_at dkL_law_b26 6 rfl
theorem dL_law_543 : decode cL_law 543 = .ok (.pop, 1) := dc_at dkL_law_b26 7 rfl
theorem dL_law_544 : decode cL_law 544 = .ok (.aload_n 2, 1) := dc_at dkL_law_b26 8 rfl
theorem dL_law_545 : decode cL_law 545 = .ok (.aload_n 0, 1) := dc_at dkL_law_b26 9 rfl
def drL_law_b27 : List (Nat × (Instr × Nat)) := [(546, (.iload_n 3, 1)), (547, (.iconst 1, 1)), (548, (.iadd, 1)), (549, (.iaload, 1)), (550, (.aload_n 0, 1)), (551, (.iload_n 3, 1)), (552, (.iconst 2, 1)), (553, (.iadd, 1)), (554, (.iaload, 1)), (555, (.ifCond .eq 7, 3))]
theorem dkL_law_b27 : ((drL_law_b27).all fun r => decide (decode cL_law r.1 = .ok r.2)) = true := by decide +kernel
theorem dL_law_546 : decode cL_law 546 = .ok (.iload_n 3, 1) := dc_at dkL_law_b27 0 rfl
theorem dL_law_547 : decode cL_law 547 = .ok (.iconst 1, 1) := dc_at dkL_law_b27 1 rfl
theorem dL_law_548 : decode cL_law 548 = .ok (.iadd, 1) := dc_at dkL_law_b27 2 rfl
theorem dL_law_549 : decode cL_law 549 = .ok (.iaload, 1) := dc_at dkL_law_b27 3 rfl
theorem dL_law_550 : decode cL_law 550 = .ok (.aload_n 0, 1) := dc_at dkL_law_b27 4 rfl
theorem dL_law_551 : decode cL_law 551 = .ok (.iload_n 3, 1) := dc_at dkL_law_b27 5 rfl
theorem dL_law_552 : decode cL_law 552 = .ok (.iconst 2, 1) := dc_at dkL_law_b27 6 rfl
theorem dL_law_553 : decode cL_law 553 = .ok (.iadd, 1) := dc_at dkL_law_b27 7 rfl
theorem dL_law_554 : decode cL_law 554 = .ok (.iaload, 1) := dc_at dkL_law_b27 8 rfl
theorem dL_law_555 : decode cL_law 555 = .ok (.ifCond .eq 7, 3) := dc_at dkL_law_b27 9 rfl
def drL_law_b28 : List (Nat × (Instr × Nat)) := [(558, (.iconst 1, 1)), (559, (.goto 4, 3)), (562, (.iconst 0, 1)), (563, (.invokevirtual 68, 3)), (566, (.pop, 1)), (567, (.goto 870, 3)), (570, (.aload_n 1, 1)), (571, (.aload_n 0, 1)), (572, (.iload_n 3, 1)), (573, (.iconst 1, 1))]
theorem dkL_law_b28 : ((drL_law_b28).all fun r => decide (decode cL_law r.1 = .ok r.2)) = true := by decide +kernel
theorem dL_law_558 : decode cL_law 558 = .ok (.iconst 1, 1) := dc_at dkL_law_b28 0 rfl
theorem dL_law_559 : decode cL_law 559 = .ok (.goto 4, 3) := dc_at dkL_law_b28 1 rfl
theorem dL_law_562 : decode cL_law 562 = .ok (.iconst 0, 1) := dc_at dkL_law_b28 2 rfl
theorem dL_law_563 : decode cL_law 563 = .ok (.invokevirtual 68, 3) := dc_at dkL_law_b28 3 rfl
theorem dL_law_566 : decode cL_law 566 = .ok (.pop, 1) := dc_at dkL_law_b28 4 rfl
theorem dL_law_567 : decode cL_law 567 = .ok (.goto 870, 3) := dc_at dkL_law_b28 5 rfl
theorem dL_law_570 : decode cL_law 570 = .ok (.aload_n 1, 1) := dc_at dkL_law_b28 6 rfl
theorem dL_law_571 : decode cL_law 571 = .ok (.aload_n 0, 1) := dc_at dkL_law_b28 7 rfl
theorem dL_law_572 : decode cL_law 572 = .ok (.iload_n 3, 1) := dc_at dkL_law_b28 8 rfl
theorem dL_law_573 : decode cL_law 573 = .ok (.iconst 1, 1) := dc_at dkL_law_b28 9 rfl
def drL_law_b29 : List (Nat × (Instr × Nat)) := [(574, (.iadd, 1)), (575, (.iaload, 1)), (576, (.aload_n 0, 1)), (577, (.iload_n 3, 1)), (578, (.iconst 2, 1)), (579, (.iadd, 1)), (580, (.iaload, 1)), (581, (.invokevirtual 69, 3)), (584, (.pop, 1)), (585, (.aload_n 2, 1))]
theorem dkL_law_b29 : ((drL_law_b29).all fun r => decide (decode cL_law r.1 = .ok r.2)) = true := by decide +kernel
theorem dL_law_574 : decode cL_law 574 = .ok (.iadd, 1) := dc_at dkL_law_b29 0 rfl
theorem dL_law_575 : decode cL_law 575 = .ok (.iaload, 1) := dc_at dkL_law_b29 1 rfl
theorem dL_law_576 : decode cL_law 576 = .ok (.aload_n 0, 1) := dc_at dkL_law_b29 2 rfl
theorem dL_law_577 : decode cL_law 577 = .ok (.iload_n 3, 1) := dc_at dkL_law_b29 3 rfl
theorem dL_law_578 : decode cL_law 578 = .ok (.iconst 2, 1) := dc_at dkL_law_b29 4 rfl
theorem dL_law_579 : decode cL_law 579 = .ok (.iadd, 1) := dc_at dkL_law_b29 5 rfl
theorem dL_law_580 : decode cL_law 580 = .ok (.iaload, 1) := dc_at dkL_law_b29 6 rfl
theorem dL_law_581 : decode cL_law 581 = .ok (.invokevirtual 69, 3) := dc_at dkL_law_b29 7 rfl
theorem dL_law_584 : decode cL_law 584 = .ok (.pop, 1) := dc_at dkL_law_b29 8 rfl
theorem dL_law_585 : decode cL_law 585 = .ok (.aload_n 2, 1) := dc_at dkL_law_b29 9 rfl
def drL_law_b30 : List (Nat × (Instr × Nat)) := [(586, (.aload_n 0, 1)), (587, (.iload_n 3, 1)), (588, (.iconst 1, 1)), (589, (.iadd, 1)), (590, (.iaload, 1)), (591, (.aload_n 0, 1)), (592, (.iload_n 3, 1)), (593, (.iconst 2, 1)), (594, (.iadd, 1)), (595, (.iaload, 1))]
theorem dkL_law_b30 : ((drL_law_b30).all fun r => decide (decode cL_law r.1 = .ok r.2)) = true := by decide +kernel
theorem dL_law_586 : decode cL_law 586 = .ok (.aload_n 0, 1) := dc_at dkL_law_b30 0 rfl
theorem dL_law_587 : decode cL_law 587 = .ok (.iload_n 3, 1) := dc_at dkL_law_b30 1 rfl
theorem dL_law_588 : decode cL_law 588 = .ok (.iconst 1, 1) := dc_at dkL_law_b30 2 rfl
theorem dL_law_589 : decode cL_law 589 = .ok (.iadd, 1) := dc_at dkL_law_b30 3 rfl
theorem dL_law_590 : decode cL_law 590 = .ok (.iaload, 1) := dc_at dkL_law_b30 4 rfl
theorem dL_law_591 : decode cL_law 591 = .ok (.aload_n 0, 1) := dc_at dkL_law_b30 5 rfl
theorem dL_law_592 : decode cL_law 592 = .ok (.iload_n 3, 1) := dc_at dkL_law_b30 6 rfl
theorem dL_law_593 : decode cL_law 593 = .ok (.iconst 2, 1) := dc_at dkL_law_b30 7 rfl
theorem dL_law_594 : decode cL_law 594 = .ok (.iadd, 1) := dc_at dkL_law_b30 8 rfl
theorem dL_law_595 : decode cL_law 595 = .ok (.iaload, 1) := dc_at dkL_law_b30 9 rfl
def drL_law_b31 : List (Nat × (Instr × Nat)) := [(596, (.invokevirtual 72, 3)), (599, (.pop, 1)), (600, (.goto 837, 3)), (603, (.aload_n 1, 1)), (604, (.aload_n 0, 1)), (605, (.iload_n 3, 1)), (606, (.iconst 1, 1)), (607, (.iadd, 1)), (608, (.iaload, 1)), (609, (.invokevirtual 73, 3))]
theorem dkL_law_b31 : ((drL_law_b31).all fun r => decide (decode cL_law r.1 = .ok r.2)) = true := by decide +kernel
theorem dL_law_596 : decode cL_law 596 = .ok (.invokevirtual 72, 3) := dc_at dkL_law_b31 0 rfl
theorem dL_law_599 : decode cL_law 599 = .ok (.pop, 1) := dc_at dkL_law_b31 1 rfl
theorem dL_law_600 : decode cL_law 600 = .ok (.goto 837, 3) := dc_at dkL_law_b31 2 rfl
theorem dL_law_603 : decode cL_law 603 = .ok (.aload_n 1, 1) := dc_at dkL_law_b31 3 rfl
theorem dL_law_604 : decode cL_law 604 = .ok (.aload_n 0, 1) := dc_at dkL_law_b31 4 rfl
theorem dL_law_605 : decode cL_law 605 = .ok (.iload_n 3, 1) := dc_at dkL_law_b31 5 rfl
theorem dL_law_606 : decode cL_law 606 = .ok (.iconst 1, 1) := dc_at dkL_law_b31 6 rfl
theorem dL_law_607 : decode cL_law 607 = .ok (.iadd, 1) := dc_at dkL_law_b31 7 rfl
theorem dL_law_608 : decode cL_law 608 = .ok (.iaload, 1) := dc_at dkL_law_b31 8 rfl
theorem dL_law_609 : decode cL_law 609 = .ok (.invokevirtual 73, 3) := dc_at dkL_law_b31 9 rfl
def drL_law_b32 : List (Nat × (Instr × Nat)) := [(612, (.pop, 1)), (613, (.aload_n 2, 1)), (614, (.aload_n 0, 1)), (615, (.iload_n 3, 1)), (616, (.iconst 1, 1)), (617, (.iadd, 1)), (618, (.iaload, 1)), (619, (.invokevirtual 76, 3)), (622, (.pop, 1)), (623, (.goto 814, 3))]
theorem dkL_law_b32 : ((drL_law_b32).all fun r => decide (decode cL_law r.1 = .ok r.2)) = true := by decide +kernel
theorem dL_law_612 : decode cL_law 612 = .ok (.pop, 1) := dc_at dkL_law_b32 0 rfl
theorem dL_law_613 : decode cL_law 613 = .ok (.aload_n 2, 1) := dc_at dkL_law_b32 1 rfl
theorem dL_law_614 : decode cL_law 614 = .ok (.aload_n 0, 1) := dc_at dkL_law_b32 2 rfl
theorem dL_law_615 : decode cL_law 615 = .ok (.iload_n 3, 1) := dc_at dkL_law_b32 3 rfl
theorem dL_law_616 : decode cL_law 616 = .ok (.iconst 1, 1) := dc_at dkL_law_b32 4 rfl
theorem dL_law_617 : decode cL_law 617 = .ok (.iadd, 1) := dc_at dkL_law_b32 5 rfl
theorem dL_law_618 : decode cL_law 618 = .ok (.iaload, 1) := dc_at dkL_law_b32 6 rfl
theorem dL_law_619 : decode cL_law 619 = .ok (.invokevirtual 76, 3) := dc_at dkL_law_b32 7 rfl
theorem dL_law_622 : decode cL_law 622 = .ok (.pop, 1) := dc_at dkL_law_b32 8 rfl
theorem dL_law_623 : decode cL_law 623 = .ok (.goto 814, 3) := dc_at dkL_law_b32 9 rfl
def drL_law_b33 : List (Nat × (Instr × Nat)) := [(626, (.aload_n 1, 1)), (627, (.aload_n 0, 1)), (628, (.iload_n 3, 1)), (629, (.iconst 1, 1)), (630, (.iadd, 1)), (631, (.iaload, 1)), (632, (.invokevirtual 77, 3)), (635, (.pop, 1)), (636, (.aload_n 2, 1)), (637, (.aload_n 0, 1))]
theorem dkL_law_b33 : ((drL_law_b33).all fun r => decide (decode cL_law r.1 = .ok r.2)) = true := by decide +kernel
theorem dL_law_626 : decode cL_law 626 = .ok (.aload_n 1, 1) := dc_at dkL_law_b33 0 rfl
theorem dL_law_627 : decode cL_law 627 = .ok (.aload_n 0, 1) := dc_at dkL_law_b33 1 rfl
theorem dL_law_628 : decode cL_law 628 = .ok (.iload_n 3, 1) := dc_at dkL_law_b33 2 rfl
theorem dL_law_629 : decode cL_law 629 = .ok (.iconst 1, 1) := dc_at dkL_law_b33 3 rfl
theorem dL_law_630 : decode cL_law 630 = .ok (.iadd, 1) := dc_at dkL_law_b33 4 rfl
theorem dL_law_631 : decode cL_law 631 = .ok (.iaload, 1) := dc_at dkL_law_b33 5 rfl
theorem dL_law_632 : decode cL_law 632 = .ok (.invokevirtual 77, 3) := dc_at dkL_law_b33 6 rfl
theorem dL_law_635 : decode cL_law 635 = .ok (.pop, 1) := dc_at dkL_law_b33 7 rfl
theorem dL_law_636 : decode cL_law 636 = .ok (.aload_n 2, 1) := dc_at dkL_law_b33 8 rfl
theorem dL_law_637 : decode cL_law 637 = .ok (.aload_n 0, 1) := dc_at dkL_law_b33 9 rfl
def drL_law_b34 : List (Nat × (Instr × Nat)) := [(638, (.iload_n 3, 1)), (639, (.iconst 1, 1)), (640, (.iadd, 1)), (641, (.iaload, 1)), (642, (.invokevirtual 80, 3)), (645, (.pop, 1)), (646, (.goto 791, 3)), (649, (.aload_n 1, 1)), (650, (.aload_n 0, 1)), (651, (.iload_n 3, 1))]
theorem dkL_law_b34 : ((drL_law_b34).all fun r => decide (decode cL_law r.1 = .ok r.2)) = true := by decide +kernel
theorem dL_law_638 : decode cL_law 638 = .ok (.iload_n 3, 1) := dc_at dkL_law_b34 0 rfl
theorem dL_law_639 : decode cL_law 639 = .ok (.iconst 1, 1) := dc_at dkL_law_b34 1 rfl
theorem dL_law_640 : decode cL_law 640 = .ok (.iadd, 1) := dc_at dkL_law_b34 2 rfl
theorem dL_law_641 : decode cL_law 641 = .ok (.iaload, 1) := dc_at dkL_law_b34 3 rfl
theorem dL_law_642 : decode cL_law 642 = .ok (.invokevirtual 80, 3) := dc_at dkL_law_b34 4 rfl
theorem dL_law_645 : decode cL_law 645 = .ok (.pop, 1) := dc_at dkL_law_b34 5 rfl
theorem dL_law_646 : decode cL_law 646 = .ok (.goto 791, 3) := dc_at dkL_law_b34 6 rfl
theorem dL_law_649 : decode cL_law 649 = .ok (.aload_n 1, 1) := dc_at dkL_law_b34 7 rfl
theorem dL_law_650 : decode cL_law 650 = .ok (.aload_n 0, 1) := dc_at dkL_law_b34 8 rfl
theorem dL_law_651 : decode cL_law 651 = .ok (.iload_n 3, 1) := dc_at dkL_law_b34 9 rfl
def drL_law_b35 : List (Nat × (Instr × Nat)) := [(652, (.iconst 1, 1)), (653, (.iadd, 1)), (654, (.iaload, 1)), (655, (.invokevirtual 81, 3)), (658, (.pop, 1)), (659, (.aload_n 2, 1)), (660, (.aload_n 0, 1)), (661, (.iload_n 3, 1)), (662, (.iconst 1, 1)), (663, (.iadd, 1))]
theorem dkL_law_b35 : ((drL_law_b35).all fun r => decide (decode cL_law r.1 = .ok r.2)) = true := by decide +kernel
theorem dL_law_652 : decode cL_law 652 = .ok (.iconst 1, 1) := dc_at dkL_law_b35 0 rfl
theorem dL_law_653 : decode cL_law 653 = .ok (.iadd, 1) := dc_at dkL_law_b35 1 rfl
theorem dL_law_654 : decode cL_law 654 = .ok (.iaload, 1) := dc_at dkL_law_b35 2 rfl
theorem dL_law_655 : decode cL_law 655 = .ok (.invokevirtual 81, 3) := dc_at dkL_law_b35 3 rfl
theorem dL_law_658 : decode cL_law 658 = .ok (.pop, 1) := dc_at dkL_law_b35 4 rfl
theorem dL_law_659 : decode cL_law 659 = .ok (.aload_n 2, 1) := dc_at dkL_law_b35 5 rfl
theorem dL_law_660 : decode cL_law 660 = .ok (.aload_n 0, 1) := dc_at dkL_law_b35 6 rfl
theorem dL_law_661 : decode cL_law 661 = .ok (.iload_n 3, 1) := dc_at dkL_law_b35 7 rfl
theorem dL_law_662 : decode cL_law 662 = .ok (.iconst 1, 1) := dc_at dkL_law_b35 8 rfl
theorem dL_law_663 : decode cL_law 663 = .ok (.iadd, 1) := dc_at dkL_law_b35 9 rfl
def drL_law_b36 : List (Nat × (Instr × Nat)) := [(664, (.iaload, 1)), (665, (.invokevirtual 84, 3)), (668, (.pop, 1)), (669, (.goto 768, 3)), (672, (.aload_n 1, 1)), (673, (.aload_n 0, 1)), (674, (.iload_n 3, 1)), (675, (.iconst 1, 1)), (676, (.iadd, 1)), (677, (.iaload, 1))]
theorem dkL_law_b36 : ((drL_law_b36).all fun r => decide (decode cL_law r.1 = .ok r.2)) = true := by decide +kernel
theorem dL_law_664 : decode cL_law 664 = .ok (.iaload, 1) := dc_at dkL_law_b36 0 rfl
theorem dL_law_665 : decode cL_law 665 = .ok (.invokevirtual 84, 3) := dc_at dkL_law_b36 1 rfl
theorem dL_law_668 : decode cL_law 668 = .ok (.pop, 1) := dc_at dkL_law_b36 2 rfl
theorem dL_law_669 : decode cL_law 669 = .ok (.goto 768, 3) := dc_at dkL_law_b36 3 rfl
theorem dL_law_672 : decode cL_law 672 = .ok (.aload_n 1, 1) := dc_at dkL_law_b36 4 rfl
theorem dL_law_673 : decode cL_law 673 = .ok (.aload_n 0, 1) := dc_at dkL_law_b36 5 rfl
theorem dL_law_674 : decode cL_law 674 = .ok (.iload_n 3, 1) := dc_at dkL_law_b36 6 rfl
theorem dL_law_675 : decode cL_law 675 = .ok (.iconst 1, 1) := dc_at dkL_law_b36 7 rfl
theorem dL_law_676 : decode cL_law 676 = .ok (.iadd, 1) := dc_at dkL_law_b36 8 rfl
theorem dL_law_677 : decode cL_law 677 = .ok (.iaload, 1) := dc_at dkL_law_b36 9 rfl
def drL_law_b37 : List (Nat × (Instr × Nat)) := [(678, (.invokevirtual 85, 3)), (681, (.pop, 1)), (682, (.aload_n 2, 1)), (683, (.aload_n 0, 1)), (684, (.iload_n 3, 1)), (685, (.iconst 1, 1)), (686, (.iadd, 1)), (687, (.iaload, 1)), (688, (.invokevirtual 88, 3)), (691, (.pop, 1))]
theorem dkL_law_b37 : ((drL_law_b37).all fun r => decide (decode cL_law r.1 = .ok r.2)) = true := by decide +kernel
theorem dL_law_678 : decode cL_law 678 = .ok (.invokevirtual 85, 3) := dc_at dkL_law_b37 0 rfl
theorem dL_law_681 : decode cL_law 681 = .ok (.pop, 1) := dc_at dkL_law_b37 1 rfl
theorem dL_law_682 : decode cL_law 682 = .ok (.aload_n 2, 1) := dc_at dkL_law_b37 2 rfl
theorem dL_law_683 : decode cL_law 683 = .ok (.aload_n 0, 1) := dc_at dkL_law_b37 3 rfl
theorem dL_law_684 : decode cL_law 684 = .ok (.iload_n 3, 1) := dc_at dkL_law_b37 4 rfl
theorem dL_law_685 : decode cL_law 685 = .ok (.iconst 1, 1) := dc_at dkL_law_b37 5 rfl
theorem dL_law_686 : decode cL_law 686 = .ok (.iadd, 1) := dc_at dkL_law_b37 6 rfl
theorem dL_law_687 : decode cL_law 687 = .ok (.iaload, 1) := dc_at dkL_law_b37 7 rfl
theorem dL_law_688 : decode cL_law 688 = .ok (.invokevirtual 88, 3) := dc_at dkL_law_b37 8 rfl
theorem dL_law_691 : decode cL_law 691 = .ok (.pop, 1) := dc_at dkL_law_b37 9 rfl
def drL_law_b38 : List (Nat × (Instr × Nat)) := [(692, (.goto 745, 3)), (695, (.aload_n 1, 1)), (696, (.aload_n 0, 1)), (697, (.iload_n 3, 1)), (698, (.iconst 1, 1)), (699, (.iadd, 1)), (700, (.iaload, 1)), (701, (.aload_n 0, 1)), (702, (.iload_n 3, 1)), (703, (.iconst 2, 1))]
theorem dkL_law_b38 : ((drL_law_b38).all fun r => decide (decode cL_law r.1 = .ok r.2)) = true := by decide +kernel
theorem dL_law_692 : decode cL_law 692 = .ok (.goto 745, 3) := dc_at dkL_law_b38 0 rfl
theorem dL_law_695 : decode cL_law 695 = .ok (.aload_n 1, 1) := dc_at dkL_law_b38 1 rfl
theorem dL_law_696 : decode cL_law 696 = .ok (.aload_n 0, 1) := dc_at dkL_law_b38 2 rfl
theorem dL_law_697 : decode cL_law 697 = .ok (.iload_n 3, 1) := dc_at dkL_law_b38 3 rfl
theorem dL_law_698 : decode cL_law 698 = .ok (.iconst 1, 1) := dc_at dkL_law_b38 4 rfl
theorem dL_law_699 : decode cL_law 699 = .ok (.iadd, 1) := dc_at dkL_law_b38 5 rfl
theorem dL_law_700 : decode cL_law 700 = .ok (.iaload, 1) := dc_at dkL_law_b38 6 rfl
theorem dL_law_701 : decode cL_law 701 = .ok (.aload_n 0, 1) := dc_at dkL_law_b38 7 rfl
theorem dL_law_702 : decode cL_law 702 = .ok (.iload_n 3, 1) := dc_at dkL_law_b38 8 rfl
theorem dL_law_703 : decode cL_law 703 = .ok (.iconst 2, 1) := dc_at dkL_law_b38 9 rfl
def drL_law_b39 : List (Nat × (Instr × Nat)) := [(704, (.iadd, 1)), (705, (.iaload, 1)), (706, (.aload_n 0, 1)), (707, (.iload_n 3, 1)), (708, (.iconst 3, 1)), (709, (.iadd, 1)), (710, (.iaload, 1)), (711, (.invokevirtual 89, 3)), (714, (.pop, 1)), (715, (.aload_n 2, 1))]
theorem dkL_law_b39 : ((drL_law_b39).all fun r => decide (decode cL_law r.1 = .ok r.2)) = true := by decide +kernel
theorem dL_law_704 : decode cL_law 704 = .ok (.iadd, 1) := dc_at dkL_law_b39 0 rfl
theorem dL_law_705 : decode cL_law 705 = .ok (.iaload, 1) := dc_at dkL_law_b39 1 rfl
theorem dL_law_706 : decode cL_law 706 = .ok (.aload_n 0, 1) := dc_at dkL_law_b39 2 rfl
theorem dL_law_707 : decode cL_law 707 = .ok (.iload_n 3, 1) := dc_at dkL_law_b39 3 rfl
theorem dL_law_708 : decode cL_law 708 = .ok (.iconst 3, 1) := dc_at dkL_law_b39 4 rfl
theorem dL_law_709 : decode cL_law 709 = .ok (.iadd, 1) := dc_at dkL_law_b39 5 rfl
theorem dL_law_710 : decode cL_law 710 = .ok (.iaload, 1) := dc_at dkL_law_b39 6 rfl
theorem dL_law_711 : decode cL_law 711 = .ok (.invokevirtual 89, 3) := dc_at dkL_law_b39 7 rfl
theorem dL_law_714 : decode cL_law 714 = .ok (.pop, 1) := dc_at dkL_law_b39 8 rfl
theorem dL_law_715 : decode cL_law 715 = .ok (.aload_n 2, 1) := dc_at dkL_law_b39 9 rfl
def drL_law_b40 : List (Nat × (Instr × Nat)) := [(716, (.aload_n 0, 1)), (717, (.iload_n 3, 1)), (718, (.iconst 1, 1)), (719, (.iadd, 1)), (720, (.iaload, 1)), (721, (.aload_n 0, 1)), (722, (.iload_n 3, 1)), (723, (.iconst 2, 1)), (724, (.iadd, 1)), (725, (.iaload, 1))]
theorem dkL_law_b40 : ((drL_law_b40).all fun r => decide (decode cL_law r.1 = .ok r.2)) = true := by decide +kernel
theorem dL_law_716 : decode cL_law 716 = .ok (.aload_n 0, 1) := dc_at dkL_law_b40 0 rfl
theorem dL_law_717 : decode cL_law 717 = .ok (.iload_n 3, 1) := dc_at dkL_law_b40 1 rfl
theorem dL_law_718 : decode cL_law 718 = .ok (.iconst 1, 1) := dc_at dkL_law_b40 2 rfl
theorem dL_law_719 : decode cL_law 719 = .ok (.iadd, 1) := dc_at dkL_law_b40 3 rfl
theorem dL_law_720 : decode cL_law 720 = .ok (.iaload, 1) := dc_at dkL_law_b40 4 rfl
theorem dL_law_721 : decode cL_law 721 = .ok (.aload_n 0, 1) := dc_at dkL_law_b40 5 rfl
theorem dL_law_722 : decode cL_law 722 = .ok (.iload_n 3, 1) := dc_at dkL_law_b40 6 rfl
theorem dL_law_723 : decode cL_law 723 = .ok (.iconst 2, 1) := dc_at dkL_law_b40 7 rfl
theorem dL_law_724 : decode cL_law 724 = .ok (.iadd, 1) := dc_at dkL_law_b40 8 rfl
theorem dL_law_725 : decode cL_law 725 = .ok (.iaload, 1) := dc_at dkL_law_b40 9 rfl
def drL_law_b41 : List (Nat × (Instr × Nat)) := [(726, (.aload_n 0, 1)), (727, (.iload_n 3, 1)), (728, (.iconst 3, 1)), (729, (.iadd, 1)), (730, (.iaload, 1)), (731, (.invokevirtual 92, 3)), (734, (.pop, 1)), (735, (.goto 702, 3)), (738, (.aload_n 1, 1)), (739, (.aload_n 0, 1))]
theorem dkL_law_b41 : ((drL_law_b41).all fun r => decide (decode cL_law r.1 = .ok r.2)) = true := by decide +kernel
theorem dL_law_726 : decode cL_law 726 = .ok (.aload_n 0, 1) := dc_at dkL_law_b41 0 rfl
theorem dL_law_727 : decode cL_law 727 = .ok (.iload_n 3, 1) := dc_at dkL_law_b41 1 rfl
theorem dL_law_728 : decode cL_law 728 = .ok (.iconst 3, 1) := dc_at dkL_law_b41 2 rfl
theorem dL_law_729 : decode cL_law 729 = .ok (.iadd, 1) := dc_at dkL_law_b41 3 rfl
theorem dL_law_730 : decode cL_law 730 = .ok (.iaload, 1) := dc_at dkL_law_b41 4 rfl
theorem dL_law_731 : decode cL_law 731 = .ok (.invokevirtual 92, 3) := dc_at dkL_law_b41 5 rfl
theorem dL_law_734 : decode cL_law 734 = .ok (.pop, 1) := dc_at dkL_law_b41 6 rfl
theorem dL_law_735 : decode cL_law 735 = .ok (.goto 702, 3) := dc_at dkL_law_b41 7 rfl
theorem dL_law_738 : decode cL_law 738 = .ok (.aload_n 1, 1) := dc_at dkL_law_b41 8 rfl
theorem dL_law_739 : decode cL_law 739 = .ok (.aload_n 0, 1) := dc_at dkL_law_b41 9 rfl
def drL_law_b42 : List (Nat × (Instr × Nat)) := [(740, (.iload_n 3, 1)), (741, (.iconst 1, 1)), (742, (.iadd, 1)), (743, (.iaload, 1)), (744, (.invokevirtual 93, 3)), (747, (.pop, 1)), (748, (.aload_n 2, 1)), (749, (.aload_n 0, 1)), (750, (.iload_n 3, 1)), (751, (.iconst 1, 1))]
theorem dkL_law_b42 : ((drL_law_b42).all fun r => decide (decode cL_law r.1 = .ok r.2)) = true := by decide +kernel
theorem dL_law_740 : decode cL_law 740 = .ok (.iload_n 3, 1) := dc_at dkL_law_b42 0 rfl
theorem dL_law_741 : decode cL_law 741 = .ok (.iconst 1, 1) := dc_at dkL_law_b42 1 rfl
theorem dL_law_742 : decode cL_law 742 = .ok (.iadd, 1) := dc_at dkL_law_b42 2 rfl
theorem dL_law_743 : decode cL_law 743 = .ok (.iaload, 1) := dc_at dkL_law_b42 3 rfl
theorem dL_law_744 : decode cL_law 744 = .ok (.invokevirtual 93, 3) := dc_at dkL_law_b42 4 rfl
theorem dL_law_747 : decode cL_law 747 = .ok (.pop, 1) := dc_at dkL_law_b42 5 rfl
theorem dL_law_748 : decode cL_law 748 = .ok (.aload_n 2, 1) := dc_at dkL_law_b42 6 rfl
theorem dL_law_749 : decode cL_law 749 = .ok (.aload_n 0, 1) := dc_at dkL_law_b42 7 rfl
theorem dL_law_750 : decode cL_law 750 = .ok (.iload_n 3, 1) := dc_at dkL_law_b42 8 rfl
theorem dL_law_751 : decode cL_law 751 = .ok (.iconst 1, 1) := dc_at dkL_law_b42 9 rfl
def drL_law_b43 : List (Nat × (Instr × Nat)) := [(752, (.iadd, 1)), (753, (.iaload, 1)), (754, (.invokevirtual 96, 3)), (757, (.pop, 1)), (758, (.goto 679, 3)), (761, (.aload_n 1, 1)), (762, (.aload_n 0, 1)), (763, (.iload_n 3, 1)), (764, (.iconst 1, 1)), (765, (.iadd, 1))]
theorem dkL_law_b43 : ((drL_law_b43).all fun r => decide (decode cL_law r.1 = .ok r.2)) = true := by decide +kernel
theorem dL_law_752 : decode cL_law 752 = .ok (.iadd, 1) := dc_at dkL_law_b43 0 rfl
theorem dL_law_753 : decode cL_law 753 = .ok (.iaload, 1) := dc_at dkL_law_b43 1 rfl
theorem dL_law_754 : decode cL_law 754 = .ok (.invokevirtual 96, 3) := dc_at dkL_law_b43 2 rfl
theorem dL_law_757 : decode cL_law 757 = .ok (.pop, 1) := dc_at dkL_law_b43 3 rfl
theorem dL_law_758 : decode cL_law 758 = .ok (.goto 679, 3) := dc_at dkL_law_b43 4 rfl
theorem dL_law_761 : decode cL_law 761 = .ok (.aload_n 1, 1) := dc_at dkL_law_b43 5 rfl
theorem dL_law_762 : decode cL_law 762 = .ok (.aload_n 0, 1) := dc_at dkL_law_b43 6 rfl
theorem dL_law_763 : decode cL_law 763 = .ok (.iload_n 3, 1) := dc_at dkL_law_b43 7 rfl
theorem dL_law_764 : decode cL_law 764 = .ok (.iconst 1, 1) := dc_at dkL_law_b43 8 rfl
theorem dL_law_765 : decode cL_law 765 = .ok (.iadd, 1) := dc_at dkL_law_b43 9 rfl
def drL_law_b44 : List (Nat × (Instr × Nat)) := [(766, (.iaload, 1)), (767, (.invokevirtual 97, 3)), (770, (.pop, 1)), (771, (.aload_n 2, 1)), (772, (.aload_n 0, 1)), (773, (.iload_n 3, 1)), (774, (.iconst 1, 1)), (775, (.iadd, 1)), (776, (.iaload, 1)), (777, (.invokevirtual 100, 3))]
theorem dkL_law_b44 : ((drL_law_b44).all fun r => decide (decode cL_law r.1 = .ok r.2)) = true := by decide +kernel
theorem dL_law_766 : decode cL_law 766 = .ok (.iaload, 1) := dc_at dkL_law_b44 0 rfl
theorem dL_law_767 : decode cL_law 767 = .ok (.invokevirtual 97, 3) := dc_at dkL_law_b44 1 rfl
theorem dL_law_770 : decode cL_law 770 = .ok (.pop, 1) := dc_at dkL_law_b44 2 rfl
theorem dL_law_771 : decode cL_law 771 = .ok (.aload_n 2, 1) := dc_at dkL_law_b44 3 rfl
theorem dL_law_772 : decode cL_law 772 = .ok (.aload_n 0, 1) := dc_at dkL_law_b44 4 rfl
theorem dL_law_773 : decode cL_law 773 = .ok (.iload_n 3, 1) := dc_at dkL_law_b44 5 rfl
theorem dL_law_774 : decode cL_law 774 = .ok (.iconst 1, 1) := dc_at dkL_law_b44 6 rfl
theorem dL_law_775 : decode cL_law 775 = .ok (.iadd, 1) := dc_at dkL_law_b44 7 rfl
theorem dL_law_776 : decode cL_law 776 = .ok (.iaload, 1) := dc_at dkL_law_b44 8 rfl
theorem dL_law_777 : decode cL_law 777 = .ok (.invokevirtual 100, 3) := dc_at dkL_law_b44 9 rfl
def drL_law_b45 : List (Nat × (Instr × Nat)) := [(780, (.pop, 1)), (781, (.goto 656, 3)), (784, (.aload_n 1, 1)), (785, (.aload_n 0, 1)), (786, (.iload_n 3, 1)), (787, (.iconst 1, 1)), (788, (.iadd, 1)), (789, (.iaload, 1)), (790, (.aload_n 0, 1)), (791, (.iload_n 3, 1))]
theorem dkL_law_b45 : ((drL_law_b45).all fun r => decide (decode cL_law r.1 = .ok r.2)) = true := by decide +kernel
theorem dL_law_780 : decode cL_law 780 = .ok (.pop, 1) := dc_at dkL_law_b45 0 rfl
theorem dL_law_781 : decode cL_law 781 = .ok (.goto 656, 3) := dc_at dkL_law_b45 1 rfl
theorem dL_law_784 : decode cL_law 784 = .ok (.aload_n 1, 1) := dc_at dkL_law_b45 2 rfl
theorem dL_law_785 : decode cL_law 785 = .ok (.aload_n 0, 1) := dc_at dkL_law_b45 3 rfl
theorem dL_law_786 : decode cL_law 786 = .ok (.iload_n 3, 1) := dc_at dkL_law_b45 4 rfl
theorem dL_law_787 : decode cL_law 787 = .ok (.iconst 1, 1) := dc_at dkL_law_b45 5 rfl
theorem dL_law_788 : decode cL_law 788 = .ok (.iadd, 1) := dc_at dkL_law_b45 6 rfl
theorem dL_law_789 : decode cL_law 789 = .ok (.iaload, 1) := dc_at dkL_law_b45 7 rfl
theorem dL_law_790 : decode cL_law 790 = .ok (.aload_n 0, 1) := dc_at dkL_law_b45 8 rfl
theorem dL_law_791 : decode cL_law 791 = .ok (.iload_n 3, 1) := dc_at dkL_law_b45 9 rfl
def drL_law_b46 : List (Nat × (Instr × Nat)) := [(792, (.iconst 2, 1)), (793, (.iadd, 1)), (794, (.iaload, 1)), (795, (.invokevirtual 101, 3)), (798, (.pop, 1)), (799, (.aload_n 2, 1)), (800, (.aload_n 0, 1)), (801, (.iload_n 3, 1)), (802, (.iconst 1, 1)), (803, (.iadd, 1))]
theorem dkL_law_b46 : ((drL_law_b46).all fun r => decide (decode cL_law r.1 = .ok r.2)) = true := by decide +kernel
theorem dL_law_792 : decode cL_law 792 = .ok (.iconst 2, 1) := dc_at dkL_law_b46 0 rfl
theorem dL_law_793 : decode cL_law 793 = .ok (.iadd, 1) := dc_at dkL_law_b46 1 rfl
theorem dL_law_794 : decode cL_law 794 = .ok (.iaload, 1) := dc_at dkL_law_b46 2 rfl
theorem dL_law_795 : decode cL_law 795 = .ok (.invokevirtual 101, 3) := dc_at dkL_law_b46 3 rfl
theorem dL_law_798 : decode cL_law 798 = .ok (.pop, 1) := dc_at dkL_law_b46 4 rfl
theorem dL_law_799 : decode cL_law 799 = .ok (.aload_n 2, 1) := dc_at dkL_law_b46 5 rfl
theorem dL_law_800 : decode cL_law 800 = .ok (.aload_n 0, 1) := dc_at dkL_law_b46 6 rfl
theorem dL_law_801 : decode cL_law 801 = .ok (.iload_n 3, 1) := dc_at dkL_law_b46 7 rfl
theorem dL_law_802 : decode cL_law 802 = .ok (.iconst 1, 1) := dc_at dkL_law_b46 8 rfl
theorem dL_law_803 : decode cL_law 803 = .ok (.iadd, 1) := dc_at dkL_law_b46 9 rfl
def drL_law_b47 : List (Nat × (Instr × Nat)) := [(804, (.iaload, 1)), (805, (.aload_n 0, 1)), (806, (.iload_n 3, 1)), (807, (.iconst 2, 1)), (808, (.iadd, 1)), (809, (.iaload, 1)), (810, (.invokevirtual 104, 3)), (813, (.pop, 1)), (814, (.goto 623, 3)), (817, (.aload_n 1, 1))]
theorem dkL_law_b47 : ((drL_law_b47).all fun r => decide (decode cL_law r.1 = .ok r.2)) = true := by decide +kernel
theorem dL_law_804 : decode cL_law 804 = .ok (.iaload, 1) := dc_at dkL_law_b47 0 rfl
theorem dL_law_805 : decode cL_law 805 = .ok (.aload_n 0, 1) := dc_at dkL_law_b47 1 rfl
theorem dL_law_806 : decode cL_law 806 = .ok (.iload_n 3, 1) := dc_at dkL_law_b47 2 rfl
theorem dL_law_807 : decode cL_law 807 = .ok (.iconst 2, 1) := dc_at dkL_law_b47 3 rfl
theorem dL_law_808 : decode cL_law 808 = .ok (.iadd, 1) := dc_at dkL_law_b47 4 rfl
theorem dL_law_809 : decode cL_law 809 = .ok (.iaload, 1) := dc_at dkL_law_b47 5 rfl
theorem dL_law_810 : decode cL_law 810 = .ok (.invokevirtual 104, 3) := dc_at dkL_law_b47 6 rfl
theorem dL_law_813 : decode cL_law 813 = .ok (.pop, 1) := dc_at dkL_law_b47 7 rfl
theorem dL_law_814 : decode cL_law 814 = .ok (.goto 623, 3) := dc_at dkL_law_b47 8 rfl
theorem dL_law_817 : decode cL_law 817 = .ok (.aload_n 1, 1) := dc_at dkL_law_b47 9 rfl
def drL_law_b48 : List (Nat × (Instr × Nat)) := [(818, (.aload_n 0, 1)), (819, (.iload_n 3, 1)), (820, (.iconst 1, 1)), (821, (.iadd, 1)), (822, (.iaload, 1)), (823, (.aload_n 0, 1)), (824, (.iload_n 3, 1)), (825, (.iconst 2, 1)), (826, (.iadd, 1)), (827, (.iaload, 1))]
theorem dkL_law_b48 : ((drL_law_b48).all fun r => decide (decode cL_law r.1 = .ok r.2)) = true := by decide +kernel
theorem dL_law_818 : decode cL_law 818 = .ok (.aload_n 0, 1) := dc_at dkL_law_b48 0 rfl
theorem dL_law_819 : decode cL_law 819 = .ok (.iload_n 3, 1) := dc_at dkL_law_b48 1 rfl
theorem dL_law_820 : decode cL_law 820 = .ok (.iconst 1, 1) := dc_at dkL_law_b48 2 rfl
theorem dL_law_821 : decode cL_law 821 = .ok (.iadd, 1) := dc_at dkL_law_b48 3 rfl
theorem dL_law_822 : decode cL_law 822 = .ok (.iaload, 1) := dc_at dkL_law_b48 4 rfl
theorem dL_law_823 : decode cL_law 823 = .ok (.aload_n 0, 1) := dc_at dkL_law_b48 5 rfl
theorem dL_law_824 : decode cL_law 824 = .ok (.iload_n 3, 1) := dc_at dkL_law_b48 6 rfl
theorem dL_law_825 : decode cL_law 825 = .ok (.iconst 2, 1) := dc_at dkL_law_b48 7 rfl
theorem dL_law_826 : decode cL_law 826 = .ok (.iadd, 1) := dc_at dkL_law_b48 8 rfl
theorem dL_law_827 : decode cL_law 827 = .ok (.iaload, 1) := dc_at dkL_law_b48 9 rfl
def drL_law_b49 : List (Nat × (Instr × Nat)) := [(828, (.invokevirtual 105, 3)), (831, (.pop, 1)), (832, (.aload_n 2, 1)), (833, (.aload_n 0, 1)), (834, (.iload_n 3, 1)), (835, (.iconst 1, 1)), (836, (.iadd, 1)), (837, (.iaload, 1)), (838, (.aload_n 0, 1)), (839, (.iload_n 3, 1))]
theorem dkL_law_b49 : ((drL_law_b49).all fun r => decide (decode cL_law r.1 = .ok r.2)) = true := by decide +kernel
theorem dL_law_828 : decode cL_law 828 = .ok (.invokevirtual 105, 3) := dc_at dkL_law_b49 0 rfl
theorem dL_law_831 : decode cL_law 831 = .ok (.pop, 1) := dc_at dkL_law_b49 1 rfl
theorem dL_law_832 : decode cL_law 832 = .ok (.aload_n 2, 1) := dc_at dkL_law_b49 2 rfl
theorem dL_law_833 : decode cL_law 833 = .ok (.aload_n 0, 1) := dc_at dkL_law_b49 3 rfl
theorem dL_law_834 : decode cL_law 834 = .ok (.iload_n 3, 1) := dc_at dkL_law_b49 4 rfl
theorem dL_law_835 : decode cL_law 835 = .ok (.iconst 1, 1) := dc_at dkL_law_b49 5 rfl
theorem dL_law_836 : decode cL_law 836 = .ok (.iadd, 1) := dc_at dkL_law_b49 6 rfl
theorem dL_law_837 : decode cL_law 837 = .ok (.iaload, 1) := dc_at dkL_law_b49 7 rfl
theorem dL_law_838 : decode cL_law 838 = .ok (.aload_n 0, 1) := dc_at dkL_law_b49 8 rfl
theorem dL_law_839 : decode cL_law 839 = .ok (.iload_n 3, 1) := dc_at dkL_law_b49 9 rfl
def drL_law_b50 : List (Nat × (Instr × Nat)) := [(840, (.iconst 2, 1)), (841, (.iadd, 1)), (842, (.iaload, 1)), (843, (.invokevirtual 108, 3)), (846, (.pop, 1)), (847, (.goto 590, 3)), (850, (.aload_n 1, 1)), (851, (.aload_n 0, 1)), (852, (.iload_n 3, 1)), (853, (.iconst 1, 1))]
theorem dkL_law_b50 : ((drL_law_b50).all fun r => decide (decode cL_law r.1 = .ok r.2)) = true := by decide +kernel
theorem dL_law_840 : decode cL_law 840 = .ok (.iconst 2, 1) := dc_at dkL_law_b50 0 rfl
theorem dL_law_841 : decode cL_law 841 = .ok (.iadd, 1) := dc_at dkL_law_b50 1 rfl
theorem dL_law_842 : decode cL_law 842 = .ok (.iaload, 1) := dc_at dkL_law_b50 2 rfl
theorem dL_law_843 : decode cL_law 843 = .ok (.invokevirtual 108, 3) := dc_at dkL_law_b50 3 rfl
theorem dL_law_846 : decode cL_law 846 = .ok (.pop, 1) := dc_at dkL_law_b50 4 rfl
theorem dL_law_847 : decode cL_law 847 = .ok (.goto 590, 3) := dc_at dkL_law_b50 5 rfl
theorem dL_law_850 : decode cL_law 850 = .ok (.aload_n 1, 1) := dc_at dkL_law_b50 6 rfl
theorem dL_law_851 : decode cL_law 851 = .ok (.aload_n 0, 1) := dc_at dkL_law_b50 7 rfl
theorem dL_law_852 : decode cL_law 852 = .ok (.iload_n 3, 1) := dc_at dkL_law_b50 8 rfl
theorem dL_law_853 : decode cL_law 853 = .ok (.iconst 1, 1) := dc_at dkL_law_b50 9 rfl
def drL_law_b51 : List (Nat × (Instr × Nat)) := [(854, (.iadd, 1)), (855, (.iaload, 1)), (856, (.invokevirtual 109, 3)), (859, (.pop, 1)), (860, (.aload_n 2, 1)), (861, (.aload_n 0, 1)), (862, (.iload_n 3, 1)), (863, (.iconst 1, 1)), (864, (.iadd, 1)), (865, (.iaload, 1))]
theorem dkL_law_b51 : ((drL_law_b51).all fun r => decide (decode cL_law r.1 = .ok r.2)) = true := by decide +kernel
theorem dL_law_854 : decode cL_law 854 = .ok (.iadd, 1) := dc_at dkL_law_b51 0 rfl
theorem dL_law_855 : decode cL_law 855 = .ok (.iaload, 1) := dc_at dkL_law_b51 1 rfl
theorem dL_law_856 : decode cL_law 856 = .ok (.invokevirtual 109, 3) := dc_at dkL_law_b51 2 rfl
theorem dL_law_859 : decode cL_law 859 = .ok (.pop, 1) := dc_at dkL_law_b51 3 rfl
theorem dL_law_860 : decode cL_law 860 = .ok (.aload_n 2, 1) := dc_at dkL_law_b51 4 rfl
theorem dL_law_861 : decode cL_law 861 = .ok (.aload_n 0, 1) := dc_at dkL_law_b51 5 rfl
theorem dL_law_862 : decode cL_law 862 = .ok (.iload_n 3, 1) := dc_at dkL_law_b51 6 rfl
theorem dL_law_863 : decode cL_law 863 = .ok (.iconst 1, 1) := dc_at dkL_law_b51 7 rfl
theorem dL_law_864 : decode cL_law 864 = .ok (.iadd, 1) := dc_at dkL_law_b51 8 rfl
theorem dL_law_865 : decode cL_law 865 = .ok (.iaload, 1) := dc_at dkL_law_b51 9 rfl
def drL_law_b52 : List (Nat × (Instr × Nat)) := [(866, (.invokevirtual 112, 3)), (869, (.pop, 1)), (870, (.goto 567, 3)), (873, (.aload_n 1, 1)), (874, (.aload_n 0, 1)), (875, (.iload_n 3, 1)), (876, (.iconst 1, 1)), (877, (.iadd, 1)), (878, (.iaload, 1)), (879, (.invokevirtual 113, 3))]
theorem dkL_law_b52 : ((drL_law_b52).all fun r => decide (decode cL_law r.1 = .ok r.2)) = true := by decide +kernel
theorem dL_law_866 : decode cL_law 866 = .ok (.invokevirtual 112, 3) := dc_at dkL_law_b52 0 rfl
theorem dL_law_869 : decode cL_law 869 = .ok (.pop, 1) := dc_at dkL_law_b52 1 rfl
theorem dL_law_870 : decode cL_law 870 = .ok (.goto 567, 3) := dc_at dkL_law_b52 2 rfl
theorem dL_law_873 : decode cL_law 873 = .ok (.aload_n 1, 1) := dc_at dkL_law_b52 3 rfl
theorem dL_law_874 : decode cL_law 874 = .ok (.aload_n 0, 1) := dc_at dkL_law_b52 4 rfl
theorem dL_law_875 : decode cL_law 875 = .ok (.iload_n 3, 1) := dc_at dkL_law_b52 5 rfl
theorem dL_law_876 : decode cL_law 876 = .ok (.iconst 1, 1) := dc_at dkL_law_b52 6 rfl
theorem dL_law_877 : decode cL_law 877 = .ok (.iadd, 1) := dc_at dkL_law_b52 7 rfl
theorem dL_law_878 : decode cL_law 878 = .ok (.iaload, 1) := dc_at dkL_law_b52 8 rfl
theorem dL_law_879 : decode cL_law 879 = .ok (.invokevirtual 113, 3) := dc_at dkL_law_b52 9 rfl
def drL_law_b53 : List (Nat × (Instr × Nat)) := [(882, (.pop, 1)), (883, (.aload_n 2, 1)), (884, (.aload_n 0, 1)), (885, (.iload_n 3, 1)), (886, (.iconst 1, 1)), (887, (.iadd, 1)), (888, (.iaload, 1)), (889, (.invokevirtual 116, 3)), (892, (.pop, 1)), (893, (.goto 544, 3))]
theorem dkL_law_b53 : ((drL_law_b53).all fun r => decide (decode cL_law r.1 = .ok r.2)) = true := by decide +kernel
theorem dL_law_882 : decode cL_law 882 = .ok (.pop, 1) := dc_at dkL_law_b53 0 rfl
theorem dL_law_883 : decode cL_law 883 = .ok (.aload_n 2, 1) := dc_at dkL_law_b53 1 rfl
theorem dL_law_884 : decode cL_law 884 = .ok (.aload_n 0, 1) := dc_at dkL_law_b53 2 rfl
theorem dL_law_885 : decode cL_law 885 = .ok (.iload_n 3, 1) := dc_at dkL_law_b53 3 rfl
theorem dL_law_886 : decode cL_law 886 = .ok (.iconst 1, 1) := dc_at dkL_law_b53 4 rfl
theorem dL_law_887 : decode cL_law 887 = .ok (.iadd, 1) := dc_at dkL_law_b53 5 rfl
theorem dL_law_888 : decode cL_law 888 = .ok (.iaload, 1) := dc_at dkL_law_b53 6 rfl
theorem dL_law_889 : decode cL_law 889 = .ok (.invokevirtual 116, 3) := dc_at dkL_law_b53 7 rfl
theorem dL_law_892 : decode cL_law 892 = .ok (.pop, 1) := dc_at dkL_law_b53 8 rfl
theorem dL_law_893 : decode cL_law 893 = .ok (.goto 544, 3) := dc_at dkL_law_b53 9 rfl
def drL_law_b54 : List (Nat × (Instr × Nat)) := [(896, (.aload_n 1, 1)), (897, (.aload_n 0, 1)), (898, (.iload_n 3, 1)), (899, (.iconst 1, 1)), (900, (.iadd, 1)), (901, (.iaload, 1)), (902, (.aload_n 0, 1)), (903, (.iload_n 3, 1)), (904, (.iconst 2, 1)), (905, (.iadd, 1))]
theorem dkL_law_b54 : ((drL_law_b54).all fun r => decide (decode cL_law r.1 = .ok r.2)) = true := by decide +kernel
theorem dL_law_896 : decode cL_law 896 = .ok (.aload_n 1, 1) := dc_at dkL_law_b54 0 rfl
theorem dL_law_897 : decode cL_law 897 = .ok (.aload_n 0, 1) := dc_at dkL_law_b54 1 rfl
theorem dL_law_898 : decode cL_law 898 = .ok (.iload_n 3, 1) := dc_at dkL_law_b54 2 rfl
theorem dL_law_899 : decode cL_law 899 = .ok (.iconst 1, 1) := dc_at dkL_law_b54 3 rfl
theorem dL_law_900 : decode cL_law 900 = .ok (.iadd, 1) := dc_at dkL_law_b54 4 rfl
theorem dL_law_901 : decode cL_law 901 = .ok (.iaload, 1) := dc_at dkL_law_b54 5 rfl
theorem dL_law_902 : decode cL_law 902 = .ok (.aload_n 0, 1) := dc_at dkL_law_b54 6 rfl
theorem dL_law_903 : decode cL_law 903 = .ok (.iload_n 3, 1) := dc_at dkL_law_b54 7 rfl
theorem dL_law_904 : decode cL_law 904 = .ok (.iconst 2, 1) := dc_at dkL_law_b54 8 rfl
theorem dL_law_905 : decode cL_law 905 = .ok (.iadd, 1) := dc_at dkL_law_b54 9 rfl
def drL_law_b55 : List (Nat × (Instr × Nat)) := [(906, (.iaload, 1)), (907, (.invokevirtual 117, 3)), (910, (.pop, 1)), (911, (.aload_n 2, 1)), (912, (.aload_n 0, 1)), (913, (.iload_n 3, 1)), (914, (.iconst 1, 1)), (915, (.iadd, 1)), (916, (.iaload, 1)), (917, (.aload_n 0, 1))]
theorem dkL_law_b55 : ((drL_law_b55).all fun r => decide (decode cL_law r.1 = .ok r.2)) = true := by decide +kernel
theorem dL_law_906 : decode cL_law 906 = .ok (.iaload, 1) := dc_at dkL_law_b55 0 rfl
theorem dL_law_907 : decode cL_law 907 = .ok (.invokevirtual 117, 3) := dc_at dkL_law_b55 1 rfl
theorem dL_law_910 : decode cL_law 910 = .ok (.pop, 1) := dc_at dkL_law_b55 2 rfl
theorem dL_law_911 : decode cL_law 911 = .ok (.aload_n 2, 1) := dc_at dkL_law_b55 3 rfl
theorem dL_law_912 : decode cL_law 912 = .ok (.aload_n 0, 1) := dc_at dkL_law_b55 4 rfl
theorem dL_law_913 : decode cL_law 913 = .ok (.iload_n 3, 1) := dc_at dkL_law_b55 5 rfl
theorem dL_law_914 : decode cL_law 914 = .ok (.iconst 1, 1) := dc_at dkL_law_b55 6 rfl
theorem dL_law_915 : decode cL_law 915 = .ok (.iadd, 1) := dc_at dkL_law_b55 7 rfl
theorem dL_law_916 : decode cL_law 916 = .ok (.iaload, 1) := dc_at dkL_law_b55 8 rfl
theorem dL_law_917 : decode cL_law 917 = .ok (.aload_n 0, 1) := dc_at dkL_law_b55 9 rfl
def drL_law_b56 : List (Nat × (Instr × Nat)) := [(918, (.iload_n 3, 1)), (919, (.iconst 2, 1)), (920, (.iadd, 1)), (921, (.iaload, 1)), (922, (.invokevirtual 120, 3)), (925, (.pop, 1)), (926, (.goto 511, 3)), (929, (.aload_n 1, 1)), (930, (.aload_n 0, 1)), (931, (.iload_n 3, 1))]
theorem dkL_law_b56 : ((drL_law_b56).all fun r => decide (decode cL_law r.1 = .ok r.2)) = true := by decide +kernel
theorem dL_law_918 : decode cL_law 918 = .ok (.iload_n 3, 1) := dc_at dkL_law_b56 0 rfl
theorem dL_law_919 : decode cL_law 919 = .ok (.iconst 2, 1) := dc_at dkL_law_b56 1 rfl
theorem dL_law_920 : decode cL_law 920 = .ok (.iadd, 1) := dc_at dkL_law_b56 2 rfl
theorem dL_law_921 : decode cL_law 921 = .ok (.iaload, 1) := dc_at dkL_law_b56 3 rfl
theorem dL_law_922 : decode cL_law 922 = .ok (.invokevirtual 120, 3) := dc_at dkL_law_b56 4 rfl
theorem dL_law_925 : decode cL_law 925 = .ok (.pop, 1) := dc_at dkL_law_b56 5 rfl
theorem dL_law_926 : decode cL_law 926 = .ok (.goto 511, 3) := dc_at dkL_law_b56 6 rfl
theorem dL_law_929 : decode cL_law 929 = .ok (.aload_n 1, 1) := dc_at dkL_law_b56 7 rfl
theorem dL_law_930 : decode cL_law 930 = .ok (.aload_n 0, 1) := dc_at dkL_law_b56 8 rfl
theorem dL_law_931 : decode cL_law 931 = .ok (.iload_n 3, 1) := dc_at dkL_law_b56 9 rfl
def drL_law_b57 : List (Nat × (Instr × Nat)) := [(932, (.iconst 1, 1)), (933, (.iadd, 1)), (934, (.iaload, 1)), (935, (.invokevirtual 121, 3)), (938, (.pop, 1)), (939, (.aload_n 2, 1)), (940, (.aload_n 0, 1)), (941, (.iload_n 3, 1)), (942, (.iconst 1, 1)), (943, (.iadd, 1))]
theorem dkL_law_b57 : ((drL_law_b57).all fun r => decide (decode cL_law r.1 = .ok r.2)) = true := by decide +kernel
theorem dL_law_932 : decode cL_law 932 = .ok (.iconst 1, 1) := dc_at dkL_law_b57 0 rfl
theorem dL_law_933 : decode cL_law 933 = .ok (.iadd, 1) := dc_at dkL_law_b57 1 rfl
theorem dL_law_934 : decode cL_law 934 = .ok (.iaload, 1) := dc_at dkL_law_b57 2 rfl
theorem dL_law_935 : decode cL_law 935 = .ok (.invokevirtual 121, 3) := dc_at dkL_law_b57 3 rfl
theorem dL_law_938 : decode cL_law 938 = .ok (.pop, 1) := dc_at dkL_law_b57 4 rfl
theorem dL_law_939 : decode cL_law 939 = .ok (.aload_n 2, 1) := dc_at dkL_law_b57 5 rfl
theorem dL_law_940 : decode cL_law 940 = .ok (.aload_n 0, 1) := dc_at dkL_law_b57 6 rfl
theorem dL_law_941 : decode cL_law 941 = .ok (.iload_n 3, 1) := dc_at dkL_law_b57 7 rfl
theorem dL_law_942 : decode cL_law 942 = .ok (.iconst 1, 1) := dc_at dkL_law_b57 8 rfl
theorem dL_law_943 : decode cL_law 943 = .ok (.iadd, 1) := dc_at dkL_law_b57 9 rfl
def drL_law_b58 : List (Nat × (Instr × Nat)) := [(944, (.iaload, 1)), (945, (.invokevirtual 124, 3)), (948, (.pop, 1)), (949, (.goto 488, 3)), (952, (.aload_n 1, 1)), (953, (.aload_n 0, 1)), (954, (.iload_n 3, 1)), (955, (.iconst 1, 1)), (956, (.iadd, 1)), (957, (.iaload, 1))]
theorem dkL_law_b58 : ((drL_law_b58).all fun r => decide (decode cL_law r.1 = .ok r.2)) = true := by decide +kernel
theorem dL_law_944 : decode cL_law 944 = .ok (.iaload, 1) := dc_at dkL_law_b58 0 rfl
theorem dL_law_945 : decode cL_law 945 = .ok (.invokevirtual 124, 3) := dc_at dkL_law_b58 1 rfl
theorem dL_law_948 : decode cL_law 948 = .ok (.pop, 1) := dc_at dkL_law_b58 2 rfl
theorem dL_law_949 : decode cL_law 949 = .ok (.goto 488, 3) := dc_at dkL_law_b58 3 rfl
theorem dL_law_952 : decode cL_law 952 = .ok (.aload_n 1, 1) := dc_at dkL_law_b58 4 rfl
theorem dL_law_953 : decode cL_law 953 = .ok (.aload_n 0, 1) := dc_at dkL_law_b58 5 rfl
theorem dL_law_954 : decode cL_law 954 = .ok (.iload_n 3, 1) := dc_at dkL_law_b58 6 rfl
theorem dL_law_955 : decode cL_law 955 = .ok (.iconst 1, 1) := dc_at dkL_law_b58 7 rfl
theorem dL_law_956 : decode cL_law 956 = .ok (.iadd, 1) := dc_at dkL_law_b58 8 rfl
theorem dL_law_957 : decode cL_law 957 = .ok (.iaload, 1) := dc_at dkL_law_b58 9 rfl
def drL_law_b59 : List (Nat × (Instr × Nat)) := [(958, (.aload_n 0, 1)), (959, (.iload_n 3, 1)), (960, (.iconst 2, 1)), (961, (.iadd, 1)), (962, (.iaload, 1)), (963, (.invokevirtual 125, 3)), (966, (.pop, 1)), (967, (.aload_n 2, 1)), (968, (.aload_n 0, 1)), (969, (.iload_n 3, 1))]
theorem dkL_law_b59 : ((drL_law_b59).all fun r => decide (decode cL_law r.1 = .ok r.2)) = true := by decide +kernel
theorem dL_law_958 : decode cL_law 958 = .ok (.aload_n 0, 1) := dc_at dkL_law_b59 0 rfl
theorem dL_law_959 : decode cL_law 959 = .ok (.iload_n 3, 1) := dc_at dkL_law_b59 1 rfl
theorem dL_law_960 : decode cL_law 960 = .ok (.iconst 2, 1) := dc_at dkL_law_b59 2 rfl
theorem dL_law_961 : decode cL_law 961 = .ok (.iadd, 1) := dc_at dkL_law_b59 3 rfl
theorem dL_law_962 : decode cL_law 962 = .ok (.iaload, 1) := dc_at dkL_law_b59 4 rfl
theorem dL_law_963 : decode cL_law 963 = .ok (.invokevirtual 125, 3) := dc_at dkL_law_b59 5 rfl
theorem dL_law_966 : decode cL_law 966 = .ok (.pop, 1) := dc_at dkL_law_b59 6 rfl
theorem dL_law_967 : decode cL_law 967 = .ok (.aload_n 2, 1) := dc_at dkL_law_b59 7 rfl
theorem dL_law_968 : decode cL_law 968 = .ok (.aload_n 0, 1) := dc_at dkL_law_b59 8 rfl
theorem dL_law_969 : decode cL_law 969 = .ok (.iload_n 3, 1) := dc_at dkL_law_b59 9 rfl
def drL_law_b60 : List (Nat × (Instr × Nat)) := [(970, (.iconst 1, 1)), (971, (.iadd, 1)), (972, (.iaload, 1)), (973, (.aload_n 0, 1)), (974, (.iload_n 3, 1)), (975, (.iconst 2, 1)), (976, (.iadd, 1)), (977, (.iaload, 1)), (978, (.invokevirtual 128, 3)), (981, (.pop, 1))]
theorem dkL_law_b60 : ((drL_law_b60).all fun r => decide (decode cL_law r.1 = .ok r.2)) = true := by decide +kernel
theorem dL_law_970 : decode cL_law 970 = .ok (.iconst 1, 1) := dc_at dkL_law_b60 0 rfl
theorem dL_law_971 : decode cL_law 971 = .ok (.iadd, 1) := dc_at dkL_law_b60 1 rfl
theorem dL_law_972 : decode cL_law 972 = .ok (.iaload, 1) := dc_at dkL_law_b60 2 rfl
theorem dL_law_973 : decode cL_law 973 = .ok (.aload_n 0, 1) := dc_at dkL_law_b60 3 rfl
theorem dL_law_974 : decode cL_law 974 = .ok (.iload_n 3, 1) := dc_at dkL_law_b60 4 rfl
theorem dL_law_975 : decode cL_law 975 = .ok (.iconst 2, 1) := dc_at dkL_law_b60 5 rfl
theorem dL_law_976 : decode cL_law 976 = .ok (.iadd, 1) := dc_at dkL_law_b60 6 rfl
theorem dL_law_977 : decode cL_law 977 = .ok (.iaload, 1) := dc_at dkL_law_b60 7 rfl
theorem dL_law_978 : decode cL_law 978 = .ok (.invokevirtual 128, 3) := dc_at dkL_law_b60 8 rfl
theorem dL_law_981 : decode cL_law 981 = .ok (.pop, 1) := dc_at dkL_law_b60 9 rfl
def drL_law_b61 : List (Nat × (Instr × Nat)) := [(982, (.goto 455, 3)), (985, (.aload_n 1, 1)), (986, (.aload_n 0, 1)), (987, (.iload_n 3, 1)), (988, (.iconst 1, 1)), (989, (.iadd, 1)), (990, (.iaload, 1)), (991, (.invokevirtual 129, 3)), (994, (.pop, 1)), (995, (.aload_n 2, 1))]
theorem dkL_law_b61 : ((drL_law_b61).all fun r => decide (decode cL_law r.1 = .ok r.2)) = true := by decide +kernel
theorem dL_law_982 : decode cL_law 982 = .ok (.goto 455, 3) := dc_at dkL_law_b61 0 rfl
theorem dL_law_985 : decode cL_law 985 = .ok (.aload_n 1, 1) := dc_at dkL_law_b61 1 rfl
theorem dL_law_986 : decode cL_law 986 = .ok (.aload_n 0, 1) := dc_at dkL_law_b61 2 rfl
theorem dL_law_987 : decode cL_law 987 = .ok (.iload_n 3, 1) := dc_at dkL_law_b61 3 rfl
theorem dL_law_988 : decode cL_law 988 = .ok (.iconst 1, 1) := dc_at dkL_law_b61 4 rfl
theorem dL_law_989 : decode cL_law 989 = .ok (.iadd, 1) := dc_at dkL_law_b61 5 rfl
theorem dL_law_990 : decode cL_law 990 = .ok (.iaload, 1) := dc_at dkL_law_b61 6 rfl
theorem dL_law_991 : decode cL_law 991 = .ok (.invokevirtual 129, 3) := dc_at dkL_law_b61 7 rfl
theorem dL_law_994 : decode cL_law 994 = .ok (.pop, 1) := dc_at dkL_law_b61 8 rfl
theorem dL_law_995 : decode cL_law 995 = .ok (.aload_n 2, 1) := dc_at dkL_law_b61 9 rfl
def drL_law_b62 : List (Nat × (Instr × Nat)) := [(996, (.aload_n 0, 1)), (997, (.iload_n 3, 1)), (998, (.iconst 1, 1)), (999, (.iadd, 1)), (1000, (.iaload, 1)), (1001, (.invokevirtual 132, 3)), (1004, (.pop, 1)), (1005, (.goto 432, 3)), (1008, (.aload_n 1, 1)), (1009, (.aload_n 0, 1))]
theorem dkL_law_b62 : ((drL_law_b62).all fun r => decide (decode cL_law r.1 = .ok r.2)) = true := by decide +kernel
theorem dL_law_996 : decode cL_law 996 = .ok (.aload_n 0, 1) := dc_at dkL_law_b62 0 rfl
theorem dL_law_997 : decode cL_law 997 = .ok (.iload_n 3, 1) := dc_at dkL_law_b62 1 rfl
theorem dL_law_998 : decode cL_law 998 = .ok (.iconst 1, 1) := dc_at dkL_law_b62 2 rfl
theorem dL_law_999 : decode cL_law 999 = .ok (.iadd, 1) := dc_at dkL_law_b62 3 rfl
theorem dL_law_1000 : decode cL_law 1000 = .ok (.iaload, 1) := dc_at dkL_law_b62 4 rfl
theorem dL_law_1001 : decode cL_law 1001 = .ok (.invokevirtual 132, 3) := dc_at dkL_law_b62 5 rfl
theorem dL_law_1004 : decode cL_law 1004 = .ok (.pop, 1) := dc_at dkL_law_b62 6 rfl
theorem dL_law_1005 : decode cL_law 1005 = .ok (.goto 432, 3) := dc_at dkL_law_b62 7 rfl
theorem dL_law_1008 : decode cL_law 1008 = .ok (.aload_n 1, 1) := dc_at dkL_law_b62 8 rfl
theorem dL_law_1009 : decode cL_law 1009 = .ok (.aload_n 0, 1) := dc_at dkL_law_b62 9 rfl
def drL_law_b63 : List (Nat × (Instr × Nat)) := [(1010, (.iload_n 3, 1)), (1011, (.iconst 1, 1)), (1012, (.iadd, 1)), (1013, (.iaload, 1)), (1014, (.invokevirtual 133, 3)), (1017, (.pop, 1)), (1018, (.aload_n 2, 1)), (1019, (.aload_n 0, 1)), (1020, (.iload_n 3, 1)), (1021, (.iconst 1, 1))]
theorem dkL_law_b63 : ((drL_law_b63).all fun r => decide (decode cL_law r.1 = .ok r.2)) = true := by decide +kernel
theorem dL_law_1010 : decode cL_law 1010 = .ok (.iload_n 3, 1) := dc_at dkL_law_b63 0 rfl
theorem dL_law_1011 : decode cL_law 1011 = .ok (.iconst 1, 1) := dc_at dkL_law_b63 1 rfl
theorem dL_law_1012 : decode cL_law 1012 = .ok (.iadd, 1) := dc_at dkL_law_b63 2 rfl
theorem dL_law_1013 : decode cL_law 1013 = .ok (.iaload, 1) := dc_at dkL_law_b63 3 rfl
theorem dL_law_1014 : decode cL_law 1014 = .ok (.invokevirtual 133, 3) := dc_at dkL_law_b63 4 rfl
theorem dL_law_1017 : decode cL_law 1017 = .ok (.pop, 1) := dc_at dkL_law_b63 5 rfl
theorem dL_law_1018 : decode cL_law 1018 = .ok (.aload_n 2, 1) := dc_at dkL_law_b63 6 rfl
theorem dL_law_1019 : decode cL_law 1019 = .ok (.aload_n 0, 1) := dc_at dkL_law_b63 7 rfl
theorem dL_law_1020 : decode cL_law 1020 = .ok (.iload_n 3, 1) := dc_at dkL_law_b63 8 rfl
theorem dL_law_1021 : decode cL_law 1021 = .ok (.iconst 1, 1) := dc_at dkL_law_b63 9 rfl
def drL_law_b64 : List (Nat × (Instr × Nat)) := [(1022, (.iadd, 1)), (1023, (.iaload, 1)), (1024, (.invokevirtual 136, 3)), (1027, (.pop, 1)), (1028, (.goto 409, 3)), (1031, (.aload_n 1, 1)), (1032, (.aload_n 0, 1)), (1033, (.iload_n 3, 1)), (1034, (.iconst 1, 1)), (1035, (.iadd, 1))]
theorem dkL_law_b64 : ((drL_law_b64).all fun r => decide (decode cL_law r.1 = .ok r.2)) = true := by decide +kernel
theorem dL_law_1022 : decode cL_law 1022 = .ok (.iadd, 1) := dc_at dkL_law_b64 0 rfl
theorem dL_law_1023 : decode cL_law 1023 = .ok (.iaload, 1) := dc_at dkL_law_b64 1 rfl
theorem dL_law_1024 : decode cL_law 1024 = .ok (.invokevirtual 136, 3) := dc_at dkL_law_b64 2 rfl
theorem dL_law_1027 : decode cL_law 1027 = .ok (.pop, 1) := dc_at dkL_law_b64 3 rfl
theorem dL_law_1028 : decode cL_law 1028 = .ok (.goto 409, 3) := dc_at dkL_law_b64 4 rfl
theorem dL_law_1031 : decode cL_law 1031 = .ok (.aload_n 1, 1) := dc_at dkL_law_b64 5 rfl
theorem dL_law_1032 : decode cL_law 1032 = .ok (.aload_n 0, 1) := dc_at dkL_law_b64 6 rfl
theorem dL_law_1033 : decode cL_law 1033 = .ok (.iload_n 3, 1) := dc_at dkL_law_b64 7 rfl
theorem dL_law_1034 : decode cL_law 1034 = .ok (.iconst 1, 1) := dc_at dkL_law_b64 8 rfl
theorem dL_law_1035 : decode cL_law 1035 = .ok (.iadd, 1) := dc_at dkL_law_b64 9 rfl
def drL_law_b65 : List (Nat × (Instr × Nat)) := [(1036, (.iaload, 1)), (1037, (.aload_n 0, 1)), (1038, (.iload_n 3, 1)), (1039, (.iconst 2, 1)), (1040, (.iadd, 1)), (1041, (.iaload, 1)), (1042, (.aload_n 0, 1)), (1043, (.iload_n 3, 1)), (1044, (.iconst 3, 1)), (1045, (.iadd, 1))]
theorem dkL_law_b65 : ((drL_law_b65).all fun r => decide (decode cL_law r.1 = .ok r.2)) = true := by decide +kernel
theorem dL_law_1036 : decode cL_law 1036 = .ok (.iaload, 1) := dc_at dkL_law_b65 0 rfl
theorem dL_law_1037 : decode cL_law 1037 = .ok (.aload_n 0, 1) := dc_at dkL_law_b65 1 rfl
theorem dL_law_1038 : decode cL_law 1038 = .ok (.iload_n 3, 1) := dc_at dkL_law_b65 2 rfl
theorem dL_law_1039 : decode cL_law 1039 = .ok (.iconst 2, 1) := dc_at dkL_law_b65 3 rfl
theorem dL_law_1040 : decode cL_law 1040 = .ok (.iadd, 1) := dc_at dkL_law_b65 4 rfl
theorem dL_law_1041 : decode cL_law 1041 = .ok (.iaload, 1) := dc_at dkL_law_b65 5 rfl
theorem dL_law_1042 : decode cL_law 1042 = .ok (.aload_n 0, 1) := dc_at dkL_law_b65 6 rfl
theorem dL_law_1043 : decode cL_law 1043 = .ok (.iload_n 3, 1) := dc_at dkL_law_b65 7 rfl
theorem dL_law_1044 : decode cL_law 1044 = .ok (.iconst 3, 1) := dc_at dkL_law_b65 8 rfl
theorem dL_law_1045 : decode cL_law 1045 = .ok (.iadd, 1) := dc_at dkL_law_b65 9 rfl
def drL_law_b66 : List (Nat × (Instr × Nat)) := [(1046, (.iaload, 1)), (1047, (.aload_n 0, 1)), (1048, (.iload_n 3, 1)), (1049, (.iconst 4, 1)), (1050, (.iadd, 1)), (1051, (.iaload, 1)), (1052, (.aload_n 0, 1)), (1053, (.iload_n 3, 1)), (1054, (.iconst 5, 1)), (1055, (.iadd, 1))]
theorem dkL_law_b66 : ((drL_law_b66).all fun r => decide (decode cL_law r.1 = .ok r.2)) = true := by decide +kernel
theorem dL_law_1046 : decode cL_law 1046 = .ok (.iaload, 1) := dc_at dkL_law_b66 0 rfl
theorem dL_law_1047 : decode cL_law 1047 = .ok (.aload_n 0, 1) := dc_at dkL_law_b66 1 rfl
theorem dL_law_1048 : decode cL_law 1048 = .ok (.iload_n 3, 1) := dc_at dkL_law_b66 2 rfl
theorem dL_law_1049 : decode cL_law 1049 = .ok (.iconst 4, 1) := dc_at dkL_law_b66 3 rfl
theorem dL_law_1050 : decode cL_law 1050 = .ok (.iadd, 1) := dc_at dkL_law_b66 4 rfl
theorem dL_law_1051 : decode cL_law 1051 = .ok (.iaload, 1) := dc_at dkL_law_b66 5 rfl
theorem dL_law_1052 : decode cL_law 1052 = .ok (.aload_n 0, 1) := dc_at dkL_law_b66 6 rfl
theorem dL_law_1053 : decode cL_law 1053 = .ok (.iload_n 3, 1) := dc_at dkL_law_b66 7 rfl
theorem dL_law_1054 : decode cL_law 1054 = .ok (.iconst 5, 1) := dc_at dkL_law_b66 8 rfl
theorem dL_law_1055 : decode cL_law 1055 = .ok (.iadd, 1) := dc_at dkL_law_b66 9 rfl
def drL_law_b67 : List (Nat × (Instr × Nat)) := [(1056, (.iaload, 1)), (1057, (.invokevirtual 137, 3)), (1060, (.pop, 1)), (1061, (.aload_n 2, 1)), (1062, (.aload_n 0, 1)), (1063, (.iload_n 3, 1)), (1064, (.iconst 1, 1)), (1065, (.iadd, 1)), (1066, (.iaload, 1)), (1067, (.aload_n 0, 1))]
theorem dkL_law_b67 : ((drL_law_b67).all fun r => decide (decode cL_law r.1 = .ok r.2)) = true := by decide +kernel
theorem dL_law_1056 : decode cL_law 1056 = .ok (.iaload, 1) := dc_at dkL_law_b67 0 rfl
theorem dL_law_1057 : decode cL_law 1057 = .ok (.invokevirtual 137, 3) := dc_at dkL_law_b67 1 rfl
theorem dL_law_1060 : decode cL_law 1060 = .ok (.pop, 1) := dc_at dkL_law_b67 2 rfl
theorem dL_law_1061 : decode cL_law 1061 = .ok (.aload_n 2, 1) := dc_at dkL_law_b67 3 rfl
theorem dL_law_1062 : decode cL_law 1062 = .ok (.aload_n 0, 1) := dc_at dkL_law_b67 4 rfl
theorem dL_law_1063 : decode cL_law 1063 = .ok (.iload_n 3, 1) := dc_at dkL_law_b67 5 rfl
theorem dL_law_1064 : decode cL_law 1064 = .ok (.iconst 1, 1) := dc_at dkL_law_b67 6 rfl
theorem dL_law_1065 : decode cL_law 1065 = .ok (.iadd, 1) := dc_at dkL_law_b67 7 rfl
theorem dL_law_1066 : decode cL_law 1066 = .ok (.iaload, 1) := dc_at dkL_law_b67 8 rfl
theorem dL_law_1067 : decode cL_law 1067 = .ok (.aload_n 0, 1) := dc_at dkL_law_b67 9 rfl
def drL_law_b68 : List (Nat × (Instr × Nat)) := [(1068, (.iload_n 3, 1)), (1069, (.iconst 2, 1)), (1070, (.iadd, 1)), (1071, (.iaload, 1)), (1072, (.aload_n 0, 1)), (1073, (.iload_n 3, 1)), (1074, (.iconst 3, 1)), (1075, (.iadd, 1)), (1076, (.iaload, 1)), (1077, (.aload_n 0, 1))]
theorem dkL_law_b68 : ((drL_law_b68).all fun r => decide (decode cL_law r.1 = .ok r.2)) = true := by decide +kernel
theorem dL_law_1068 : decode cL_law 1068 = .ok (.iload_n 3, 1) := dc_at dkL_law_b68 0 rfl
theorem dL_law_1069 : decode cL_law 1069 = .ok (.iconst 2, 1) := dc_at dkL_law_b68 1 rfl
theorem dL_law_1070 : decode cL_law 1070 = .ok (.iadd, 1) := dc_at dkL_law_b68 2 rfl
theorem dL_law_1071 : decode cL_law 1071 = .ok (.iaload, 1) := dc_at dkL_law_b68 3 rfl
theorem dL_law_1072 : decode cL_law 1072 = .ok (.aload_n 0, 1) := dc_at dkL_law_b68 4 rfl
theorem dL_law_1073 : decode cL_law 1073 = .ok (.iload_n 3, 1) := dc_at dkL_law_b68 5 rfl
theorem dL_law_1074 : decode cL_law 1074 = .ok (.iconst 3, 1) := dc_at dkL_law_b68 6 rfl
theorem dL_law_1075 : decode cL_law 1075 = .ok (.iadd, 1) := dc_at dkL_law_b68 7 rfl
theorem dL_law_1076 : decode cL_law 1076 = .ok (.iaload, 1) := dc_at dkL_law_b68 8 rfl
theorem dL_law_1077 : decode cL_law 1077 = .ok (.aload_n 0, 1) := dc_at dkL_law_b68 9 rfl
def drL_law_b69 : List (Nat × (Instr × Nat)) := [(1078, (.iload_n 3, 1)), (1079, (.iconst 4, 1)), (1080, (.iadd, 1)), (1081, (.iaload, 1)), (1082, (.aload_n 0, 1)), (1083, (.iload_n 3, 1)), (1084, (.iconst 5, 1)), (1085, (.iadd, 1)), (1086, (.iaload, 1)), (1087, (.invokevirtual 141, 3))]
theorem dkL_law_b69 : ((drL_law_b69).all fun r => decide (decode cL_law r.1 = .ok r.2)) = true := by decide +kernel
theorem dL_law_1078 : decode cL_law 1078 = .ok (.iload_n 3, 1) := dc_at dkL_law_b69 0 rfl
theorem dL_law_1079 : decode cL_law 1079 = .ok (.iconst 4, 1) := dc_at dkL_law_b69 1 rfl
theorem dL_law_1080 : decode cL_law 1080 = .ok (.iadd, 1) := dc_at dkL_law_b69 2 rfl
theorem dL_law_1081 : decode cL_law 1081 = .ok (.iaload, 1) := dc_at dkL_law_b69 3 rfl
theorem dL_law_1082 : decode cL_law 1082 = .ok (.aload_n 0, 1) := dc_at dkL_law_b69 4 rfl
theorem dL_law_1083 : decode cL_law 1083 = .ok (.iload_n 3, 1) := dc_at dkL_law_b69 5 rfl
theorem dL_law_1084 : decode cL_law 1084 = .ok (.iconst 5, 1) := dc_at dkL_law_b69 6 rfl
theorem dL_law_1085 : decode cL_law 1085 = .ok (.iadd, 1) := dc_at dkL_law_b69 7 rfl
theorem dL_law_1086 : decode cL_law 1086 = .ok (.iaload, 1) := dc_at dkL_law_b69 8 rfl
theorem dL_law_1087 : decode cL_law 1087 = .ok (.invokevirtual 141, 3) := dc_at dkL_law_b69 9 rfl
def drL_law_b70 : List (Nat × (Instr × Nat)) := [(1090, (.pop, 1)), (1091, (.goto 346, 3)), (1094, (.aload_n 1, 1)), (1095, (.aload_n 0, 1)), (1096, (.iload_n 3, 1)), (1097, (.iconst 1, 1)), (1098, (.iadd, 1)), (1099, (.iaload, 1)), (1100, (.aload_n 0, 1)), (1101, (.iload_n 3, 1))]
theorem dkL_law_b70 : ((drL_law_b70).all fun r => decide (decode cL_law r.1 = .ok r.2)) = true := by decide +kernel
theorem dL_law_1090 : decode cL_law 1090 = .ok (.pop, 1) := dc_at dkL_law_b70 0 rfl
theorem dL_law_1091 : decode cL_law 1091 = .ok (.goto 346, 3) := dc_at dkL_law_b70 1 rfl
theorem dL_law_1094 : decode cL_law 1094 = .ok (.aload_n 1, 1) := dc_at dkL_law_b70 2 rfl
theorem dL_law_1095 : decode cL_law 1095 = .ok (.aload_n 0, 1) := dc_at dkL_law_b70 3 rfl
theorem dL_law_1096 : decode cL_law 1096 = .ok (.iload_n 3, 1) := dc_at dkL_law_b70 4 rfl
theorem dL_law_1097 : decode cL_law 1097 = .ok (.iconst 1, 1) := dc_at dkL_law_b70 5 rfl
theorem dL_law_1098 : decode cL_law 1098 = .ok (.iadd, 1) := dc_at dkL_law_b70 6 rfl
theorem dL_law_1099 : decode cL_law 1099 = .ok (.iaload, 1) := dc_at dkL_law_b70 7 rfl
theorem dL_law_1100 : decode cL_law 1100 = .ok (.aload_n 0, 1) := dc_at dkL_law_b70 8 rfl
theorem dL_law_1101 : decode cL_law 1101 = .ok (.iload_n 3, 1) := dc_at dkL_law_b70 9 rfl
def drL_law_b71 : List (Nat × (Instr × Nat)) := [(1102, (.iconst 2, 1)), (1103, (.iadd, 1)), (1104, (.iaload, 1)), (1105, (.aload_n 0, 1)), (1106, (.iload_n 3, 1)), (1107, (.iconst 3, 1)), (1108, (.iadd, 1)), (1109, (.iaload, 1)), (1110, (.aload_n 0, 1)), (1111, (.iload_n 3, 1))]
theorem dkL_law_b71 : ((drL_law_b71).all fun r => decide (decode cL_law r.1 = .ok r.2)) = true := by decide +kernel
theorem dL_law_1102 : decode cL_law 1102 = .ok (.iconst 2, 1) := dc_at dkL_law_b71 0 rfl
theorem dL_law_1103 : decode cL_law 1103 = .ok (.iadd, 1) := dc_at dkL_law_b71 1 rfl
theorem dL_law_1104 : decode cL_law 1104 = .ok (.iaload, 1) := dc_at dkL_law_b71 2 rfl
theorem dL_law_1105 : decode cL_law 1105 = .ok (.aload_n 0, 1) := dc_at dkL_law_b71 3 rfl
theorem dL_law_1106 : decode cL_law 1106 = .ok (.iload_n 3, 1) := dc_at dkL_law_b71 4 rfl
theorem dL_law_1107 : decode cL_law 1107 = .ok (.iconst 3, 1) := dc_at dkL_law_b71 5 rfl
theorem dL_law_1108 : decode cL_law 1108 = .ok (.iadd, 1) := dc_at dkL_law_b71 6 rfl
theorem dL_law_1109 : decode cL_law 1109 = .ok (.iaload, 1) := dc_at dkL_law_b71 7 rfl
theorem dL_law_1110 : decode cL_law 1110 = .ok (.aload_n 0, 1) := dc_at dkL_law_b71 8 rfl
theorem dL_law_1111 : decode cL_law 1111 = .ok (.iload_n 3, 1) := dc_at dkL_law_b71 9 rfl
def drL_law_b72 : List (Nat × (Instr × Nat)) := [(1112, (.iconst 4, 1)), (1113, (.iadd, 1)), (1114, (.iaload, 1)), (1115, (.invokevirtual 142, 3)), (1118, (.pop, 1)), (1119, (.aload_n 2, 1)), (1120, (.aload_n 0, 1)), (1121, (.iload_n 3, 1)), (1122, (.iconst 1, 1)), (1123, (.iadd, 1))]
theorem dkL_law_b72 : ((drL_law_b72).all fun r => decide (decode cL_law r.1 = .ok r.2)) = true := by decide +kernel
theorem dL_law_1112 : decode cL_law 1112 = .ok (.iconst 4, 1) := dc_at dkL_law_b72 0 rfl
theorem dL_law_1113 : decode cL_law 1113 = .ok (.iadd, 1) := dc_at dkL_law_b72 1 rfl
theorem dL_law_1114 : decode cL_law 1114 = .ok (.iaload, 1) := dc_at dkL_law_b72 2 rfl
theorem dL_law_1115 : decode cL_law 1115 = .ok (.invokevirtual 142, 3) := dc_at dkL_law_b72 3 rfl
theorem dL_law_1118 : decode cL_law 1118 = .ok (.pop, 1) := dc_at dkL_law_b72 4 rfl
theorem dL_law_1119 : decode cL_law 1119 = .ok (.aload_n 2, 1) := dc_at dkL_law_b72 5 rfl
theorem dL_law_1120 : decode cL_law 1120 = .ok (.aload_n 0, 1) := dc_at dkL_law_b72 6 rfl
theorem dL_law_1121 : decode cL_law 1121 = .ok (.iload_n 3, 1) := dc_at dkL_law_b72 7 rfl
theorem dL_law_1122 : decode cL_law 1122 = .ok (.iconst 1, 1) := dc_at dkL_law_b72 8 rfl
theorem dL_law_1123 : decode cL_law 1123 = .ok (.iadd, 1) := dc_at dkL_law_b72 9 rfl
def drL_law_b73 : List (Nat × (Instr × Nat)) := [(1124, (.iaload, 1)), (1125, (.aload_n 0, 1)), (1126, (.iload_n 3, 1)), (1127, (.iconst 2, 1)), (1128, (.iadd, 1)), (1129, (.iaload, 1)), (1130, (.aload_n 0, 1)), (1131, (.iload_n 3, 1)), (1132, (.iconst 3, 1)), (1133, (.iadd, 1))]
theorem dkL_law_b73 : ((drL_law_b73).all fun r => decide (decode cL_law r.1 = .ok r.2)) = true := by decide +kernel
theorem dL_law_1124 : decode cL_law 1124 = .ok (.iaload, 1) := dc_at dkL_law_b73 0 rfl
theorem dL_law_1125 : decode cL_law 1125 = .ok (.aload_n 0, 1) := dc_at dkL_law_b73 1 rfl
theorem dL_law_1126 : decode cL_law 1126 = .ok (.iload_n 3, 1) := dc_at dkL_law_b73 2 rfl
theorem dL_law_1127 : decode cL_law 1127 = .ok (.iconst 2, 1) := dc_at dkL_law_b73 3 rfl
theorem dL_law_1128 : decode cL_law 1128 = .ok (.iadd, 1) := dc_at dkL_law_b73 4 rfl
theorem dL_law_1129 : decode cL_law 1129 = .ok (.iaload, 1) := dc_at dkL_law_b73 5 rfl
theorem dL_law_1130 : decode cL_law 1130 = .ok (.aload_n 0, 1) := dc_at dkL_law_b73 6 rfl
theorem dL_law_1131 : decode cL_law 1131 = .ok (.iload_n 3, 1) := dc_at dkL_law_b73 7 rfl
theorem dL_law_1132 : decode cL_law 1132 = .ok (.iconst 3, 1) := dc_at dkL_law_b73 8 rfl
theorem dL_law_1133 : decode cL_law 1133 = .ok (.iadd, 1) := dc_at dkL_law_b73 9 rfl
def drL_law_b74 : List (Nat × (Instr × Nat)) := [(1134, (.iaload, 1)), (1135, (.aload_n 0, 1)), (1136, (.iload_n 3, 1)), (1137, (.iconst 4, 1)), (1138, (.iadd, 1)), (1139, (.iaload, 1)), (1140, (.invokevirtual 146, 3)), (1143, (.pop, 1)), (1144, (.goto 293, 3)), (1147, (.aload_n 1, 1))]
theorem dkL_law_b74 : ((drL_law_b74).all fun r => decide (decode cL_law r.1 = .ok r.2)) = true := by decide +kernel
theorem dL_law_1134 : decode cL_law 1134 = .ok (.iaload, 1) := dc_at dkL_law_b74 0 rfl
theorem dL_law_1135 : decode cL_law 1135 = .ok (.aload_n 0, 1) := dc_at dkL_law_b74 1 rfl
theorem dL_law_1136 : decode cL_law 1136 = .ok (.iload_n 3, 1) := dc_at dkL_law_b74 2 rfl
theorem dL_law_1137 : decode cL_law 1137 = .ok (.iconst 4, 1) := dc_at dkL_law_b74 3 rfl
theorem dL_law_1138 : decode cL_law 1138 = .ok (.iadd, 1) := dc_at dkL_law_b74 4 rfl
theorem dL_law_1139 : decode cL_law 1139 = .ok (.iaload, 1) := dc_at dkL_law_b74 5 rfl
theorem dL_law_1140 : decode cL_law 1140 = .ok (.invokevirtual 146, 3) := dc_at dkL_law_b74 6 rfl
theorem dL_law_1143 : decode cL_law 1143 = .ok (.pop, 1) := dc_at dkL_law_b74 7 rfl
theorem dL_law_1144 : decode cL_law 1144 = .ok (.goto 293, 3) := dc_at dkL_law_b74 8 rfl
theorem dL_law_1147 : decode cL_law 1147 = .ok (.aload_n 1, 1) := dc_at dkL_law_b74 9 rfl
def drL_law_b75 : List (Nat × (Instr × Nat)) := [(1148, (.aload_n 0, 1)), (1149, (.iload_n 3, 1)), (1150, (.iconst 1, 1)), (1151, (.iadd, 1)), (1152, (.iaload, 1)), (1153, (.aload_n 0, 1)), (1154, (.iload_n 3, 1)), (1155, (.iconst 2, 1)), (1156, (.iadd, 1)), (1157, (.iaload, 1))]
theorem dkL_law_b75 : ((drL_law_b75).all fun r => decide (decode cL_law r.1 = .ok r.2)) = true := by decide +kernel
theorem dL_law_1148 : decode cL_law 1148 = .ok (.aload_n 0, 1) := dc_at dkL_law_b75 0 rfl
theorem dL_law_1149 : decode cL_law 1149 = .ok (.iload_n 3, 1) := dc_at dkL_law_b75 1 rfl
theorem dL_law_1150 : decode cL_law 1150 = .ok (.iconst 1, 1) := dc_at dkL_law_b75 2 rfl
theorem dL_law_1151 : decode cL_law 1151 = .ok (.iadd, 1) := dc_at dkL_law_b75 3 rfl
theorem dL_law_1152 : decode cL_law 1152 = .ok (.iaload, 1) := dc_at dkL_law_b75 4 rfl
theorem dL_law_1153 : decode cL_law 1153 = .ok (.aload_n 0, 1) := dc_at dkL_law_b75 5 rfl
theorem dL_law_1154 : decode cL_law 1154 = .ok (.iload_n 3, 1) := dc_at dkL_law_b75 6 rfl
theorem dL_law_1155 : decode cL_law 1155 = .ok (.iconst 2, 1) := dc_at dkL_law_b75 7 rfl
theorem dL_law_1156 : decode cL_law 1156 = .ok (.iadd, 1) := dc_at dkL_law_b75 8 rfl
theorem dL_law_1157 : decode cL_law 1157 = .ok (.iaload, 1) := dc_at dkL_law_b75 9 rfl
def drL_law_b76 : List (Nat × (Instr × Nat)) := [(1158, (.invokevirtual 147, 3)), (1161, (.pop, 1)), (1162, (.aload_n 2, 1)), (1163, (.aload_n 0, 1)), (1164, (.iload_n 3, 1)), (1165, (.iconst 1, 1)), (1166, (.iadd, 1)), (1167, (.iaload, 1)), (1168, (.aload_n 0, 1)), (1169, (.iload_n 3, 1))]
theorem dkL_law_b76 : ((drL_law_b76).all fun r => decide (decode cL_law r.1 = .ok r.2)) = true := by decide +kernel
theorem dL_law_1158 : decode cL_law 1158 = .ok (.invokevirtual 147, 3) := dc_at dkL_law_b76 0 rfl
theorem dL_law_1161 : decode cL_law 1161 = .ok (.pop, 1) := dc_at dkL_law_b76 1 rfl
theorem dL_law_1162 : decode cL_law 1162 = .ok (.aload_n 2, 1) := dc_at dkL_law_b76 2 rfl
theorem dL_law_1163 : decode cL_law 1163 = .ok (.aload_n 0, 1) := dc_at dkL_law_b76 3 rfl
theorem dL_law_1164 : decode cL_law 1164 = .ok (.iload_n 3, 1) := dc_at dkL_law_b76 4 rfl
theorem dL_law_1165 : decode cL_law 1165 = .ok (.iconst 1, 1) := dc_at dkL_law_b76 5 rfl
theorem dL_law_1166 : decode cL_law 1166 = .ok (.iadd, 1) := dc_at dkL_law_b76 6 rfl
theorem dL_law_1167 : decode cL_law 1167 = .ok (.iaload, 1) := dc_at dkL_law_b76 7 rfl
theorem dL_law_1168 : decode cL_law 1168 = .ok (.aload_n 0, 1) := dc_at dkL_law_b76 8 rfl
theorem dL_law_1169 : decode cL_law 1169 = .ok (.iload_n 3, 1) := dc_at dkL_law_b76 9 rfl
def drL_law_b77 : List (Nat × (Instr × Nat)) := [(1170, (.iconst 2, 1)), (1171, (.iadd, 1)), (1172, (.iaload, 1)), (1173, (.invokevirtual 150, 3)), (1176, (.pop, 1)), (1177, (.goto 260, 3)), (1180, (.aload_n 1, 1)), (1181, (.invokevirtual 151, 3)), (1184, (.pop, 1)), (1185, (.aload_n 2, 1))]
theorem dkL_law_b77 : ((drL_law_b77).all fun r => decide (decode cL_law r.1 = .ok r.2)) = true := by decide +kernel
theorem dL_law_1170 : decode cL_law 1170 = .ok (.iconst 2, 1) := dc_at dkL_law_b77 0 rfl
theorem dL_law_1171 : decode cL_law 1171 = .ok (.iadd, 1) := dc_at dkL_law_b77 1 rfl
theorem dL_law_1172 : decode cL_law 1172 = .ok (.iaload, 1) := dc_at dkL_law_b77 2 rfl
theorem dL_law_1173 : decode cL_law 1173 = .ok (.invokevirtual 150, 3) := dc_at dkL_law_b77 3 rfl
theorem dL_law_1176 : decode cL_law 1176 = .ok (.pop, 1) := dc_at dkL_law_b77 4 rfl
theorem dL_law_1177 : decode cL_law 1177 = .ok (.goto 260, 3) := dc_at dkL_law_b77 5 rfl
theorem dL_law_1180 : decode cL_law 1180 = .ok (.aload_n 1, 1) := dc_at dkL_law_b77 6 rfl
theorem dL_law_1181 : decode cL_law 1181 = .ok (.invokevirtual 151, 3) := dc_at dkL_law_b77 7 rfl
theorem dL_law_1184 : decode cL_law 1184 = .ok (.pop, 1) := dc_at dkL_law_b77 8 rfl
theorem dL_law_1185 : decode cL_law 1185 = .ok (.aload_n 2, 1) := dc_at dkL_law_b77 9 rfl
def drL_law_b78 : List (Nat × (Instr × Nat)) := [(1186, (.invokevirtual 154, 3)), (1189, (.pop, 1)), (1190, (.goto 247, 3)), (1193, (.aload_n 1, 1)), (1194, (.aload_n 0, 1)), (1195, (.iload_n 3, 1)), (1196, (.iconst 1, 1)), (1197, (.iadd, 1)), (1198, (.iaload, 1)), (1199, (.invokevirtual 155, 3))]
theorem dkL_law_b78 : ((drL_law_b78).all fun r => decide (decode cL_law r.1 = .ok r.2)) = true := by decide +kernel
theorem dL_law_1186 : decode cL_law 1186 = .ok (.invokevirtual 154, 3) := dc_at dkL_law_b78 0 rfl
theorem dL_law_1189 : decode cL_law 1189 = .ok (.pop, 1) := dc_at dkL_law_b78 1 rfl
theorem dL_law_1190 : decode cL_law 1190 = .ok (.goto 247, 3) := dc_at dkL_law_b78 2 rfl
theorem dL_law_1193 : decode cL_law 1193 = .ok (.aload_n 1, 1) := dc_at dkL_law_b78 3 rfl
theorem dL_law_1194 : decode cL_law 1194 = .ok (.aload_n 0, 1) := dc_at dkL_law_b78 4 rfl
theorem dL_law_1195 : decode cL_law 1195 = .ok (.iload_n 3, 1) := dc_at dkL_law_b78 5 rfl
theorem dL_law_1196 : decode cL_law 1196 = .ok (.iconst 1, 1) := dc_at dkL_law_b78 6 rfl
theorem dL_law_1197 : decode cL_law 1197 = .ok (.iadd, 1) := dc_at dkL_law_b78 7 rfl
theorem dL_law_1198 : decode cL_law 1198 = .ok (.iaload, 1) := dc_at dkL_law_b78 8 rfl
theorem dL_law_1199 : decode cL_law 1199 = .ok (.invokevirtual 155, 3) := dc_at dkL_law_b78 9 rfl
def drL_law_b79 : List (Nat × (Instr × Nat)) := [(1202, (.pop, 1)), (1203, (.aload_n 2, 1)), (1204, (.aload_n 0, 1)), (1205, (.iload_n 3, 1)), (1206, (.iconst 1, 1)), (1207, (.iadd, 1)), (1208, (.iaload, 1)), (1209, (.invokevirtual 158, 3)), (1212, (.pop, 1)), (1213, (.goto 224, 3))]
theorem dkL_law_b79 : ((drL_law_b79).all fun r => decide (decode cL_law r.1 = .ok r.2)) = true := by decide +kernel
theorem dL_law_1202 : decode cL_law 1202 = .ok (.pop, 1) := dc_at dkL_law_b79 0 rfl
theorem dL_law_1203 : decode cL_law 1203 = .ok (.aload_n 2, 1) := dc_at dkL_law_b79 1 rfl
theorem dL_law_1204 : decode cL_law 1204 = .ok (.aload_n 0, 1) := dc_at dkL_law_b79 2 rfl
theorem dL_law_1205 : decode cL_law 1205 = .ok (.iload_n 3, 1) := dc_at dkL_law_b79 3 rfl
theorem dL_law_1206 : decode cL_law 1206 = .ok (.iconst 1, 1) := dc_at dkL_law_b79 4 rfl
theorem dL_law_1207 : decode cL_law 1207 = .ok (.iadd, 1) := dc_at dkL_law_b79 5 rfl
theorem dL_law_1208 : decode cL_law 1208 = .ok (.iaload, 1) := dc_at dkL_law_b79 6 rfl
theorem dL_law_1209 : decode cL_law 1209 = .ok (.invokevirtual 158, 3) := dc_at dkL_law_b79 7 rfl
theorem dL_law_1212 : decode cL_law 1212 = .ok (.pop, 1) := dc_at dkL_law_b79 8 rfl
theorem dL_law_1213 : decode cL_law 1213 = .ok (.goto 224, 3) := dc_at dkL_law_b79 9 rfl
def drL_law_b80 : List (Nat × (Instr × Nat)) := [(1216, (.aload_n 1, 1)), (1217, (.aload_n 0, 1)), (1218, (.iload_n 3, 1)), (1219, (.iconst 1, 1)), (1220, (.iadd, 1)), (1221, (.iaload, 1)), (1222, (.invokevirtual 159, 3)), (1225, (.pop, 1)), (1226, (.aload_n 2, 1)), (1227, (.aload_n 0, 1))]
theorem dkL_law_b80 : ((drL_law_b80).all fun r => decide (decode cL_law r.1 = .ok r.2)) = true := by decide +kernel
theorem dL_law_1216 : decode cL_law 1216 = .ok (.aload_n 1, 1) := dc_at dkL_law_b80 0 rfl
theorem dL_law_1217 : decode cL_law 1217 = .ok (.aload_n 0, 1) := dc_at dkL_law_b80 1 rfl
theorem dL_law_1218 : decode cL_law 1218 = .ok (.iload_n 3, 1) := dc_at dkL_law_b80 2 rfl
theorem dL_law_1219 : decode cL_law 1219 = .ok (.iconst 1, 1) := dc_at dkL_law_b80 3 rfl
theorem dL_law_1220 : decode cL_law 1220 = .ok (.iadd, 1) := dc_at dkL_law_b80 4 rfl
theorem dL_law_1221 : decode cL_law 1221 = .ok (.iaload, 1) := dc_at dkL_law_b80 5 rfl
theorem dL_law_1222 : decode cL_law 1222 = .ok (.invokevirtual 159, 3) := dc_at dkL_law_b80 6 rfl
theorem dL_law_1225 : decode cL_law 1225 = .ok (.pop, 1) := dc_at dkL_law_b80 7 rfl
theorem dL_law_1226 : decode cL_law 1226 = .ok (.aload_n 2, 1) := dc_at dkL_law_b80 8 rfl
theorem dL_law_1227 : decode cL_law 1227 = .ok (.aload_n 0, 1) := dc_at dkL_law_b80 9 rfl
def drL_law_b81 : List (Nat × (Instr × Nat)) := [(1228, (.iload_n 3, 1)), (1229, (.iconst 1, 1)), (1230, (.iadd, 1)), (1231, (.iaload, 1)), (1232, (.invokevirtual 162, 3)), (1235, (.pop, 1)), (1236, (.goto 201, 3)), (1239, (.aload_n 1, 1)), (1240, (.aload_n 0, 1)), (1241, (.iload_n 3, 1))]
theorem dkL_law_b81 : ((drL_law_b81).all fun r => decide (decode cL_law r.1 = .ok r.2)) = true := by decide +kernel
theorem dL_law_1228 : decode cL_law 1228 = .ok (.iload_n 3, 1) := dc_at dkL_law_b81 0 rfl
theorem dL_law_1229 : decode cL_law 1229 = .ok (.iconst 1, 1) := dc_at dkL_law_b81 1 rfl
theorem dL_law_1230 : decode cL_law 1230 = .ok (.iadd, 1) := dc_at dkL_law_b81 2 rfl
theorem dL_law_1231 : decode cL_law 1231 = .ok (.iaload, 1) := dc_at dkL_law_b81 3 rfl
theorem dL_law_1232 : decode cL_law 1232 = .ok (.invokevirtual 162, 3) := dc_at dkL_law_b81 4 rfl
theorem dL_law_1235 : decode cL_law 1235 = .ok (.pop, 1) := dc_at dkL_law_b81 5 rfl
theorem dL_law_1236 : decode cL_law 1236 = .ok (.goto 201, 3) := dc_at dkL_law_b81 6 rfl
theorem dL_law_1239 : decode cL_law 1239 = .ok (.aload_n 1, 1) := dc_at dkL_law_b81 7 rfl
theorem dL_law_1240 : decode cL_law 1240 = .ok (.aload_n 0, 1) := dc_at dkL_law_b81 8 rfl
theorem dL_law_1241 : decode cL_law 1241 = .ok (.iload_n 3, 1) := dc_at dkL_law_b81 9 rfl
def drL_law_b82 : List (Nat × (Instr × Nat)) := [(1242, (.iconst 1, 1)), (1243, (.iadd, 1)), (1244, (.iaload, 1)), (1245, (.invokevirtual 163, 3)), (1248, (.pop, 1)), (1249, (.aload_n 2, 1)), (1250, (.aload_n 0, 1)), (1251, (.iload_n 3, 1)), (1252, (.iconst 1, 1)), (1253, (.iadd, 1))]
theorem dkL_law_b82 : ((drL_law_b82).all fun r => decide (decode cL_law r.1 = .ok r.2)) = true := by decide +kernel
theorem dL_law_1242 : decode cL_law 1242 = .ok (.iconst 1, 1) := dc_at dkL_law_b82 0 rfl
theorem dL_law_1243 : decode cL_law 1243 = .ok (.iadd, 1) := dc_at dkL_law_b82 1 rfl
theorem dL_law_1244 : decode cL_law 1244 = .ok (.iaload, 1) := dc_at dkL_law_b82 2 rfl
theorem dL_law_1245 : decode cL_law 1245 = .ok (.invokevirtual 163, 3) := dc_at dkL_law_b82 3 rfl
theorem dL_law_1248 : decode cL_law 1248 = .ok (.pop, 1) := dc_at dkL_law_b82 4 rfl
theorem dL_law_1249 : decode cL_law 1249 = .ok (.aload_n 2, 1) := dc_at dkL_law_b82 5 rfl
theorem dL_law_1250 : decode cL_law 1250 = .ok (.aload_n 0, 1) := dc_at dkL_law_b82 6 rfl
theorem dL_law_1251 : decode cL_law 1251 = .ok (.iload_n 3, 1) := dc_at dkL_law_b82 7 rfl
theorem dL_law_1252 : decode cL_law 1252 = .ok (.iconst 1, 1) := dc_at dkL_law_b82 8 rfl
theorem dL_law_1253 : decode cL_law 1253 = .ok (.iadd, 1) := dc_at dkL_law_b82 9 rfl
def drL_law_b83 : List (Nat × (Instr × Nat)) := [(1254, (.iaload, 1)), (1255, (.invokevirtual 166, 3)), (1258, (.pop, 1)), (1259, (.goto 178, 3)), (1262, (.aload_n 1, 1)), (1263, (.aload_n 0, 1)), (1264, (.iload_n 3, 1)), (1265, (.iconst 1, 1)), (1266, (.iadd, 1)), (1267, (.iaload, 1))]
theorem dkL_law_b83 : ((drL_law_b83).all fun r => decide (decode cL_law r.1 = .ok r.2)) = true := by decide +kernel
theorem dL_law_1254 : decode cL_law 1254 = .ok (.iaload, 1) := dc_at dkL_law_b83 0 rfl
theorem dL_law_1255 : decode cL_law 1255 = .ok (.invokevirtual 166, 3) := dc_at dkL_law_b83 1 rfl
theorem dL_law_1258 : decode cL_law 1258 = .ok (.pop, 1) := dc_at dkL_law_b83 2 rfl
theorem dL_law_1259 : decode cL_law 1259 = .ok (.goto 178, 3) := dc_at dkL_law_b83 3 rfl
theorem dL_law_1262 : decode cL_law 1262 = .ok (.aload_n 1, 1) := dc_at dkL_law_b83 4 rfl
theorem dL_law_1263 : decode cL_law 1263 = .ok (.aload_n 0, 1) := dc_at dkL_law_b83 5 rfl
theorem dL_law_1264 : decode cL_law 1264 = .ok (.iload_n 3, 1) := dc_at dkL_law_b83 6 rfl
theorem dL_law_1265 : decode cL_law 1265 = .ok (.iconst 1, 1) := dc_at dkL_law_b83 7 rfl
theorem dL_law_1266 : decode cL_law 1266 = .ok (.iadd, 1) := dc_at dkL_law_b83 8 rfl
theorem dL_law_1267 : decode cL_law 1267 = .ok (.iaload, 1) := dc_at dkL_law_b83 9 rfl
def drL_law_b84 : List (Nat × (Instr × Nat)) := [(1268, (.aload_n 0, 1)), (1269, (.iload_n 3, 1)), (1270, (.iconst 2, 1)), (1271, (.iadd, 1)), (1272, (.iaload, 1)), (1273, (.aload_n 0, 1)), (1274, (.iload_n 3, 1)), (1275, (.iconst 3, 1)), (1276, (.iadd, 1)), (1277, (.iaload, 1))]
theorem dkL_law_b84 : ((drL_law_b84).all fun r => decide (decode cL_law r.1 = .ok r.2)) = true := by decide +kernel
theorem dL_law_1268 : decode cL_law 1268 = .ok (.aload_n 0, 1) := dc_at dkL_law_b84 0 rfl
theorem dL_law_1269 : decode cL_law 1269 = .ok (.iload_n 3, 1) := dc_at dkL_law_b84 1 rfl
theorem dL_law_1270 : decode cL_law 1270 = .ok (.iconst 2, 1) := dc_at dkL_law_b84 2 rfl
theorem dL_law_1271 : decode cL_law 1271 = .ok (.iadd, 1) := dc_at dkL_law_b84 3 rfl
theorem dL_law_1272 : decode cL_law 1272 = .ok (.iaload, 1) := dc_at dkL_law_b84 4 rfl
theorem dL_law_1273 : decode cL_law 1273 = .ok (.aload_n 0, 1) := dc_at dkL_law_b84 5 rfl
theorem dL_law_1274 : decode cL_law 1274 = .ok (.iload_n 3, 1) := dc_at dkL_law_b84 6 rfl
theorem dL_law_1275 : decode cL_law 1275 = .ok (.iconst 3, 1) := dc_at dkL_law_b84 7 rfl
theorem dL_law_1276 : decode cL_law 1276 = .ok (.iadd, 1) := dc_at dkL_law_b84 8 rfl
theorem dL_law_1277 : decode cL_law 1277 = .ok (.iaload, 1) := dc_at dkL_law_b84 9 rfl
def drL_law_b85 : List (Nat × (Instr × Nat)) := [(1278, (.invokevirtual 167, 3)), (1281, (.pop, 1)), (1282, (.aload_n 2, 1)), (1283, (.aload_n 0, 1)), (1284, (.iload_n 3, 1)), (1285, (.iconst 1, 1)), (1286, (.iadd, 1)), (1287, (.iaload, 1)), (1288, (.aload_n 0, 1)), (1289, (.iload_n 3, 1))]
theorem dkL_law_b85 : ((drL_law_b85).all fun r => decide (decode cL_law r.1 = .ok r.2)) = true := by decide +kernel
theorem dL_law_1278 : decode cL_law 1278 = .ok (.invokevirtual 167, 3) := dc_at dkL_law_b85 0 rfl
theorem dL_law_1281 : decode cL_law 1281 = .ok (.pop, 1) := dc_at dkL_law_b85 1 rfl
theorem dL_law_1282 : decode cL_law 1282 = .ok (.aload_n 2, 1) := dc_at dkL_law_b85 2 rfl
theorem dL_law_1283 : decode cL_law 1283 = .ok (.aload_n 0, 1) := dc_at dkL_law_b85 3 rfl
theorem dL_law_1284 : decode cL_law 1284 = .ok (.iload_n 3, 1) := dc_at dkL_law_b85 4 rfl
theorem dL_law_1285 : decode cL_law 1285 = .ok (.iconst 1, 1) := dc_at dkL_law_b85 5 rfl
theorem dL_law_1286 : decode cL_law 1286 = .ok (.iadd, 1) := dc_at dkL_law_b85 6 rfl
theorem dL_law_1287 : decode cL_law 1287 = .ok (.iaload, 1) := dc_at dkL_law_b85 7 rfl
theorem dL_law_1288 : decode cL_law 1288 = .ok (.aload_n 0, 1) := dc_at dkL_law_b85 8 rfl
theorem dL_law_1289 : decode cL_law 1289 = .ok (.iload_n 3, 1) := dc_at dkL_law_b85 9 rfl
def drL_law_b86 : List (Nat × (Instr × Nat)) := [(1290, (.iconst 2, 1)), (1291, (.iadd, 1)), (1292, (.iaload, 1)), (1293, (.aload_n 0, 1)), (1294, (.iload_n 3, 1)), (1295, (.iconst 3, 1)), (1296, (.iadd, 1)), (1297, (.iaload, 1)), (1298, (.invokevirtual 170, 3)), (1301, (.pop, 1))]
theorem dkL_law_b86 : ((drL_law_b86).all fun r => decide (decode cL_law r.1 = .ok r.2)) = true := by decide +kernel
theorem dL_law_1290 : decode cL_law 1290 = .ok (.iconst 2, 1) := dc_at dkL_law_b86 0 rfl
theorem dL_law_1291 : decode cL_law 1291 = .ok (.iadd, 1) := dc_at dkL_law_b86 1 rfl
theorem dL_law_1292 : decode cL_law 1292 = .ok (.iaload, 1) := dc_at dkL_law_b86 2 rfl
theorem dL_law_1293 : decode cL_law 1293 = .ok (.aload_n 0, 1) := dc_at dkL_law_b86 3 rfl
theorem dL_law_1294 : decode cL_law 1294 = .ok (.iload_n 3, 1) := dc_at dkL_law_b86 4 rfl
theorem dL_law_1295 : decode cL_law 1295 = .ok (.iconst 3, 1) := dc_at dkL_law_b86 5 rfl
theorem dL_law_1296 : decode cL_law 1296 = .ok (.iadd, 1) := dc_at dkL_law_b86 6 rfl
theorem dL_law_1297 : decode cL_law 1297 = .ok (.iaload, 1) := dc_at dkL_law_b86 7 rfl
theorem dL_law_1298 : decode cL_law 1298 = .ok (.invokevirtual 170, 3) := dc_at dkL_law_b86 8 rfl
theorem dL_law_1301 : decode cL_law 1301 = .ok (.pop, 1) := dc_at dkL_law_b86 9 rfl
def drL_law_b87 : List (Nat × (Instr × Nat)) := [(1302, (.goto 135, 3)), (1305, (.aload_n 1, 1)), (1306, (.aload_n 0, 1)), (1307, (.iload_n 3, 1)), (1308, (.iconst 1, 1)), (1309, (.iadd, 1)), (1310, (.iaload, 1)), (1311, (.aload_n 0, 1)), (1312, (.iload_n 3, 1)), (1313, (.iconst 2, 1))]
theorem dkL_law_b87 : ((drL_law_b87).all fun r => decide (decode cL_law r.1 = .ok r.2)) = true := by decide +kernel
theorem dL_law_1302 : decode cL_law 1302 = .ok (.goto 135, 3) := dc_at dkL_law_b87 0 rfl
theorem dL_law_1305 : decode cL_law 1305 = .ok (.aload_n 1, 1) := dc_at dkL_law_b87 1 rfl
theorem dL_law_1306 : decode cL_law 1306 = .ok (.aload_n 0, 1) := dc_at dkL_law_b87 2 rfl
theorem dL_law_1307 : decode cL_law 1307 = .ok (.iload_n 3, 1) := dc_at dkL_law_b87 3 rfl
theorem dL_law_1308 : decode cL_law 1308 = .ok (.iconst 1, 1) := dc_at dkL_law_b87 4 rfl
theorem dL_law_1309 : decode cL_law 1309 = .ok (.iadd, 1) := dc_at dkL_law_b87 5 rfl
theorem dL_law_1310 : decode cL_law 1310 = .ok (.iaload, 1) := dc_at dkL_law_b87 6 rfl
theorem dL_law_1311 : decode cL_law 1311 = .ok (.aload_n 0, 1) := dc_at dkL_law_b87 7 rfl
theorem dL_law_1312 : decode cL_law 1312 = .ok (.iload_n 3, 1) := dc_at dkL_law_b87 8 rfl
theorem dL_law_1313 : decode cL_law 1313 = .ok (.iconst 2, 1) := dc_at dkL_law_b87 9 rfl
def drL_law_b88 : List (Nat × (Instr × Nat)) := [(1314, (.iadd, 1)), (1315, (.iaload, 1)), (1316, (.aload_n 0, 1)), (1317, (.iload_n 3, 1)), (1318, (.iconst 3, 1)), (1319, (.iadd, 1)), (1320, (.iaload, 1)), (1321, (.invokevirtual 171, 3)), (1324, (.pop, 1)), (1325, (.aload_n 2, 1))]
theorem dkL_law_b88 : ((drL_law_b88).all fun r => decide (decode cL_law r.1 = .ok r.2)) = true := by decide +kernel
theorem dL_law_1314 : decode cL_law 1314 = .ok (.iadd, 1) := dc_at dkL_law_b88 0 rfl
theorem dL_law_1315 : decode cL_law 1315 = .ok (.iaload, 1) := dc_at dkL_law_b88 1 rfl
theorem dL_law_1316 : decode cL_law 1316 = .ok (.aload_n 0, 1) := dc_at dkL_law_b88 2 rfl
theorem dL_law_1317 : decode cL_law 1317 = .ok (.iload_n 3, 1) := dc_at dkL_law_b88 3 rfl
theorem dL_law_1318 : decode cL_law 1318 = .ok (.iconst 3, 1) := dc_at dkL_law_b88 4 rfl
theorem dL_law_1319 : decode cL_law 1319 = .ok (.iadd, 1) := dc_at dkL_law_b88 5 rfl
theorem dL_law_1320 : decode cL_law 1320 = .ok (.iaload, 1) := dc_at dkL_law_b88 6 rfl
theorem dL_law_1321 : decode cL_law 1321 = .ok (.invokevirtual 171, 3) := dc_at dkL_law_b88 7 rfl
theorem dL_law_1324 : decode cL_law 1324 = .ok (.pop, 1) := dc_at dkL_law_b88 8 rfl
theorem dL_law_1325 : decode cL_law 1325 = .ok (.aload_n 2, 1) := dc_at dkL_law_b88 9 rfl
def drL_law_b89 : List (Nat × (Instr × Nat)) := [(1326, (.aload_n 0, 1)), (1327, (.iload_n 3, 1)), (1328, (.iconst 1, 1)), (1329, (.iadd, 1)), (1330, (.iaload, 1)), (1331, (.aload_n 0, 1)), (1332, (.iload_n 3, 1)), (1333, (.iconst 2, 1)), (1334, (.iadd, 1)), (1335, (.iaload, 1))]
theorem dkL_law_b89 : ((drL_law_b89).all fun r => decide (decode cL_law r.1 = .ok r.2)) = true := by decide +kernel
theorem dL_law_1326 : decode cL_law 1326 = .ok (.aload_n 0, 1) := dc_at dkL_law_b89 0 rfl
theorem dL_law_1327 : decode cL_law 1327 = .ok (.iload_n 3, 1) := dc_at dkL_law_b89 1 rfl
theorem dL_law_1328 : decode cL_law 1328 = .ok (.iconst 1, 1) := dc_at dkL_law_b89 2 rfl
theorem dL_law_1329 : decode cL_law 1329 = .ok (.iadd, 1) := dc_at dkL_law_b89 3 rfl
theorem dL_law_1330 : decode cL_law 1330 = .ok (.iaload, 1) := dc_at dkL_law_b89 4 rfl
theorem dL_law_1331 : decode cL_law 1331 = .ok (.aload_n 0, 1) := dc_at dkL_law_b89 5 rfl
theorem dL_law_1332 : decode cL_law 1332 = .ok (.iload_n 3, 1) := dc_at dkL_law_b89 6 rfl
theorem dL_law_1333 : decode cL_law 1333 = .ok (.iconst 2, 1) := dc_at dkL_law_b89 7 rfl
theorem dL_law_1334 : decode cL_law 1334 = .ok (.iadd, 1) := dc_at dkL_law_b89 8 rfl
theorem dL_law_1335 : decode cL_law 1335 = .ok (.iaload, 1) := dc_at dkL_law_b89 9 rfl
def drL_law_b90 : List (Nat × (Instr × Nat)) := [(1336, (.aload_n 0, 1)), (1337, (.iload_n 3, 1)), (1338, (.iconst 3, 1)), (1339, (.iadd, 1)), (1340, (.iaload, 1)), (1341, (.invokevirtual 174, 3)), (1344, (.pop, 1)), (1345, (.goto 92, 3)), (1348, (.aload_n 1, 1)), (1349, (.aload_n 0, 1))]
theorem dkL_law_b90 : ((drL_law_b90).all fun r => decide (decode cL_law r.1 = .ok r.2)) = true := by decide +kernel
theorem dL_law_1336 : decode cL_law 1336 = .ok (.aload_n 0, 1) := dc_at dkL_law_b90 0 rfl
theorem dL_law_1337 : decode cL_law 1337 = .ok (.iload_n 3, 1) := dc_at dkL_law_b90 1 rfl
theorem dL_law_1338 : decode cL_law 1338 = .ok (.iconst 3, 1) := dc_at dkL_law_b90 2 rfl
theorem dL_law_1339 : decode cL_law 1339 = .ok (.iadd, 1) := dc_at dkL_law_b90 3 rfl
theorem dL_law_1340 : decode cL_law 1340 = .ok (.iaload, 1) := dc_at dkL_law_b90 4 rfl
theorem dL_law_1341 : decode cL_law 1341 = .ok (.invokevirtual 174, 3) := dc_at dkL_law_b90 5 rfl
theorem dL_law_1344 : decode cL_law 1344 = .ok (.pop, 1) := dc_at dkL_law_b90 6 rfl
theorem dL_law_1345 : decode cL_law 1345 = .ok (.goto 92, 3) := dc_at dkL_law_b90 7 rfl
theorem dL_law_1348 : decode cL_law 1348 = .ok (.aload_n 1, 1) := dc_at dkL_law_b90 8 rfl
theorem dL_law_1349 : decode cL_law 1349 = .ok (.aload_n 0, 1) := dc_at dkL_law_b90 9 rfl
def drL_law_b91 : List (Nat × (Instr × Nat)) := [(1350, (.iload_n 3, 1)), (1351, (.iconst 1, 1)), (1352, (.iadd, 1)), (1353, (.iaload, 1)), (1354, (.aload_n 0, 1)), (1355, (.iload_n 3, 1)), (1356, (.iconst 2, 1)), (1357, (.iadd, 1)), (1358, (.iaload, 1)), (1359, (.aload_n 0, 1))]
theorem dkL_law_b91 : ((drL_law_b91).all fun r => decide (decode cL_law r.1 = .ok r.2)) = true := by decide +kernel
theorem dL_law_1350 : decode cL_law 1350 = .ok (.iload_n 3, 1) := dc_at dkL_law_b91 0 rfl
theorem dL_law_1351 : decode cL_law 1351 = .ok (.iconst 1, 1) := dc_at dkL_law_b91 1 rfl
theorem dL_law_1352 : decode cL_law 1352 = .ok (.iadd, 1) := dc_at dkL_law_b91 2 rfl
theorem dL_law_1353 : decode cL_law 1353 = .ok (.iaload, 1) := dc_at dkL_law_b91 3 rfl
theorem dL_law_1354 : decode cL_law 1354 = .ok (.aload_n 0, 1) := dc_at dkL_law_b91 4 rfl
theorem dL_law_1355 : decode cL_law 1355 = .ok (.iload_n 3, 1) := dc_at dkL_law_b91 5 rfl
theorem dL_law_1356 : decode cL_law 1356 = .ok (.iconst 2, 1) := dc_at dkL_law_b91 6 rfl
theorem dL_law_1357 : decode cL_law 1357 = .ok (.iadd, 1) := dc_at dkL_law_b91 7 rfl
theorem dL_law_1358 : decode cL_law 1358 = .ok (.iaload, 1) := dc_at dkL_law_b91 8 rfl
theorem dL_law_1359 : decode cL_law 1359 = .ok (.aload_n 0, 1) := dc_at dkL_law_b91 9 rfl
def drL_law_b92 : List (Nat × (Instr × Nat)) := [(1360, (.iload_n 3, 1)), (1361, (.iconst 3, 1)), (1362, (.iadd, 1)), (1363, (.iaload, 1)), (1364, (.aload_n 0, 1)), (1365, (.iload_n 3, 1)), (1366, (.iconst 4, 1)), (1367, (.iadd, 1)), (1368, (.iaload, 1)), (1369, (.invokevirtual 175, 3))]
theorem dkL_law_b92 : ((drL_law_b92).all fun r => decide (decode cL_law r.1 = .ok r.2)) = true := by decide +kernel
theorem dL_law_1360 : decode cL_law 1360 = .ok (.iload_n 3, 1) := dc_at dkL_law_b92 0 rfl
theorem dL_law_1361 : decode cL_law 1361 = .ok (.iconst 3, 1) := dc_at dkL_law_b92 1 rfl
theorem dL_law_1362 : decode cL_law 1362 = .ok (.iadd, 1) := dc_at dkL_law_b92 2 rfl
theorem dL_law_1363 : decode cL_law 1363 = .ok (.iaload, 1) := dc_at dkL_law_b92 3 rfl
theorem dL_law_1364 : decode cL_law 1364 = .ok (.aload_n 0, 1) := dc_at dkL_law_b92 4 rfl
theorem dL_law_1365 : decode cL_law 1365 = .ok (.iload_n 3, 1) := dc_at dkL_law_b92 5 rfl
theorem dL_law_1366 : decode cL_law 1366 = .ok (.iconst 4, 1) := dc_at dkL_law_b92 6 rfl
theorem dL_law_1367 : decode cL_law 1367 = .ok (.iadd, 1) := dc_at dkL_law_b92 7 rfl
theorem dL_law_1368 : decode cL_law 1368 = .ok (.iaload, 1) := dc_at dkL_law_b92 8 rfl
theorem dL_law_1369 : decode cL_law 1369 = .ok (.invokevirtual 175, 3) := dc_at dkL_law_b92 9 rfl
def drL_law_b93 : List (Nat × (Instr × Nat)) := [(1372, (.pop, 1)), (1373, (.aload_n 2, 1)), (1374, (.aload_n 0, 1)), (1375, (.iload_n 3, 1)), (1376, (.iconst 1, 1)), (1377, (.iadd, 1)), (1378, (.iaload, 1)), (1379, (.aload_n 0, 1)), (1380, (.iload_n 3, 1)), (1381, (.iconst 2, 1))]
theorem dkL_law_b93 : ((drL_law_b93).all fun r => decide (decode cL_law r.1 = .ok r.2)) = true := by decide +kernel
theorem dL_law_1372 : decode cL_law 1372 = .ok (.pop, 1) := dc_at dkL_law_b93 0 rfl
theorem dL_law_1373 : decode cL_law 1373 = .ok (.aload_n 2, 1) := dc_at dkL_law_b93 1 rfl
theorem dL_law_1374 : decode cL_law 1374 = .ok (.aload_n 0, 1) := dc_at dkL_law_b93 2 rfl
theorem dL_law_1375 : decode cL_law 1375 = .ok (.iload_n 3, 1) := dc_at dkL_law_b93 3 rfl
theorem dL_law_1376 : decode cL_law 1376 = .ok (.iconst 1, 1) := dc_at dkL_law_b93 4 rfl
theorem dL_law_1377 : decode cL_law 1377 = .ok (.iadd, 1) := dc_at dkL_law_b93 5 rfl
theorem dL_law_1378 : decode cL_law 1378 = .ok (.iaload, 1) := dc_at dkL_law_b93 6 rfl
theorem dL_law_1379 : decode cL_law 1379 = .ok (.aload_n 0, 1) := dc_at dkL_law_b93 7 rfl
theorem dL_law_1380 : decode cL_law 1380 = .ok (.iload_n 3, 1) := dc_at dkL_law_b93 8 rfl
theorem dL_law_1381 : decode cL_law 1381 = .ok (.iconst 2, 1) := dc_at dkL_law_b93 9 rfl
def drL_law_b94 : List (Nat × (Instr × Nat)) := [(1382, (.iadd, 1)), (1383, (.iaload, 1)), (1384, (.aload_n 0, 1)), (1385, (.iload_n 3, 1)), (1386, (.iconst 3, 1)), (1387, (.iadd, 1)), (1388, (.iaload, 1)), (1389, (.aload_n 0, 1)), (1390, (.iload_n 3, 1)), (1391, (.iconst 4, 1))]
theorem dkL_law_b94 : ((drL_law_b94).all fun r => decide (decode cL_law r.1 = .ok r.2)) = true := by decide +kernel
theorem dL_law_1382 : decode cL_law 1382 = .ok (.iadd, 1) := dc_at dkL_law_b94 0 rfl
theorem dL_law_1383 : decode cL_law 1383 = .ok (.iaload, 1) := dc_at dkL_law_b94 1 rfl
theorem dL_law_1384 : decode cL_law 1384 = .ok (.aload_n 0, 1) := dc_at dkL_law_b94 2 rfl
theorem dL_law_1385 : decode cL_law 1385 = .ok (.iload_n 3, 1) := dc_at dkL_law_b94 3 rfl
theorem dL_law_1386 : decode cL_law 1386 = .ok (.iconst 3, 1) := dc_at dkL_law_b94 4 rfl
theorem dL_law_1387 : decode cL_law 1387 = .ok (.iadd, 1) := dc_at dkL_law_b94 5 rfl
theorem dL_law_1388 : decode cL_law 1388 = .ok (.iaload, 1) := dc_at dkL_law_b94 6 rfl
theorem dL_law_1389 : decode cL_law 1389 = .ok (.aload_n 0, 1) := dc_at dkL_law_b94 7 rfl
theorem dL_law_1390 : decode cL_law 1390 = .ok (.iload_n 3, 1) := dc_at dkL_law_b94 8 rfl
theorem dL_law_1391 : decode cL_law 1391 = .ok (.iconst 4, 1) := dc_at dkL_law_b94 9 rfl
def drL_law_b95 : List (Nat × (Instr × Nat)) := [(1392, (.iadd, 1)), (1393, (.iaload, 1)), (1394, (.invokevirtual 178, 3)), (1397, (.pop, 1)), (1398, (.goto 39, 3)), (1401, (.aload_n 1, 1)), (1402, (.invokevirtual 179, 3)), (1405, (.pop, 1)), (1406, (.aload_n 2, 1)), (1407, (.invokevirtual 182, 3))]
theorem dkL_law_b95 : ((drL_law_b95).all fun r => decide (decode cL_law r.1 = .ok r.2)) = true := by decide +kernel
theorem dL_law_1392 : decode cL_law 1392 = .ok (.iadd, 1) := dc_at dkL_law_b95 0 rfl
theorem dL_law_1393 : decode cL_law 1393 = .ok (.iaload, 1) := dc_at dkL_law_b95 1 rfl
theorem dL_law_1394 : decode cL_law 1394 = .ok (.invokevirtual 178, 3) := dc_at dkL_law_b95 2 rfl
theorem dL_law_1397 : decode cL_law 1397 = .ok (.pop, 1) := dc_at dkL_law_b95 3 rfl
theorem dL_law_1398 : decode cL_law 1398 = .ok (.goto 39, 3) := dc_at dkL_law_b95 4 rfl
theorem dL_law_1401 : decode cL_law 1401 = .ok (.aload_n 1, 1) := dc_at dkL_law_b95 5 rfl
theorem dL_law_1402 : decode cL_law 1402 = .ok (.invokevirtual 179, 3) := dc_at dkL_law_b95 6 rfl
theorem dL_law_1405 : decode cL_law 1405 = .ok (.pop, 1) := dc_at dkL_law_b95 7 rfl
theorem dL_law_1406 : decode cL_law 1406 = .ok (.aload_n 2, 1) := dc_at dkL_law_b95 8 rfl
theorem dL_law_1407 : decode cL_law 1407 = .ok (.invokevirtual 182, 3) := dc_at dkL_law_b95 9 rfl
def drL_law_b96 : List (Nat × (Instr × Nat)) := [(1410, (.pop, 1)), (1411, (.goto 26, 3)), (1414, (.aload_n 1, 1)), (1415, (.aload_n 0, 1)), (1416, (.iload_n 3, 1)), (1417, (.iconst 1, 1)), (1418, (.iadd, 1)), (1419, (.iaload, 1)), (1420, (.invokevirtual 183, 3)), (1423, (.aload_n 2, 1))]
theorem dkL_law_b96 : ((drL_law_b96).all fun r => decide (decode cL_law r.1 = .ok r.2)) = true := by decide +kernel
theorem dL_law_1410 : decode cL_law 1410 = .ok (.pop, 1) := dc_at dkL_law_b96 0 rfl
theorem dL_law_1411 : decode cL_law 1411 = .ok (.goto 26, 3) := dc_at dkL_law_b96 1 rfl
theorem dL_law_1414 : decode cL_law 1414 = .ok (.aload_n 1, 1) := dc_at dkL_law_b96 2 rfl
theorem dL_law_1415 : decode cL_law 1415 = .ok (.aload_n 0, 1) := dc_at dkL_law_b96 3 rfl
theorem dL_law_1416 : decode cL_law 1416 = .ok (.iload_n 3, 1) := dc_at dkL_law_b96 4 rfl
theorem dL_law_1417 : decode cL_law 1417 = .ok (.iconst 1, 1) := dc_at dkL_law_b96 5 rfl
theorem dL_law_1418 : decode cL_law 1418 = .ok (.iadd, 1) := dc_at dkL_law_b96 6 rfl
theorem dL_law_1419 : decode cL_law 1419 = .ok (.iaload, 1) := dc_at dkL_law_b96 7 rfl
theorem dL_law_1420 : decode cL_law 1420 = .ok (.invokevirtual 183, 3) := dc_at dkL_law_b96 8 rfl
theorem dL_law_1423 : decode cL_law 1423 = .ok (.aload_n 2, 1) := dc_at dkL_law_b96 9 rfl
def drL_law_b97 : List (Nat × (Instr × Nat)) := [(1424, (.aload_n 0, 1)), (1425, (.iload_n 3, 1)), (1426, (.iconst 1, 1)), (1427, (.iadd, 1)), (1428, (.iaload, 1)), (1429, (.invokevirtual 186, 3)), (1432, (.if_icmp .eq 5, 3)), (1435, (.iconst 0, 1)), (1436, (.ireturn, 1)), (1437, (.iinc 3 6, 3))]
theorem dkL_law_b97 : ((drL_law_b97).all fun r => decide (decode cL_law r.1 = .ok r.2)) = true := by decide +kernel
theorem dL_law_1424 : decode cL_law 1424 = .ok (.aload_n 0, 1) := dc_at dkL_law_b97 0 rfl
theorem dL_law_1425 : decode cL_law 1425 = .ok (.iload_n 3, 1) := dc_at dkL_law_b97 1 rfl
theorem dL_law_1426 : decode cL_law 1426 = .ok (.iconst 1, 1) := dc_at dkL_law_b97 2 rfl
theorem dL_law_1427 : decode cL_law 1427 = .ok (.iadd, 1) := dc_at dkL_law_b97 3 rfl
theorem dL_law_1428 : decode cL_law 1428 = .ok (.iaload, 1) := dc_at dkL_law_b97 4 rfl
theorem dL_law_1429 : decode cL_law 1429 = .ok (.invokevirtual 186, 3) := dc_at dkL_law_b97 5 rfl
theorem dL_law_1432 : decode cL_law 1432 = .ok (.if_icmp .eq 5, 3) := dc_at dkL_law_b97 6 rfl
theorem dL_law_1435 : decode cL_law 1435 = .ok (.iconst 0, 1) := dc_at dkL_law_b97 7 rfl
theorem dL_law_1436 : decode cL_law 1436 = .ok (.ireturn, 1) := dc_at dkL_law_b97 8 rfl
theorem dL_law_1437 : decode cL_law 1437 = .ok (.iinc 3 6, 3) := dc_at dkL_law_b97 9 rfl
def drL_law_b98 : List (Nat × (Instr × Nat)) := [(1440, (.goto (-1422), 3)), (1443, (.iconst 1, 1)), (1444, (.ireturn, 1))]
theorem dkL_law_b98 : ((drL_law_b98).all fun r => decide (decode cL_law r.1 = .ok r.2)) = true := by decide +kernel
theorem dL_law_1440 : decode cL_law 1440 = .ok (.goto (-1422), 3) := dc_at dkL_law_b98 0 rfl
theorem dL_law_1443 : decode cL_law 1443 = .ok (.iconst 1, 1) := dc_at dkL_law_b98 1 rfl
theorem dL_law_1444 : decode cL_law 1444 = .ok (.ireturn, 1) := dc_at dkL_law_b98 2 rfl
