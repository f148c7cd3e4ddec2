def drX4_stream_b0 : List (Nat × (Instr × Nat)) := [(0, (.iload_n 1, 1)), (1, (.iload_n 2, 1)), (2, (.iload_n 3, 1)), (3, (.invokestatic 228, 3)), (6, (.ifCond .eq 24, 3)), (9, (.iload 4, 2)), (11, (.iconst 1, 1)), (12, (.bipush 99, 2)), (14, (.invokestatic 69, 3)), (17, (.ifCond .eq 13, 3))]
theorem dkX4_stream_b0 : ((drX4_stream_b0).all fun r => decide (decode cX4_stream r.1 = .ok r.2)) = true := by decide +kernel
theorem dX4_stream_0 : decode cX4_stream 0 = .ok (.iload_n 1, 1) := dc_at dkX4_stream_b0 0 rfl
theorem dX4_stream_1 : decode cX4_stream 1 = .ok (.iload_n 2, 1) := dc_at dkX4_stream_b0 1 rfl
theorem dX4_stream_2 : decode cX4_stream 2 = .ok (.iload_n 3, 1) := dc_at dkX4_stream_b0 2 rfl
theorem dX4_stream_3 : decode cX4_stream 3 = .ok (.invokestatic 228, 3) := dc_at dkX4_stream_b0 3 rfl
theorem dX4_stream_6 : decode cX4_stream 6 = .ok (.ifCond .eq 24, 3) := dc_at dkX4_stream_b0 4 rfl
theorem dX4_stream_9 : decode cX4_stream 9 = .ok (.iload 4, 2) := dc_at dkX4_stream_b0 5 rfl
theorem dX4_stream_11 : decode cX4_stream 11 = .ok (.iconst 1, 1) := dc_at dkX4_stream_b0 6 rfl
theorem dX4_stream_12 : decode cX4_stream 12 = .ok (.bipush 99, 2) := dc_at dkX4_stream_b0 7 rfl
theorem dX4_stream_14 : decode cX4_stream 14 = .ok (.invokestatic 69, 3) := dc_at dkX4_stream_b0 8 rfl
theorem dX4_stream_17 : decode cX4_stream 17 = .ok (.ifCond .eq 13, 3) := dc_at dkX4_stream_b0 9 rfl
def drX4_stream_b1 : List (Nat × (Instr × Nat)) := [(20, (.iload 5, 2)), (22, (.iconst 0, 1)), (23, (.iconst 1, 1)), (24, (.invokestatic 69, 3)), (27, (.ifCond .ne 5, 3)), (30, (.iconst (-1), 1)), (31, (.ireturn, 1)), (32, (.aload_n 0, 1)), (33, (.getfield 10, 3)), (36, (.iload_n 1, 1))]
theorem dkX4_stream_b1 : ((drX4_stream_b1).all fun r => decide (decode cX4_stream r.1 = .ok r.2)) = true := by decide +kernel
theorem dX4_stream_20 : decode cX4_stream 20 = .ok (.iload 5, 2) := dc_at dkX4_stream_b1 0 rfl
theorem dX4_stream_22 : decode cX4_stream 22 = .ok (.iconst 0, 1) := dc_at dkX4_stream_b1 1 rfl
theorem dX4_stream_23 : decode cX4_stream 23 = .ok (.iconst 1, 1) := dc_at dkX4_stream_b1 2 rfl
theorem dX4_stream_24 : decode cX4_stream 24 = .ok (.invokestatic 69, 3) := dc_at dkX4_stream_b1 3 rfl
theorem dX4_stream_27 : decode cX4_stream 27 = .ok (.ifCond .ne 5, 3) := dc_at dkX4_stream_b1 4 rfl
theorem dX4_stream_30 : decode cX4_stream 30 = .ok (.iconst (-1), 1) := dc_at dkX4_stream_b1 5 rfl
theorem dX4_stream_31 : decode cX4_stream 31 = .ok (.ireturn, 1) := dc_at dkX4_stream_b1 6 rfl
theorem dX4_stream_32 : decode cX4_stream 32 = .ok (.aload_n 0, 1) := dc_at dkX4_stream_b1 7 rfl
theorem dX4_stream_33 : decode cX4_stream 33 = .ok (.getfield 10, 3) := dc_at dkX4_stream_b1 8 rfl
theorem dX4_stream_36 : decode cX4_stream 36 = .ok (.iload_n 1, 1) := dc_at dkX4_stream_b1 9 rfl
def drX4_stream_b2 : List (Nat × (Instr × Nat)) := [(37, (.iload_n 2, 1)), (38, (.iload_n 3, 1)), (39, (.iload 4, 2)), (41, (.iload 5, 2)), (43, (.iconst 1, 1)), (44, (.if_icmp .ne 7, 3)), (47, (.iconst 1, 1)), (48, (.goto 4, 3)), (51, (.iconst 0, 1)), (52, (.invokevirtual 231, 3))]
theorem dkX4_stream_b2 : ((drX4_stream_b2).all fun r => decide (decode cX4_stream r.1 = .ok r.2)) = true := by decide +kernel
theorem dX4_stream_37 : decode cX4_stream 37 = .ok (.iload_n 2, 1) := dc_at dkX4_stream_b2 0 rfl
theorem dX4_stream_38 : decode cX4_stream 38 = .ok (.iload_n 3, 1) := dc_at dkX4_stream_b2 1 rfl
theorem dX4_stream_39 : decode cX4_stream 39 = .ok (.iload 4, 2) := dc_at dkX4_stream_b2 2 rfl
theorem dX4_stream_41 : decode cX4_stream 41 = .ok (.iload 5, 2) := dc_at dkX4_stream_b2 3 rfl
theorem dX4_stream_43 : decode cX4_stream 43 = .ok (.iconst 1, 1) := dc_at dkX4_stream_b2 4 rfl
theorem dX4_stream_44 : decode cX4_stream 44 = .ok (.if_icmp .ne 7, 3) := dc_at dkX4_stream_b2 5 rfl
theorem dX4_stream_47 : decode cX4_stream 47 = .ok (.iconst 1, 1) := dc_at dkX4_stream_b2 6 rfl
theorem dX4_stream_48 : decode cX4_stream 48 = .ok (.goto 4, 3) := dc_at dkX4_stream_b2 7 rfl
theorem dX4_stream_51 : decode cX4_stream 51 = .ok (.iconst 0, 1) := dc_at dkX4_stream_b2 8 rfl
theorem dX4_stream_52 : decode cX4_stream 52 = .ok (.invokevirtual 231, 3) := dc_at dkX4_stream_b2 9 rfl
def drX4_stream_b3 : List (Nat × (Instr × Nat)) := [(55, (.ireturn, 1))]
theorem dkX4_stream_b3 : ((drX4_stream_b3).all fun r => decide (decode cX4_stream r.1 = .ok r.2)) = true := by decide +kernel
theorem dX4_stream_55 : decode cX4_stream 55 = .ok (.ireturn, 1) := dc_at dkX4_stream_b3 0 rfl
def drX4_buffer_b0 : List (Nat × (Instr × Nat)) := [(0, (.iload_n 1, 1)), (1, (.iload_n 2, 1)), (2, (.iload_n 3, 1)), (3, (.invokestatic 228, 3)), (6, (.ifCond .eq 13, 3)), (9, (.iload 4, 2)), (11, (.iconst 0, 1)), (12, (.iconst 1, 1)), (13, (.invokestatic 69, 3)), (16, (.ifCond .ne 5, 3))]
theorem dkX4_buffer_b0 : ((drX4_buffer_b0).all fun r => decide (decode cX4_buffer r.1 = .ok r.2)) = true := by decide +kernel
theorem dX4_buffer_0 : decode cX4_buffer 0 = .ok (.iload_n 1, 1) := dc_at dkX4_buffer_b0 0 rfl
theorem dX4_buffer_1 : decode cX4_buffer 1 = .ok (.iload_n 2, 1) := dc_at dkX4_buffer_b0 1 rfl
theorem dX4_buffer_2 : decode cX4_buffer 2 = .ok (.iload_n 3, 1) := dc_at dkX4_buffer_b0 2 rfl
theorem dX4_buffer_3 : decode cX4_buffer 3 = .ok (.invokestatic 228, 3) := dc_at dkX4_buffer_b0 3 rfl
theorem dX4_buffer_6 : decode cX4_buffer 6 = .ok (.ifCond .eq 13, 3) := dc_at dkX4_buffer_b0 4 rfl
theorem dX4_buffer_9 : decode cX4_buffer 9 = .ok (.iload 4, 2) := dc_at dkX4_buffer_b0 5 rfl
theorem dX4_buffer_11 : decode cX4_buffer 11 = .ok (.iconst 0, 1) := dc_at dkX4_buffer_b0 6 rfl
theorem dX4_buffer_12 : decode cX4_buffer 12 = .ok (.iconst 1, 1) := dc_at dkX4_buffer_b0 7 rfl
theorem dX4_buffer_13 : decode cX4_buffer 13 = .ok (.invokestatic 69, 3) := dc_at dkX4_buffer_b0 8 rfl
theorem dX4_buffer_16 : decode cX4_buffer 16 = .ok (.ifCond .ne 5, 3) := dc_at dkX4_buffer_b0 9 rfl
def drX4_buffer_b1 : List (Nat × (Instr × Nat)) := [(19, (.iconst (-1), 1)), (20, (.ireturn, 1)), (21, (.iconst 1, 1)), (22, (.istore 5, 2)), (24, (.aload_n 0, 1)), (25, (.getfield 10, 3)), (28, (.iload_n 1, 1)), (29, (.iload_n 2, 1)), (30, (.iload_n 3, 1)), (31, (.iconst 1, 1))]
theorem dkX4_buffer_b1 : ((drX4_buffer_b1).all fun r => decide (decode cX4_buffer r.1 = .ok r.2)) = true := by decide +kernel
theorem dX4_buffer_19 : decode cX4_buffer 19 = .ok (.iconst (-1), 1) := dc_at dkX4_buffer_b1 0 rfl
theorem dX4_buffer_20 : decode cX4_buffer 20 = .ok (.ireturn, 1) := dc_at dkX4_buffer_b1 1 rfl
theorem dX4_buffer_21 : decode cX4_buffer 21 = .ok (.iconst 1, 1) := dc_at dkX4_buffer_b1 2 rfl
theorem dX4_buffer_22 : decode cX4_buffer 22 = .ok (.istore 5, 2) := dc_at dkX4_buffer_b1 3 rfl
theorem dX4_buffer_24 : decode cX4_buffer 24 = .ok (.aload_n 0, 1) := dc_at dkX4_buffer_b1 4 rfl
theorem dX4_buffer_25 : decode cX4_buffer 25 = .ok (.getfield 10, 3) := dc_at dkX4_buffer_b1 5 rfl
theorem dX4_buffer_28 : decode cX4_buffer 28 = .ok (.iload_n 1, 1) := dc_at dkX4_buffer_b1 6 rfl
theorem dX4_buffer_29 : decode cX4_buffer 29 = .ok (.iload_n 2, 1) := dc_at dkX4_buffer_b1 7 rfl
theorem dX4_buffer_30 : decode cX4_buffer 30 = .ok (.iload_n 3, 1) := dc_at dkX4_buffer_b1 8 rfl
theorem dX4_buffer_31 : decode cX4_buffer 31 = .ok (.iconst 1, 1) := dc_at dkX4_buffer_b1 9 rfl
def drX4_buffer_b2 : List (Nat × (Instr × Nat)) := [(32, (.iconst 0, 1)), (33, (.invokevirtual 231, 3)), (36, (.istore 6, 2)), (38, (.iconst 2, 1)), (39, (.istore 7, 2)), (41, (.iload 7, 2)), (43, (.iload_n 1, 1)), (44, (.if_icmp .gt 39, 3)), (47, (.aload_n 0, 1)), (48, (.getfield 10, 3))]
theorem dkX4_buffer_b2 : ((drX4_buffer_b2).all fun r => decide (decode cX4_buffer r.1 = .ok r.2)) = true := by decide +kernel
theorem dX4_buffer_32 : decode cX4_buffer 32 = .ok (.iconst 0, 1) := dc_at dkX4_buffer_b2 0 rfl
theorem dX4_buffer_33 : decode cX4_buffer 33 = .ok (.invokevirtual 231, 3) := dc_at dkX4_buffer_b2 1 rfl
theorem dX4_buffer_36 : decode cX4_buffer 36 = .ok (.istore 6, 2) := dc_at dkX4_buffer_b2 2 rfl
theorem dX4_buffer_38 : decode cX4_buffer 38 = .ok (.iconst 2, 1) := dc_at dkX4_buffer_b2 3 rfl
theorem dX4_buffer_39 : decode cX4_buffer 39 = .ok (.istore 7, 2) := dc_at dkX4_buffer_b2 4 rfl
theorem dX4_buffer_41 : decode cX4_buffer 41 = .ok (.iload 7, 2) := dc_at dkX4_buffer_b2 5 rfl
theorem dX4_buffer_43 : decode cX4_buffer 43 = .ok (.iload_n 1, 1) := dc_at dkX4_buffer_b2 6 rfl
theorem dX4_buffer_44 : decode cX4_buffer 44 = .ok (.if_icmp .gt 39, 3) := dc_at dkX4_buffer_b2 7 rfl
theorem dX4_buffer_47 : decode cX4_buffer 47 = .ok (.aload_n 0, 1) := dc_at dkX4_buffer_b2 8 rfl
theorem dX4_buffer_48 : decode cX4_buffer 48 = .ok (.getfield 10, 3) := dc_at dkX4_buffer_b2 9 rfl
def drX4_buffer_b3 : List (Nat × (Instr × Nat)) := [(51, (.iload_n 1, 1)), (52, (.iload_n 2, 1)), (53, (.iload_n 3, 1)), (54, (.iload 7, 2)), (56, (.iconst 0, 1)), (57, (.invokevirtual 231, 3)), (60, (.istore 8, 2)), (62, (.iload 8, 2)), (64, (.iload 6, 2)), (66, (.if_icmp .ge 11, 3))]
theorem dkX4_buffer_b3 : ((drX4_buffer_b3).all fun r => decide (decode cX4_buffer r.1 = .ok r.2)) = true := by decide +kernel
theorem dX4_buffer_51 : decode cX4_buffer 51 = .ok (.iload_n 1, 1) := dc_at dkX4_buffer_b3 0 rfl
theorem dX4_buffer_52 : decode cX4_buffer 52 = .ok (.iload_n 2, 1) := dc_at dkX4_buffer_b3 1 rfl
theorem dX4_buffer_53 : decode cX4_buffer 53 = .ok (.iload_n 3, 1) := dc_at dkX4_buffer_b3 2 rfl
theorem dX4_buffer_54 : decode cX4_buffer 54 = .ok (.iload 7, 2) := dc_at dkX4_buffer_b3 3 rfl
theorem dX4_buffer_56 : decode cX4_buffer 56 = .ok (.iconst 0, 1) := dc_at dkX4_buffer_b3 4 rfl
theorem dX4_buffer_57 : decode cX4_buffer 57 = .ok (.invokevirtual 231, 3) := dc_at dkX4_buffer_b3 5 rfl
theorem dX4_buffer_60 : decode cX4_buffer 60 = .ok (.istore 8, 2) := dc_at dkX4_buffer_b3 6 rfl
theorem dX4_buffer_62 : decode cX4_buffer 62 = .ok (.iload 8, 2) := dc_at dkX4_buffer_b3 7 rfl
theorem dX4_buffer_64 : decode cX4_buffer 64 = .ok (.iload 6, 2) := dc_at dkX4_buffer_b3 8 rfl
theorem dX4_buffer_66 : decode cX4_buffer 66 = .ok (.if_icmp .ge 11, 3) := dc_at dkX4_buffer_b3 9 rfl
def drX4_buffer_b4 : List (Nat × (Instr × Nat)) := [(69, (.iload 8, 2)), (71, (.istore 6, 2)), (73, (.iload 7, 2)), (75, (.istore 5, 2)), (77, (.iinc 7 1, 3)), (80, (.goto (-39), 3)), (83, (.iload 4, 2)), (85, (.ifCond .ne 8, 3)), (88, (.iload 5, 2)), (90, (.goto 5, 3))]
theorem dkX4_buffer_b4 : ((drX4_buffer_b4).all fun r => decide (decode cX4_buffer r.1 = .ok r.2)) = true := by decide +kernel
theorem dX4_buffer_69 : decode cX4_buffer 69 = .ok (.iload 8, 2) := dc_at dkX4_buffer_b4 0 rfl
theorem dX4_buffer_71 : decode cX4_buffer 71 = .ok (.istore 6, 2) := dc_at dkX4_buffer_b4 1 rfl
theorem dX4_buffer_73 : decode cX4_buffer 73 = .ok (.iload 7, 2) := dc_at dkX4_buffer_b4 2 rfl
theorem dX4_buffer_75 : decode cX4_buffer 75 = .ok (.istore 5, 2) := dc_at dkX4_buffer_b4 3 rfl
theorem dX4_buffer_77 : decode cX4_buffer 77 = .ok (.iinc 7 1, 3) := dc_at dkX4_buffer_b4 4 rfl
theorem dX4_buffer_80 : decode cX4_buffer 80 = .ok (.goto (-39), 3) := dc_at dkX4_buffer_b4 5 rfl
theorem dX4_buffer_83 : decode cX4_buffer 83 = .ok (.iload 4, 2) := dc_at dkX4_buffer_b4 6 rfl
theorem dX4_buffer_85 : decode cX4_buffer 85 = .ok (.ifCond .ne 8, 3) := dc_at dkX4_buffer_b4 7 rfl
theorem dX4_buffer_88 : decode cX4_buffer 88 = .ok (.iload 5, 2) := dc_at dkX4_buffer_b4 8 rfl
theorem dX4_buffer_90 : decode cX4_buffer 90 = .ok (.goto 5, 3) := dc_at dkX4_buffer_b4 9 rfl
def drX4_buffer_b5 : List (Nat × (Instr × Nat)) := [(93, (.iload 6, 2)), (95, (.ireturn, 1))]
theorem dkX4_buffer_b5 : ((drX4_buffer_b5).all fun r => decide (decode cX4_buffer r.1 = .ok r.2)) = true := by decide +kernel
theorem dX4_buffer_93 : decode cX4_buffer 93 = .ok (.iload 6, 2) := dc_at dkX4_buffer_b5 0 rfl
theorem dX4_buffer_95 : decode cX4_buffer 95 = .ok (.ireturn, 1) := dc_at dkX4_buffer_b5 1 rfl
def drX4_saw_b0 : List (Nat × (Instr × Nat)) := [(0, (.iload_n 1, 1)), (1, (.iconst 0, 1)), (2, (.sipush 999, 3)), (5, (.invokestatic 69, 3)), (8, (.ifCond .eq 14, 3)), (11, (.iload_n 2, 1)), (12, (.iconst 0, 1)), (13, (.sipush 9999, 3)), (16, (.invokestatic 69, 3)), (19, (.ifCond .ne 5, 3))]
theorem dkX4_saw_b0 : ((drX4_saw_b0).all fun r => decide (decode cX4_saw r.1 = .ok r.2)) = true := by decide +kernel
theorem dX4_saw_0 : decode cX4_saw 0 = .ok (.iload_n 1, 1) := dc_at dkX4_saw_b0 0 rfl
theorem dX4_saw_1 : decode cX4_saw 1 = .ok (.iconst 0, 1) := dc_at dkX4_saw_b0 1 rfl
theorem dX4_saw_2 : decode cX4_saw 2 = .ok (.sipush 999, 3) := dc_at dkX4_saw_b0 2 rfl
theorem dX4_saw_5 : decode cX4_saw 5 = .ok (.invokestatic 69, 3) := dc_at dkX4_saw_b0 3 rfl
theorem dX4_saw_8 : decode cX4_saw 8 = .ok (.ifCond .eq 14, 3) := dc_at dkX4_saw_b0 4 rfl
theorem dX4_saw_11 : decode cX4_saw 11 = .ok (.iload_n 2, 1) := dc_at dkX4_saw_b0 5 rfl
theorem dX4_saw_12 : decode cX4_saw 12 = .ok (.iconst 0, 1) := dc_at dkX4_saw_b0 6 rfl
theorem dX4_saw_13 : decode cX4_saw 13 = .ok (.sipush 9999, 3) := dc_at dkX4_saw_b0 7 rfl
theorem dX4_saw_16 : decode cX4_saw 16 = .ok (.invokestatic 69, 3) := dc_at dkX4_saw_b0 8 rfl
theorem dX4_saw_19 : decode cX4_saw 19 = .ok (.ifCond .ne 5, 3) := dc_at dkX4_saw_b0 9 rfl
def drX4_saw_b1 : List (Nat × (Instr × Nat)) := [(22, (.iconst (-1), 1)), (23, (.ireturn, 1)), (24, (.aload_n 0, 1)), (25, (.getfield 10, 3)), (28, (.getfield 235, 3)), (31, (.bipush 12, 2)), (33, (.if_icmp .lt 6, 3)), (36, (.bipush (-3), 2)), (38, (.ireturn, 1)), (39, (.aload_n 0, 1))]
theorem dkX4_saw_b1 : ((drX4_saw_b1).all fun r => decide (decode cX4_saw r.1 = .ok r.2)) = true := by decide +kernel
theorem dX4_saw_22 : decode cX4_saw 22 = .ok (.iconst (-1), 1) := dc_at dkX4_saw_b1 0 rfl
theorem dX4_saw_23 : decode cX4_saw 23 = .ok (.ireturn, 1) := dc_at dkX4_saw_b1 1 rfl
theorem dX4_saw_24 : decode cX4_saw 24 = .ok (.aload_n 0, 1) := dc_at dkX4_saw_b1 2 rfl
theorem dX4_saw_25 : decode cX4_saw 25 = .ok (.getfield 10, 3) := dc_at dkX4_saw_b1 3 rfl
theorem dX4_saw_28 : decode cX4_saw 28 = .ok (.getfield 235, 3) := dc_at dkX4_saw_b1 4 rfl
theorem dX4_saw_31 : decode cX4_saw 31 = .ok (.bipush 12, 2) := dc_at dkX4_saw_b1 5 rfl
theorem dX4_saw_33 : decode cX4_saw 33 = .ok (.if_icmp .lt 6, 3) := dc_at dkX4_saw_b1 6 rfl
theorem dX4_saw_36 : decode cX4_saw 36 = .ok (.bipush (-3), 2) := dc_at dkX4_saw_b1 7 rfl
theorem dX4_saw_38 : decode cX4_saw 38 = .ok (.ireturn, 1) := dc_at dkX4_saw_b1 8 rfl
theorem dX4_saw_39 : decode cX4_saw 39 = .ok (.aload_n 0, 1) := dc_at dkX4_saw_b1 9 rfl
def drX4_saw_b2 : List (Nat × (Instr × Nat)) := [(40, (.getfield 10, 3)), (43, (.iload_n 1, 1)), (44, (.iload_n 2, 1)), (45, (.invokevirtual 238, 3)), (48, (.ireturn, 1))]
theorem dkX4_saw_b2 : ((drX4_saw_b2).all fun r => decide (decode cX4_saw r.1 = .ok r.2)) = true := by decide +kernel
theorem dX4_saw_40 : decode cX4_saw 40 = .ok (.getfield 10, 3) := dc_at dkX4_saw_b2 0 rfl
theorem dX4_saw_43 : decode cX4_saw 43 = .ok (.iload_n 1, 1) := dc_at dkX4_saw_b2 1 rfl
theorem dX4_saw_44 : decode cX4_saw 44 = .ok (.iload_n 2, 1) := dc_at dkX4_saw_b2 2 rfl
theorem dX4_saw_45 : decode cX4_saw 45 = .ok (.invokevirtual 238, 3) := dc_at dkX4_saw_b2 3 rfl
theorem dX4_saw_48 : decode cX4_saw 48 = .ok (.ireturn, 1) := dc_at dkX4_saw_b2 4 rfl
def drX4_forget_b0 : List (Nat × (Instr × Nat)) := [(0, (.aload_n 0, 1)), (1, (.getfield 10, 3)), (4, (.getfield 235, 3)), (7, (.istore_n 1, 1)), (8, (.aload_n 0, 1)), (9, (.getfield 10, 3)), (12, (.iconst 0, 1)), (13, (.putfield 235, 3)), (16, (.iload_n 1, 1)), (17, (.ireturn, 1))]
theorem dkX4_forget_b0 : ((drX4_forget_b0).all fun r => decide (decode cX4_forget r.1 = .ok r.2)) = true := by decide +kernel
theorem dX4_forget_0 : decode cX4_forget 0 = .ok (.aload_n 0, 1) := dc_at dkX4_forget_b0 0 rfl
theorem dX4_forget_1 : decode cX4_forget 1 = .ok (.getfield 10, 3) := dc_at dkX4_forget_b0 1 rfl
theorem dX4_forget_4 : decode cX4_forget 4 = .ok (.getfield 235, 3) := dc_at dkX4_forget_b0 2 rfl
theorem dX4_forget_7 : decode cX4_forget 7 = .ok (.istore_n 1, 1) := dc_at dkX4_forget_b0 3 rfl
theorem dX4_forget_8 : decode cX4_forget 8 = .ok (.aload_n 0, 1) := dc_at dkX4_forget_b0 4 rfl
theorem dX4_forget_9 : decode cX4_forget 9 = .ok (.getfield 10, 3) := dc_at dkX4_forget_b0 5 rfl
theorem dX4_forget_12 : decode cX4_forget 12 = .ok (.iconst 0, 1) := dc_at dkX4_forget_b0 6 rfl
theorem dX4_forget_13 : decode cX4_forget 13 = .ok (.putfield 235, 3) := dc_at dkX4_forget_b0 7 rfl
theorem dX4_forget_16 : decode cX4_forget 16 = .ok (.iload_n 1, 1) := dc_at dkX4_forget_b0 8 rfl
theorem dX4_forget_17 : decode cX4_forget 17 = .ok (.ireturn, 1) := dc_at dkX4_forget_b0 9 rfl
def drX4_fits_b0 : List (Nat × (Instr × Nat)) := [(0, (.iload_n 1, 1)), (1, (.iconst 0, 1)), (2, (.iconst 2, 1)), (3, (.invokestatic 69, 3)), (6, (.ifCond .ne 5, 3)), (9, (.iconst (-1), 1)), (10, (.ireturn, 1)), (11, (.iconst 0, 1)), (12, (.istore_n 2, 1)), (13, (.getstatic 241, 3))]
theorem dkX4_fits_b0 : ((drX4_fits_b0).all fun r => decide (decode cX4_fits r.1 = .ok r.2)) = true := by decide +kernel
theorem dX4_fits_0 : decode cX4_fits 0 = .ok (.iload_n 1, 1) := dc_at dkX4_fits_b0 0 rfl
theorem dX4_fits_1 : decode cX4_fits 1 = .ok (.iconst 0, 1) := dc_at dkX4_fits_b0 1 rfl
theorem dX4_fits_2 : decode cX4_fits 2 = .ok (.iconst 2, 1) := dc_at dkX4_fits_b0 2 rfl
theorem dX4_fits_3 : decode cX4_fits 3 = .ok (.invokestatic 69, 3) := dc_at dkX4_fits_b0 3 rfl
theorem dX4_fits_6 : decode cX4_fits 6 = .ok (.ifCond .ne 5, 3) := dc_at dkX4_fits_b0 4 rfl
theorem dX4_fits_9 : decode cX4_fits 9 = .ok (.iconst (-1), 1) := dc_at dkX4_fits_b0 5 rfl
theorem dX4_fits_10 : decode cX4_fits 10 = .ok (.ireturn, 1) := dc_at dkX4_fits_b0 6 rfl
theorem dX4_fits_11 : decode cX4_fits 11 = .ok (.iconst 0, 1) := dc_at dkX4_fits_b0 7 rfl
theorem dX4_fits_12 : decode cX4_fits 12 = .ok (.istore_n 2, 1) := dc_at dkX4_fits_b0 8 rfl
theorem dX4_fits_13 : decode cX4_fits 13 = .ok (.getstatic 241, 3) := dc_at dkX4_fits_b0 9 rfl
def drX4_fits_b1 : List (Nat × (Instr × Nat)) := [(16, (.iconst 1, 1)), (17, (.invokestatic 245, 3)), (20, (.istore_n 3, 1)), (21, (.iload_n 3, 1)), (22, (.getstatic 249, 3)), (25, (.iconst 1, 1)), (26, (.invokestatic 245, 3)), (29, (.if_icmp .gt 70, 3)), (32, (.getstatic 241, 3)), (35, (.iconst 2, 1))]
theorem dkX4_fits_b1 : ((drX4_fits_b1).all fun r => decide (decode cX4_fits r.1 = .ok r.2)) = true := by decide +kernel
theorem dX4_fits_16 : decode cX4_fits 16 = .ok (.iconst 1, 1) := dc_at dkX4_fits_b1 0 rfl
theorem dX4_fits_17 : decode cX4_fits 17 = .ok (.invokestatic 245, 3) := dc_at dkX4_fits_b1 1 rfl
theorem dX4_fits_20 : decode cX4_fits 20 = .ok (.istore_n 3, 1) := dc_at dkX4_fits_b1 2 rfl
theorem dX4_fits_21 : decode cX4_fits 21 = .ok (.iload_n 3, 1) := dc_at dkX4_fits_b1 3 rfl
theorem dX4_fits_22 : decode cX4_fits 22 = .ok (.getstatic 249, 3) := dc_at dkX4_fits_b1 4 rfl
theorem dX4_fits_25 : decode cX4_fits 25 = .ok (.iconst 1, 1) := dc_at dkX4_fits_b1 5 rfl
theorem dX4_fits_26 : decode cX4_fits 26 = .ok (.invokestatic 245, 3) := dc_at dkX4_fits_b1 6 rfl
theorem dX4_fits_29 : decode cX4_fits 29 = .ok (.if_icmp .gt 70, 3) := dc_at dkX4_fits_b1 7 rfl
theorem dX4_fits_32 : decode cX4_fits 32 = .ok (.getstatic 241, 3) := dc_at dkX4_fits_b1 8 rfl
theorem dX4_fits_35 : decode cX4_fits 35 = .ok (.iconst 2, 1) := dc_at dkX4_fits_b1 9 rfl
def drX4_fits_b2 : List (Nat × (Instr × Nat)) := [(36, (.invokestatic 245, 3)), (39, (.istore 4, 2)), (41, (.iload 4, 2)), (43, (.getstatic 249, 3)), (46, (.iconst 2, 1)), (47, (.invokestatic 245, 3)), (50, (.if_icmp .gt 43, 3)), (53, (.aload_n 0, 1)), (54, (.getfield 10, 3)), (57, (.iload_n 3, 1))]
theorem dkX4_fits_b2 : ((drX4_fits_b2).all fun r => decide (decode cX4_fits r.1 = .ok r.2)) = true := by decide +kernel
theorem dX4_fits_36 : decode cX4_fits 36 = .ok (.invokestatic 245, 3) := dc_at dkX4_fits_b2 0 rfl
theorem dX4_fits_39 : decode cX4_fits 39 = .ok (.istore 4, 2) := dc_at dkX4_fits_b2 1 rfl
theorem dX4_fits_41 : decode cX4_fits 41 = .ok (.iload 4, 2) := dc_at dkX4_fits_b2 2 rfl
theorem dX4_fits_43 : decode cX4_fits 43 = .ok (.getstatic 249, 3) := dc_at dkX4_fits_b2 3 rfl
theorem dX4_fits_46 : decode cX4_fits 46 = .ok (.iconst 2, 1) := dc_at dkX4_fits_b2 4 rfl
theorem dX4_fits_47 : decode cX4_fits 47 = .ok (.invokestatic 245, 3) := dc_at dkX4_fits_b2 5 rfl
theorem dX4_fits_50 : decode cX4_fits 50 = .ok (.if_icmp .gt 43, 3) := dc_at dkX4_fits_b2 6 rfl
theorem dX4_fits_53 : decode cX4_fits 53 = .ok (.aload_n 0, 1) := dc_at dkX4_fits_b2 7 rfl
theorem dX4_fits_54 : decode cX4_fits 54 = .ok (.getfield 10, 3) := dc_at dkX4_fits_b2 8 rfl
theorem dX4_fits_57 : decode cX4_fits 57 = .ok (.iload_n 3, 1) := dc_at dkX4_fits_b2 9 rfl
def drX4_fits_b3 : List (Nat × (Instr × Nat)) := [(58, (.iload 4, 2)), (60, (.invokevirtual 252, 3)), (63, (.ifCond .ne 6, 3)), (66, (.goto 21, 3)), (69, (.iload_n 1, 1)), (70, (.iconst 1, 1)), (71, (.if_icmp .ne 5, 3)), (74, (.iload_n 3, 1)), (75, (.ireturn, 1)), (76, (.iload_n 1, 1))]
theorem dkX4_fits_b3 : ((drX4_fits_b3).all fun r => decide (decode cX4_fits r.1 = .ok r.2)) = true := by decide +kernel
theorem dX4_fits_58 : decode cX4_fits 58 = .ok (.iload 4, 2) := dc_at dkX4_fits_b3 0 rfl
theorem dX4_fits_60 : decode cX4_fits 60 = .ok (.invokevirtual 252, 3) := dc_at dkX4_fits_b3 1 rfl
theorem dX4_fits_63 : decode cX4_fits 63 = .ok (.ifCond .ne 6, 3) := dc_at dkX4_fits_b3 2 rfl
theorem dX4_fits_66 : decode cX4_fits 66 = .ok (.goto 21, 3) := dc_at dkX4_fits_b3 3 rfl
theorem dX4_fits_69 : decode cX4_fits 69 = .ok (.iload_n 1, 1) := dc_at dkX4_fits_b3 4 rfl
theorem dX4_fits_70 : decode cX4_fits 70 = .ok (.iconst 1, 1) := dc_at dkX4_fits_b3 5 rfl
theorem dX4_fits_71 : decode cX4_fits 71 = .ok (.if_icmp .ne 5, 3) := dc_at dkX4_fits_b3 6 rfl
theorem dX4_fits_74 : decode cX4_fits 74 = .ok (.iload_n 3, 1) := dc_at dkX4_fits_b3 7 rfl
theorem dX4_fits_75 : decode cX4_fits 75 = .ok (.ireturn, 1) := dc_at dkX4_fits_b3 8 rfl
theorem dX4_fits_76 : decode cX4_fits 76 = .ok (.iload_n 1, 1) := dc_at dkX4_fits_b3 9 rfl
def drX4_fits_b4 : List (Nat × (Instr × Nat)) := [(77, (.iconst 2, 1)), (78, (.if_icmp .ne 6, 3)), (81, (.iload 4, 2)), (83, (.ireturn, 1)), (84, (.iinc 2 1, 3)), (87, (.iinc 4 1, 3)), (90, (.goto (-49), 3)), (93, (.iinc 3 1, 3)), (96, (.goto (-75), 3)), (99, (.iload_n 1, 1))]
theorem dkX4_fits_b4 : ((drX4_fits_b4).all fun r => decide (decode cX4_fits r.1 = .ok r.2)) = true := by decide +kernel
theorem dX4_fits_77 : decode cX4_fits 77 = .ok (.iconst 2, 1) := dc_at dkX4_fits_b4 0 rfl
theorem dX4_fits_78 : decode cX4_fits 78 = .ok (.if_icmp .ne 6, 3) := dc_at dkX4_fits_b4 1 rfl
theorem dX4_fits_81 : decode cX4_fits 81 = .ok (.iload 4, 2) := dc_at dkX4_fits_b4 2 rfl
theorem dX4_fits_83 : decode cX4_fits 83 = .ok (.ireturn, 1) := dc_at dkX4_fits_b4 3 rfl
theorem dX4_fits_84 : decode cX4_fits 84 = .ok (.iinc 2 1, 3) := dc_at dkX4_fits_b4 4 rfl
theorem dX4_fits_87 : decode cX4_fits 87 = .ok (.iinc 4 1, 3) := dc_at dkX4_fits_b4 5 rfl
theorem dX4_fits_90 : decode cX4_fits 90 = .ok (.goto (-49), 3) := dc_at dkX4_fits_b4 6 rfl
theorem dX4_fits_93 : decode cX4_fits 93 = .ok (.iinc 3 1, 3) := dc_at dkX4_fits_b4 7 rfl
theorem dX4_fits_96 : decode cX4_fits 96 = .ok (.goto (-75), 3) := dc_at dkX4_fits_b4 8 rfl
theorem dX4_fits_99 : decode cX4_fits 99 = .ok (.iload_n 1, 1) := dc_at dkX4_fits_b4 9 rfl
def drX4_fits_b5 : List (Nat × (Instr × Nat)) := [(100, (.ifCond .ne 7, 3)), (103, (.iload_n 2, 1)), (104, (.goto 5, 3)), (107, (.bipush (-4), 2)), (109, (.ireturn, 1))]
theorem dkX4_fits_b5 : ((drX4_fits_b5).all fun r => decide (decode cX4_fits r.1 = .ok r.2)) = true := by decide +kernel
theorem dX4_fits_100 : decode cX4_fits 100 = .ok (.ifCond .ne 7, 3) := dc_at dkX4_fits_b5 0 rfl
theorem dX4_fits_103 : decode cX4_fits 103 = .ok (.iload_n 2, 1) := dc_at dkX4_fits_b5 1 rfl
theorem dX4_fits_104 : decode cX4_fits 104 = .ok (.goto 5, 3) := dc_at dkX4_fits_b5 2 rfl
theorem dX4_fits_107 : decode cX4_fits 107 = .ok (.bipush (-4), 2) := dc_at dkX4_fits_b5 3 rfl
theorem dX4_fits_109 : decode cX4_fits 109 = .ok (.ireturn, 1) := dc_at dkX4_fits_b5 4 rfl
def drX4_keep_b0 : List (Nat × (Instr × Nat)) := [(0, (.iload_n 1, 1)), (1, (.iconst 0, 1)), (2, (.iconst 1, 1)), (3, (.invokestatic 69, 3)), (6, (.ifCond .ne 5, 3)), (9, (.iconst (-1), 1)), (10, (.ireturn, 1)), (11, (.aload_n 0, 1)), (12, (.getfield 59, 3)), (15, (.iload_n 1, 1))]
theorem dkX4_keep_b0 : ((drX4_keep_b0).all fun r => decide (decode cX4_keep r.1 = .ok r.2)) = true := by decide +kernel
theorem dX4_keep_0 : decode cX4_keep 0 = .ok (.iload_n 1, 1) := dc_at dkX4_keep_b0 0 rfl
theorem dX4_keep_1 : decode cX4_keep 1 = .ok (.iconst 0, 1) := dc_at dkX4_keep_b0 1 rfl
theorem dX4_keep_2 : decode cX4_keep 2 = .ok (.iconst 1, 1) := dc_at dkX4_keep_b0 2 rfl
theorem dX4_keep_3 : decode cX4_keep 3 = .ok (.invokestatic 69, 3) := dc_at dkX4_keep_b0 3 rfl
theorem dX4_keep_6 : decode cX4_keep 6 = .ok (.ifCond .ne 5, 3) := dc_at dkX4_keep_b0 4 rfl
theorem dX4_keep_9 : decode cX4_keep 9 = .ok (.iconst (-1), 1) := dc_at dkX4_keep_b0 5 rfl
theorem dX4_keep_10 : decode cX4_keep 10 = .ok (.ireturn, 1) := dc_at dkX4_keep_b0 6 rfl
theorem dX4_keep_11 : decode cX4_keep 11 = .ok (.aload_n 0, 1) := dc_at dkX4_keep_b0 7 rfl
theorem dX4_keep_12 : decode cX4_keep 12 = .ok (.getfield 59, 3) := dc_at dkX4_keep_b0 8 rfl
theorem dX4_keep_15 : decode cX4_keep 15 = .ok (.iload_n 1, 1) := dc_at dkX4_keep_b0 9 rfl
def drX4_keep_b1 : List (Nat × (Instr × Nat)) := [(16, (.ishr, 1)), (17, (.iconst 1, 1)), (18, (.iand, 1)), (19, (.istore_n 2, 1)), (20, (.aload_n 0, 1)), (21, (.iload_n 1, 1)), (22, (.invokevirtual 255, 3)), (25, (.aload_n 0, 1)), (26, (.getfield 10, 3)), (29, (.invokevirtual 86, 3))]
theorem dkX4_keep_b1 : ((drX4_keep_b1).all fun r => decide (decode cX4_keep r.1 = .ok r.2)) = true := by decide +kernel
theorem dX4_keep_16 : decode cX4_keep 16 = .ok (.ishr, 1) := dc_at dkX4_keep_b1 0 rfl
theorem dX4_keep_17 : decode cX4_keep 17 = .ok (.iconst 1, 1) := dc_at dkX4_keep_b1 1 rfl
theorem dX4_keep_18 : decode cX4_keep 18 = .ok (.iand, 1) := dc_at dkX4_keep_b1 2 rfl
theorem dX4_keep_19 : decode cX4_keep 19 = .ok (.istore_n 2, 1) := dc_at dkX4_keep_b1 3 rfl
theorem dX4_keep_20 : decode cX4_keep 20 = .ok (.aload_n 0, 1) := dc_at dkX4_keep_b1 4 rfl
theorem dX4_keep_21 : decode cX4_keep 21 = .ok (.iload_n 1, 1) := dc_at dkX4_keep_b1 5 rfl
theorem dX4_keep_22 : decode cX4_keep 22 = .ok (.invokevirtual 255, 3) := dc_at dkX4_keep_b1 6 rfl
theorem dX4_keep_25 : decode cX4_keep 25 = .ok (.aload_n 0, 1) := dc_at dkX4_keep_b1 7 rfl
theorem dX4_keep_26 : decode cX4_keep 26 = .ok (.getfield 10, 3) := dc_at dkX4_keep_b1 8 rfl
theorem dX4_keep_29 : decode cX4_keep 29 = .ok (.invokevirtual 86, 3) := dc_at dkX4_keep_b1 9 rfl
def drX4_keep_b2 : List (Nat × (Instr × Nat)) := [(32, (.aload_n 0, 1)), (33, (.dup, 1)), (34, (.getfield 59, 3)), (37, (.iconst 1, 1)), (38, (.iload_n 1, 1)), (39, (.ishl, 1)), (40, (.ior, 1)), (41, (.putfield 59, 3)), (44, (.iload_n 2, 1)), (45, (.ireturn, 1))]
theorem dkX4_keep_b2 : ((drX4_keep_b2).all fun r => decide (decode cX4_keep r.1 = .ok r.2)) = true := by decide +kernel
theorem dX4_keep_32 : decode cX4_keep 32 = .ok (.aload_n 0, 1) := dc_at dkX4_keep_b2 0 rfl
theorem dX4_keep_33 : decode cX4_keep 33 = .ok (.dup, 1) := dc_at dkX4_keep_b2 1 rfl
theorem dX4_keep_34 : decode cX4_keep 34 = .ok (.getfield 59, 3) := dc_at dkX4_keep_b2 2 rfl
theorem dX4_keep_37 : decode cX4_keep 37 = .ok (.iconst 1, 1) := dc_at dkX4_keep_b2 3 rfl
theorem dX4_keep_38 : decode cX4_keep 38 = .ok (.iload_n 1, 1) := dc_at dkX4_keep_b2 4 rfl
theorem dX4_keep_39 : decode cX4_keep 39 = .ok (.ishl, 1) := dc_at dkX4_keep_b2 5 rfl
theorem dX4_keep_40 : decode cX4_keep 40 = .ok (.ior, 1) := dc_at dkX4_keep_b2 6 rfl
theorem dX4_keep_41 : decode cX4_keep 41 = .ok (.putfield 59, 3) := dc_at dkX4_keep_b2 7 rfl
theorem dX4_keep_44 : decode cX4_keep 44 = .ok (.iload_n 2, 1) := dc_at dkX4_keep_b2 8 rfl
theorem dX4_keep_45 : decode cX4_keep 45 = .ok (.ireturn, 1) := dc_at dkX4_keep_b2 9 rfl
def drX4_back_b0 : List (Nat × (Instr × Nat)) := [(0, (.iload_n 1, 1)), (1, (.iconst 0, 1)), (2, (.iconst 1, 1)), (3, (.invokestatic 69, 3)), (6, (.ifCond .ne 5, 3)), (9, (.iconst (-1), 1)), (10, (.ireturn, 1)), (11, (.aload_n 0, 1)), (12, (.getfield 59, 3)), (15, (.iload_n 1, 1))]
theorem dkX4_back_b0 : ((drX4_back_b0).all fun r => decide (decode cX4_back r.1 = .ok r.2)) = true := by decide +kernel
theorem dX4_back_0 : decode cX4_back 0 = .ok (.iload_n 1, 1) := dc_at dkX4_back_b0 0 rfl
theorem dX4_back_1 : decode cX4_back 1 = .ok (.iconst 0, 1) := dc_at dkX4_back_b0 1 rfl
theorem dX4_back_2 : decode cX4_back 2 = .ok (.iconst 1, 1) := dc_at dkX4_back_b0 2 rfl
theorem dX4_back_3 : decode cX4_back 3 = .ok (.invokestatic 69, 3) := dc_at dkX4_back_b0 3 rfl
theorem dX4_back_6 : decode cX4_back 6 = .ok (.ifCond .ne 5, 3) := dc_at dkX4_back_b0 4 rfl
theorem dX4_back_9 : decode cX4_back 9 = .ok (.iconst (-1), 1) := dc_at dkX4_back_b0 5 rfl
theorem dX4_back_10 : decode cX4_back 10 = .ok (.ireturn, 1) := dc_at dkX4_back_b0 6 rfl
theorem dX4_back_11 : decode cX4_back 11 = .ok (.aload_n 0, 1) := dc_at dkX4_back_b0 7 rfl
theorem dX4_back_12 : decode cX4_back 12 = .ok (.getfield 59, 3) := dc_at dkX4_back_b0 8 rfl
theorem dX4_back_15 : decode cX4_back 15 = .ok (.iload_n 1, 1) := dc_at dkX4_back_b0 9 rfl
def drX4_back_b1 : List (Nat × (Instr × Nat)) := [(16, (.ishr, 1)), (17, (.iconst 1, 1)), (18, (.iand, 1)), (19, (.ifCond .ne 6, 3)), (22, (.bipush (-2), 2)), (24, (.ireturn, 1)), (25, (.aload_n 0, 1)), (26, (.getfield 10, 3)), (29, (.aload_n 0, 1)), (30, (.iload_n 1, 1))]
theorem dkX4_back_b1 : ((drX4_back_b1).all fun r => decide (decode cX4_back r.1 = .ok r.2)) = true := by decide +kernel
theorem dX4_back_16 : decode cX4_back 16 = .ok (.ishr, 1) := dc_at dkX4_back_b1 0 rfl
theorem dX4_back_17 : decode cX4_back 17 = .ok (.iconst 1, 1) := dc_at dkX4_back_b1 1 rfl
theorem dX4_back_18 : decode cX4_back 18 = .ok (.iand, 1) := dc_at dkX4_back_b1 2 rfl
theorem dX4_back_19 : decode cX4_back 19 = .ok (.ifCond .ne 6, 3) := dc_at dkX4_back_b1 3 rfl
theorem dX4_back_22 : decode cX4_back 22 = .ok (.bipush (-2), 2) := dc_at dkX4_back_b1 4 rfl
theorem dX4_back_24 : decode cX4_back 24 = .ok (.ireturn, 1) := dc_at dkX4_back_b1 5 rfl
theorem dX4_back_25 : decode cX4_back 25 = .ok (.aload_n 0, 1) := dc_at dkX4_back_b1 6 rfl
theorem dX4_back_26 : decode cX4_back 26 = .ok (.getfield 10, 3) := dc_at dkX4_back_b1 7 rfl
theorem dX4_back_29 : decode cX4_back 29 = .ok (.aload_n 0, 1) := dc_at dkX4_back_b1 8 rfl
theorem dX4_back_30 : decode cX4_back 30 = .ok (.iload_n 1, 1) := dc_at dkX4_back_b1 9 rfl
def drX4_back_b2 : List (Nat × (Instr × Nat)) := [(31, (.invokevirtual 255, 3)), (34, (.invokevirtual 86, 3)), (37, (.aload_n 0, 1)), (38, (.getfield 10, 3)), (41, (.getfield 138, 3)), (44, (.ireturn, 1))]
theorem dkX4_back_b2 : ((drX4_back_b2).all fun r => decide (decode cX4_back r.1 = .ok r.2)) = true := by decide +kernel
theorem dX4_back_31 : decode cX4_back 31 = .ok (.invokevirtual 255, 3) := dc_at dkX4_back_b2 0 rfl
theorem dX4_back_34 : decode cX4_back 34 = .ok (.invokevirtual 86, 3) := dc_at dkX4_back_b2 1 rfl
theorem dX4_back_37 : decode cX4_back 37 = .ok (.aload_n 0, 1) := dc_at dkX4_back_b2 2 rfl
theorem dX4_back_38 : decode cX4_back 38 = .ok (.getfield 10, 3) := dc_at dkX4_back_b2 3 rfl
theorem dX4_back_41 : decode cX4_back 41 = .ok (.getfield 138, 3) := dc_at dkX4_back_b2 4 rfl
theorem dX4_back_44 : decode cX4_back 44 = .ok (.ireturn, 1) := dc_at dkX4_back_b2 5 rfl
def drX4_sheet_b0 : List (Nat × (Instr × Nat)) := [(0, (.iload_n 1, 1)), (1, (.iconst 0, 1)), (2, (.iconst 3, 1)), (3, (.invokestatic 69, 3)), (6, (.ifCond .eq 18, 3)), (9, (.iload_n 2, 1)), (10, (.iconst 0, 1)), (11, (.iconst 2, 1)), (12, (.invokestatic 69, 3)), (15, (.ifCond .eq 9, 3))]
theorem dkX4_sheet_b0 : ((drX4_sheet_b0).all fun r => decide (decode cX4_sheet r.1 = .ok r.2)) = true := by decide +kernel
theorem dX4_sheet_0 : decode cX4_sheet 0 = .ok (.iload_n 1, 1) := dc_at dkX4_sheet_b0 0 rfl
theorem dX4_sheet_1 : decode cX4_sheet 1 = .ok (.iconst 0, 1) := dc_at dkX4_sheet_b0 1 rfl
theorem dX4_sheet_2 : decode cX4_sheet 2 = .ok (.iconst 3, 1) := dc_at dkX4_sheet_b0 2 rfl
theorem dX4_sheet_3 : decode cX4_sheet 3 = .ok (.invokestatic 69, 3) := dc_at dkX4_sheet_b0 3 rfl
theorem dX4_sheet_6 : decode cX4_sheet 6 = .ok (.ifCond .eq 18, 3) := dc_at dkX4_sheet_b0 4 rfl
theorem dX4_sheet_9 : decode cX4_sheet 9 = .ok (.iload_n 2, 1) := dc_at dkX4_sheet_b0 5 rfl
theorem dX4_sheet_10 : decode cX4_sheet 10 = .ok (.iconst 0, 1) := dc_at dkX4_sheet_b0 6 rfl
theorem dX4_sheet_11 : decode cX4_sheet 11 = .ok (.iconst 2, 1) := dc_at dkX4_sheet_b0 7 rfl
theorem dX4_sheet_12 : decode cX4_sheet 12 = .ok (.invokestatic 69, 3) := dc_at dkX4_sheet_b0 8 rfl
theorem dX4_sheet_15 : decode cX4_sheet 15 = .ok (.ifCond .eq 9, 3) := dc_at dkX4_sheet_b0 9 rfl
def drX4_sheet_b1 : List (Nat × (Instr × Nat)) := [(18, (.iload_n 3, 1)), (19, (.bipush 40, 2)), (21, (.if_icmp .le 5, 3)), (24, (.iconst (-1), 1)), (25, (.ireturn, 1)), (26, (.iload_n 3, 1)), (27, (.ifCond .ge 6, 3)), (30, (.bipush (-14), 2)), (32, (.ireturn, 1)), (33, (.aload_n 0, 1))]
theorem dkX4_sheet_b1 : ((drX4_sheet_b1).all fun r => decide (decode cX4_sheet r.1 = .ok r.2)) = true := by decide +kernel
theorem dX4_sheet_18 : decode cX4_sheet 18 = .ok (.iload_n 3, 1) := dc_at dkX4_sheet_b1 0 rfl
theorem dX4_sheet_19 : decode cX4_sheet 19 = .ok (.bipush 40, 2) := dc_at dkX4_sheet_b1 1 rfl
theorem dX4_sheet_21 : decode cX4_sheet 21 = .ok (.if_icmp .le 5, 3) := dc_at dkX4_sheet_b1 2 rfl
theorem dX4_sheet_24 : decode cX4_sheet 24 = .ok (.iconst (-1), 1) := dc_at dkX4_sheet_b1 3 rfl
theorem dX4_sheet_25 : decode cX4_sheet 25 = .ok (.ireturn, 1) := dc_at dkX4_sheet_b1 4 rfl
theorem dX4_sheet_26 : decode cX4_sheet 26 = .ok (.iload_n 3, 1) := dc_at dkX4_sheet_b1 5 rfl
theorem dX4_sheet_27 : decode cX4_sheet 27 = .ok (.ifCond .ge 6, 3) := dc_at dkX4_sheet_b1 6 rfl
theorem dX4_sheet_30 : decode cX4_sheet 30 = .ok (.bipush (-14), 2) := dc_at dkX4_sheet_b1 7 rfl
theorem dX4_sheet_32 : decode cX4_sheet 32 = .ok (.ireturn, 1) := dc_at dkX4_sheet_b1 8 rfl
theorem dX4_sheet_33 : decode cX4_sheet 33 = .ok (.aload_n 0, 1) := dc_at dkX4_sheet_b1 9 rfl
def drX4_sheet_b2 : List (Nat × (Instr × Nat)) := [(34, (.iload_n 1, 1)), (35, (.invokevirtual 259, 3)), (38, (.iload_n 2, 1)), (39, (.iload_n 3, 1)), (40, (.invokevirtual 263, 3)), (43, (.iconst 1, 1)), (44, (.ireturn, 1))]
theorem dkX4_sheet_b2 : ((drX4_sheet_b2).all fun r => decide (decode cX4_sheet r.1 = .ok r.2)) = true := by decide +kernel
theorem dX4_sheet_34 : decode cX4_sheet 34 = .ok (.iload_n 1, 1) := dc_at dkX4_sheet_b2 0 rfl
theorem dX4_sheet_35 : decode cX4_sheet 35 = .ok (.invokevirtual 259, 3) := dc_at dkX4_sheet_b2 1 rfl
theorem dX4_sheet_38 : decode cX4_sheet 38 = .ok (.iload_n 2, 1) := dc_at dkX4_sheet_b2 2 rfl
theorem dX4_sheet_39 : decode cX4_sheet 39 = .ok (.iload_n 3, 1) := dc_at dkX4_sheet_b2 3 rfl
theorem dX4_sheet_40 : decode cX4_sheet 40 = .ok (.invokevirtual 263, 3) := dc_at dkX4_sheet_b2 4 rfl
theorem dX4_sheet_43 : decode cX4_sheet 43 = .ok (.iconst 1, 1) := dc_at dkX4_sheet_b2 5 rfl
theorem dX4_sheet_44 : decode cX4_sheet 44 = .ok (.ireturn, 1) := dc_at dkX4_sheet_b2 6 rfl
def drX4_lay_b0 : List (Nat × (Instr × Nat)) := [(0, (.iload_n 1, 1)), (1, (.iconst 0, 1)), (2, (.iconst 3, 1)), (3, (.invokestatic 69, 3)), (6, (.ifCond .ne 5, 3)), (9, (.iconst (-1), 1)), (10, (.ireturn, 1)), (11, (.aload_n 0, 1)), (12, (.iload_n 1, 1)), (13, (.invokevirtual 259, 3))]
theorem dkX4_lay_b0 : ((drX4_lay_b0).all fun r => decide (decode cX4_lay r.1 = .ok r.2)) = true := by decide +kernel
theorem dX4_lay_0 : decode cX4_lay 0 = .ok (.iload_n 1, 1) := dc_at dkX4_lay_b0 0 rfl
theorem dX4_lay_1 : decode cX4_lay 1 = .ok (.iconst 0, 1) := dc_at dkX4_lay_b0 1 rfl
theorem dX4_lay_2 : decode cX4_lay 2 = .ok (.iconst 3, 1) := dc_at dkX4_lay_b0 2 rfl
theorem dX4_lay_3 : decode cX4_lay 3 = .ok (.invokestatic 69, 3) := dc_at dkX4_lay_b0 3 rfl
theorem dX4_lay_6 : decode cX4_lay 6 = .ok (.ifCond .ne 5, 3) := dc_at dkX4_lay_b0 4 rfl
theorem dX4_lay_9 : decode cX4_lay 9 = .ok (.iconst (-1), 1) := dc_at dkX4_lay_b0 5 rfl
theorem dX4_lay_10 : decode cX4_lay 10 = .ok (.ireturn, 1) := dc_at dkX4_lay_b0 6 rfl
theorem dX4_lay_11 : decode cX4_lay 11 = .ok (.aload_n 0, 1) := dc_at dkX4_lay_b0 7 rfl
theorem dX4_lay_12 : decode cX4_lay 12 = .ok (.iload_n 1, 1) := dc_at dkX4_lay_b0 8 rfl
theorem dX4_lay_13 : decode cX4_lay 13 = .ok (.invokevirtual 259, 3) := dc_at dkX4_lay_b0 9 rfl
def drX4_lay_b1 : List (Nat × (Instr × Nat)) := [(16, (.astore 4, 2)), (18, (.aload 4, 2)), (20, (.aload 4, 2)), (22, (.getfield 267, 3)), (25, (.iload_n 2, 1)), (26, (.invokevirtual 270, 3)), (29, (.istore 5, 2)), (31, (.iload 5, 2)), (33, (.ifCond .eq 9, 3)), (36, (.bipush (-10), 2))]
theorem dkX4_lay_b1 : ((drX4_lay_b1).all fun r => decide (decode cX4_lay r.1 = .ok r.2)) = true := by decide +kernel
theorem dX4_lay_16 : decode cX4_lay 16 = .ok (.astore 4, 2) := dc_at dkX4_lay_b1 0 rfl
theorem dX4_lay_18 : decode cX4_lay 18 = .ok (.aload 4, 2) := dc_at dkX4_lay_b1 1 rfl
theorem dX4_lay_20 : decode cX4_lay 20 = .ok (.aload 4, 2) := dc_at dkX4_lay_b1 2 rfl
theorem dX4_lay_22 : decode cX4_lay 22 = .ok (.getfield 267, 3) := dc_at dkX4_lay_b1 3 rfl
theorem dX4_lay_25 : decode cX4_lay 25 = .ok (.iload_n 2, 1) := dc_at dkX4_lay_b1 4 rfl
theorem dX4_lay_26 : decode cX4_lay 26 = .ok (.invokevirtual 270, 3) := dc_at dkX4_lay_b1 5 rfl
theorem dX4_lay_29 : decode cX4_lay 29 = .ok (.istore 5, 2) := dc_at dkX4_lay_b1 6 rfl
theorem dX4_lay_31 : decode cX4_lay 31 = .ok (.iload 5, 2) := dc_at dkX4_lay_b1 7 rfl
theorem dX4_lay_33 : decode cX4_lay 33 = .ok (.ifCond .eq 9, 3) := dc_at dkX4_lay_b1 8 rfl
theorem dX4_lay_36 : decode cX4_lay 36 = .ok (.bipush (-10), 2) := dc_at dkX4_lay_b1 9 rfl
def drX4_lay_b2 : List (Nat × (Instr × Nat)) := [(38, (.iload 5, 2)), (40, (.isub, 1)), (41, (.ireturn, 1)), (42, (.aload 4, 2)), (44, (.iload_n 2, 1)), (45, (.iload_n 3, 1)), (46, (.invokevirtual 273, 3)), (49, (.iconst 1, 1)), (50, (.ireturn, 1))]
theorem dkX4_lay_b2 : ((drX4_lay_b2).all fun r => decide (decode cX4_lay r.1 = .ok r.2)) = true := by decide +kernel
theorem dX4_lay_38 : decode cX4_lay 38 = .ok (.iload 5, 2) := dc_at dkX4_lay_b2 0 rfl
theorem dX4_lay_40 : decode cX4_lay 40 = .ok (.isub, 1) := dc_at dkX4_lay_b2 1 rfl
theorem dX4_lay_41 : decode cX4_lay 41 = .ok (.ireturn, 1) := dc_at dkX4_lay_b2 2 rfl
theorem dX4_lay_42 : decode cX4_lay 42 = .ok (.aload 4, 2) := dc_at dkX4_lay_b2 3 rfl
theorem dX4_lay_44 : decode cX4_lay 44 = .ok (.iload_n 2, 1) := dc_at dkX4_lay_b2 4 rfl
theorem dX4_lay_45 : decode cX4_lay 45 = .ok (.iload_n 3, 1) := dc_at dkX4_lay_b2 5 rfl
theorem dX4_lay_46 : decode cX4_lay 46 = .ok (.invokevirtual 273, 3) := dc_at dkX4_lay_b2 6 rfl
theorem dX4_lay_49 : decode cX4_lay 49 = .ok (.iconst 1, 1) := dc_at dkX4_lay_b2 7 rfl
theorem dX4_lay_50 : decode cX4_lay 50 = .ok (.ireturn, 1) := dc_at dkX4_lay_b2 8 rfl
def drX4_read_b0 : List (Nat × (Instr × Nat)) := [(0, (.iload_n 1, 1)), (1, (.iconst 0, 1)), (2, (.iconst 3, 1)), (3, (.invokestatic 69, 3)), (6, (.ifCond .eq 23, 3)), (9, (.iload_n 2, 1)), (10, (.iconst 0, 1)), (11, (.iconst 2, 1)), (12, (.invokestatic 69, 3)), (15, (.ifCond .eq 14, 3))]
theorem dkX4_read_b0 : ((drX4_read_b0).all fun r => decide (decode cX4_read r.1 = .ok r.2)) = true := by decide +kernel
theorem dX4_read_0 : decode cX4_read 0 = .ok (.iload_n 1, 1) := dc_at dkX4_read_b0 0 rfl
theorem dX4_read_1 : decode cX4_read 1 = .ok (.iconst 0, 1) := dc_at dkX4_read_b0 1 rfl
theorem dX4_read_2 : decode cX4_read 2 = .ok (.iconst 3, 1) := dc_at dkX4_read_b0 2 rfl
theorem dX4_read_3 : decode cX4_read 3 = .ok (.invokestatic 69, 3) := dc_at dkX4_read_b0 3 rfl
theorem dX4_read_6 : decode cX4_read 6 = .ok (.ifCond .eq 23, 3) := dc_at dkX4_read_b0 4 rfl
theorem dX4_read_9 : decode cX4_read 9 = .ok (.iload_n 2, 1) := dc_at dkX4_read_b0 5 rfl
theorem dX4_read_10 : decode cX4_read 10 = .ok (.iconst 0, 1) := dc_at dkX4_read_b0 6 rfl
theorem dX4_read_11 : decode cX4_read 11 = .ok (.iconst 2, 1) := dc_at dkX4_read_b0 7 rfl
theorem dX4_read_12 : decode cX4_read 12 = .ok (.invokestatic 69, 3) := dc_at dkX4_read_b0 8 rfl
theorem dX4_read_15 : decode cX4_read 15 = .ok (.ifCond .eq 14, 3) := dc_at dkX4_read_b0 9 rfl
def drX4_read_b1 : List (Nat × (Instr × Nat)) := [(18, (.iload 4, 2)), (20, (.iconst 0, 1)), (21, (.bipush 12, 2)), (23, (.invokestatic 69, 3)), (26, (.ifCond .ne 5, 3)), (29, (.iconst (-1), 1)), (30, (.ireturn, 1)), (31, (.aload_n 0, 1)), (32, (.iload_n 1, 1)), (33, (.invokevirtual 259, 3))]
theorem dkX4_read_b1 : ((drX4_read_b1).all fun r => decide (decode cX4_read r.1 = .ok r.2)) = true := by decide +kernel
theorem dX4_read_18 : decode cX4_read 18 = .ok (.iload 4, 2) := dc_at dkX4_read_b1 0 rfl
theorem dX4_read_20 : decode cX4_read 20 = .ok (.iconst 0, 1) := dc_at dkX4_read_b1 1 rfl
theorem dX4_read_21 : decode cX4_read 21 = .ok (.bipush 12, 2) := dc_at dkX4_read_b1 2 rfl
theorem dX4_read_23 : decode cX4_read 23 = .ok (.invokestatic 69, 3) := dc_at dkX4_read_b1 3 rfl
theorem dX4_read_26 : decode cX4_read 26 = .ok (.ifCond .ne 5, 3) := dc_at dkX4_read_b1 4 rfl
theorem dX4_read_29 : decode cX4_read 29 = .ok (.iconst (-1), 1) := dc_at dkX4_read_b1 5 rfl
theorem dX4_read_30 : decode cX4_read 30 = .ok (.ireturn, 1) := dc_at dkX4_read_b1 6 rfl
theorem dX4_read_31 : decode cX4_read 31 = .ok (.aload_n 0, 1) := dc_at dkX4_read_b1 7 rfl
theorem dX4_read_32 : decode cX4_read 32 = .ok (.iload_n 1, 1) := dc_at dkX4_read_b1 8 rfl
theorem dX4_read_33 : decode cX4_read 33 = .ok (.invokevirtual 259, 3) := dc_at dkX4_read_b1 9 rfl
def drX4_read_b2 : List (Nat × (Instr × Nat)) := [(36, (.astore 5, 2)), (38, (.aload_n 0, 1)), (39, (.getfield 10, 3)), (42, (.getfield 135, 3)), (45, (.istore 6, 2)), (47, (.iconst 0, 1)), (48, (.istore 7, 2)), (50, (.iload 7, 2)), (52, (.iload 4, 2)), (54, (.if_icmp .ge 109, 3))]
theorem dkX4_read_b2 : ((drX4_read_b2).all fun r => decide (decode cX4_read r.1 = .ok r.2)) = true := by decide +kernel
theorem dX4_read_36 : decode cX4_read 36 = .ok (.astore 5, 2) := dc_at dkX4_read_b2 0 rfl
theorem dX4_read_38 : decode cX4_read 38 = .ok (.aload_n 0, 1) := dc_at dkX4_read_b2 1 rfl
theorem dX4_read_39 : decode cX4_read 39 = .ok (.getfield 10, 3) := dc_at dkX4_read_b2 2 rfl
theorem dX4_read_42 : decode cX4_read 42 = .ok (.getfield 135, 3) := dc_at dkX4_read_b2 3 rfl
theorem dX4_read_45 : decode cX4_read 45 = .ok (.istore 6, 2) := dc_at dkX4_read_b2 4 rfl
theorem dX4_read_47 : decode cX4_read 47 = .ok (.iconst 0, 1) := dc_at dkX4_read_b2 5 rfl
theorem dX4_read_48 : decode cX4_read 48 = .ok (.istore 7, 2) := dc_at dkX4_read_b2 6 rfl
theorem dX4_read_50 : decode cX4_read 50 = .ok (.iload 7, 2) := dc_at dkX4_read_b2 7 rfl
theorem dX4_read_52 : decode cX4_read 52 = .ok (.iload 4, 2) := dc_at dkX4_read_b2 8 rfl
theorem dX4_read_54 : decode cX4_read 54 = .ok (.if_icmp .ge 109, 3) := dc_at dkX4_read_b2 9 rfl
def drX4_read_b3 : List (Nat × (Instr × Nat)) := [(57, (.aload 5, 2)), (59, (.iload_n 2, 1)), (60, (.iload_n 3, 1)), (61, (.iload 7, 2)), (63, (.iadd, 1)), (64, (.invokevirtual 270, 3)), (67, (.istore 8, 2)), (69, (.iload 8, 2)), (71, (.ifCond .eq 12, 3)), (74, (.aload_n 0, 1))]
theorem dkX4_read_b3 : ((drX4_read_b3).all fun r => decide (decode cX4_read r.1 = .ok r.2)) = true := by decide +kernel
theorem dX4_read_57 : decode cX4_read 57 = .ok (.aload 5, 2) := dc_at dkX4_read_b3 0 rfl
theorem dX4_read_59 : decode cX4_read 59 = .ok (.iload_n 2, 1) := dc_at dkX4_read_b3 1 rfl
theorem dX4_read_60 : decode cX4_read 60 = .ok (.iload_n 3, 1) := dc_at dkX4_read_b3 2 rfl
theorem dX4_read_61 : decode cX4_read 61 = .ok (.iload 7, 2) := dc_at dkX4_read_b3 3 rfl
theorem dX4_read_63 : decode cX4_read 63 = .ok (.iadd, 1) := dc_at dkX4_read_b3 4 rfl
theorem dX4_read_64 : decode cX4_read 64 = .ok (.invokevirtual 270, 3) := dc_at dkX4_read_b3 5 rfl
theorem dX4_read_67 : decode cX4_read 67 = .ok (.istore 8, 2) := dc_at dkX4_read_b3 6 rfl
theorem dX4_read_69 : decode cX4_read 69 = .ok (.iload 8, 2) := dc_at dkX4_read_b3 7 rfl
theorem dX4_read_71 : decode cX4_read 71 = .ok (.ifCond .eq 12, 3) := dc_at dkX4_read_b3 8 rfl
theorem dX4_read_74 : decode cX4_read 74 = .ok (.aload_n 0, 1) := dc_at dkX4_read_b3 9 rfl
def drX4_read_b4 : List (Nat × (Instr × Nat)) := [(75, (.iload 8, 2)), (77, (.putfield 56, 3)), (80, (.iload 7, 2)), (82, (.ireturn, 1)), (83, (.aload 5, 2)), (85, (.iload_n 3, 1)), (86, (.iload 7, 2)), (88, (.iadd, 1)), (89, (.invokevirtual 276, 3)), (92, (.istore 9, 2))]
theorem dkX4_read_b4 : ((drX4_read_b4).all fun r => decide (decode cX4_read r.1 = .ok r.2)) = true := by decide +kernel
theorem dX4_read_75 : decode cX4_read 75 = .ok (.iload 8, 2) := dc_at dkX4_read_b4 0 rfl
theorem dX4_read_77 : decode cX4_read 77 = .ok (.putfield 56, 3) := dc_at dkX4_read_b4 1 rfl
theorem dX4_read_80 : decode cX4_read 80 = .ok (.iload 7, 2) := dc_at dkX4_read_b4 2 rfl
theorem dX4_read_82 : decode cX4_read 82 = .ok (.ireturn, 1) := dc_at dkX4_read_b4 3 rfl
theorem dX4_read_83 : decode cX4_read 83 = .ok (.aload 5, 2) := dc_at dkX4_read_b4 4 rfl
theorem dX4_read_85 : decode cX4_read 85 = .ok (.iload_n 3, 1) := dc_at dkX4_read_b4 5 rfl
theorem dX4_read_86 : decode cX4_read 86 = .ok (.iload 7, 2) := dc_at dkX4_read_b4 6 rfl
theorem dX4_read_88 : decode cX4_read 88 = .ok (.iadd, 1) := dc_at dkX4_read_b4 7 rfl
theorem dX4_read_89 : decode cX4_read 89 = .ok (.invokevirtual 276, 3) := dc_at dkX4_read_b4 8 rfl
theorem dX4_read_92 : decode cX4_read 92 = .ok (.istore 9, 2) := dc_at dkX4_read_b4 9 rfl
def drX4_read_b5 : List (Nat × (Instr × Nat)) := [(94, (.iload 9, 2)), (96, (.iconst 0, 1)), (97, (.sipush 255, 3)), (100, (.invokestatic 69, 3)), (103, (.istore 10, 2)), (105, (.iload 10, 2)), (107, (.ifCond .eq 15, 3)), (110, (.aload_n 0, 1)), (111, (.getfield 10, 3)), (114, (.getfield 135, 3))]
theorem dkX4_read_b5 : ((drX4_read_b5).all fun r => decide (decode cX4_read r.1 = .ok r.2)) = true := by decide +kernel
theorem dX4_read_94 : decode cX4_read 94 = .ok (.iload 9, 2) := dc_at dkX4_read_b5 0 rfl
theorem dX4_read_96 : decode cX4_read 96 = .ok (.iconst 0, 1) := dc_at dkX4_read_b5 1 rfl
theorem dX4_read_97 : decode cX4_read 97 = .ok (.sipush 255, 3) := dc_at dkX4_read_b5 2 rfl
theorem dX4_read_100 : decode cX4_read 100 = .ok (.invokestatic 69, 3) := dc_at dkX4_read_b5 3 rfl
theorem dX4_read_103 : decode cX4_read 103 = .ok (.istore 10, 2) := dc_at dkX4_read_b5 4 rfl
theorem dX4_read_105 : decode cX4_read 105 = .ok (.iload 10, 2) := dc_at dkX4_read_b5 5 rfl
theorem dX4_read_107 : decode cX4_read 107 = .ok (.ifCond .eq 15, 3) := dc_at dkX4_read_b5 6 rfl
theorem dX4_read_110 : decode cX4_read 110 = .ok (.aload_n 0, 1) := dc_at dkX4_read_b5 7 rfl
theorem dX4_read_111 : decode cX4_read 111 = .ok (.getfield 10, 3) := dc_at dkX4_read_b5 8 rfl
theorem dX4_read_114 : decode cX4_read 114 = .ok (.getfield 135, 3) := dc_at dkX4_read_b5 9 rfl
def drX4_read_b6 : List (Nat × (Instr × Nat)) := [(117, (.bipush 12, 2)), (119, (.if_icmp .lt 28, 3)), (122, (.aload_n 0, 1)), (123, (.getfield 10, 3)), (126, (.iload 6, 2)), (128, (.putfield 135, 3)), (131, (.iload 10, 2)), (133, (.ifCond .eq 8, 3)), (136, (.bipush (-3), 2)), (138, (.goto 8, 3))]
theorem dkX4_read_b6 : ((drX4_read_b6).all fun r => decide (decode cX4_read r.1 = .ok r.2)) = true := by decide +kernel
theorem dX4_read_117 : decode cX4_read 117 = .ok (.bipush 12, 2) := dc_at dkX4_read_b6 0 rfl
theorem dX4_read_119 : decode cX4_read 119 = .ok (.if_icmp .lt 28, 3) := dc_at dkX4_read_b6 1 rfl
theorem dX4_read_122 : decode cX4_read 122 = .ok (.aload_n 0, 1) := dc_at dkX4_read_b6 2 rfl
theorem dX4_read_123 : decode cX4_read 123 = .ok (.getfield 10, 3) := dc_at dkX4_read_b6 3 rfl
theorem dX4_read_126 : decode cX4_read 126 = .ok (.iload 6, 2) := dc_at dkX4_read_b6 4 rfl
theorem dX4_read_128 : decode cX4_read 128 = .ok (.putfield 135, 3) := dc_at dkX4_read_b6 5 rfl
theorem dX4_read_131 : decode cX4_read 131 = .ok (.iload 10, 2) := dc_at dkX4_read_b6 6 rfl
theorem dX4_read_133 : decode cX4_read 133 = .ok (.ifCond .eq 8, 3) := dc_at dkX4_read_b6 7 rfl
theorem dX4_read_136 : decode cX4_read 136 = .ok (.bipush (-3), 2) := dc_at dkX4_read_b6 8 rfl
theorem dX4_read_138 : decode cX4_read 138 = .ok (.goto 8, 3) := dc_at dkX4_read_b6 9 rfl
def drX4_read_b7 : List (Nat × (Instr × Nat)) := [(141, (.bipush (-20), 2)), (143, (.iload 7, 2)), (145, (.isub, 1)), (146, (.ireturn, 1)), (147, (.aload_n 0, 1)), (148, (.getfield 10, 3)), (151, (.iload 9, 2)), (153, (.invokevirtual 170, 3)), (156, (.pop, 1)), (157, (.iinc 7 1, 3))]
theorem dkX4_read_b7 : ((drX4_read_b7).all fun r => decide (decode cX4_read r.1 = .ok r.2)) = true := by decide +kernel
theorem dX4_read_141 : decode cX4_read 141 = .ok (.bipush (-20), 2) := dc_at dkX4_read_b7 0 rfl
theorem dX4_read_143 : decode cX4_read 143 = .ok (.iload 7, 2) := dc_at dkX4_read_b7 1 rfl
theorem dX4_read_145 : decode cX4_read 145 = .ok (.isub, 1) := dc_at dkX4_read_b7 2 rfl
theorem dX4_read_146 : decode cX4_read 146 = .ok (.ireturn, 1) := dc_at dkX4_read_b7 3 rfl
theorem dX4_read_147 : decode cX4_read 147 = .ok (.aload_n 0, 1) := dc_at dkX4_read_b7 4 rfl
theorem dX4_read_148 : decode cX4_read 148 = .ok (.getfield 10, 3) := dc_at dkX4_read_b7 5 rfl
theorem dX4_read_151 : decode cX4_read 151 = .ok (.iload 9, 2) := dc_at dkX4_read_b7 6 rfl
theorem dX4_read_153 : decode cX4_read 153 = .ok (.invokevirtual 170, 3) := dc_at dkX4_read_b7 7 rfl
theorem dX4_read_156 : decode cX4_read 156 = .ok (.pop, 1) := dc_at dkX4_read_b7 8 rfl
theorem dX4_read_157 : decode cX4_read 157 = .ok (.iinc 7 1, 3) := dc_at dkX4_read_b7 9 rfl
def drX4_read_b8 : List (Nat × (Instr × Nat)) := [(160, (.goto (-110), 3)), (163, (.aload_n 0, 1)), (164, (.iconst 0, 1)), (165, (.putfield 56, 3)), (168, (.iload 4, 2)), (170, (.ireturn, 1))]
theorem dkX4_read_b8 : ((drX4_read_b8).all fun r => decide (decode cX4_read r.1 = .ok r.2)) = true := by decide +kernel
theorem dX4_read_160 : decode cX4_read 160 = .ok (.goto (-110), 3) := dc_at dkX4_read_b8 0 rfl
theorem dX4_read_163 : decode cX4_read 163 = .ok (.aload_n 0, 1) := dc_at dkX4_read_b8 1 rfl
theorem dX4_read_164 : decode cX4_read 164 = .ok (.iconst 0, 1) := dc_at dkX4_read_b8 2 rfl
theorem dX4_read_165 : decode cX4_read 165 = .ok (.putfield 56, 3) := dc_at dkX4_read_b8 3 rfl
theorem dX4_read_168 : decode cX4_read 168 = .ok (.iload 4, 2) := dc_at dkX4_read_b8 4 rfl
theorem dX4_read_170 : decode cX4_read 170 = .ok (.ireturn, 1) := dc_at dkX4_read_b8 5 rfl
def drX4_torn_b0 : List (Nat × (Instr × Nat)) := [(0, (.aload_n 0, 1)), (1, (.getfield 56, 3)), (4, (.ireturn, 1))]
theorem dkX4_torn_b0 : ((drX4_torn_b0).all fun r => decide (decode cX4_torn r.1 = .ok r.2)) = true := by decide +kernel
theorem dX4_torn_0 : decode cX4_torn 0 = .ok (.aload_n 0, 1) := dc_at dkX4_torn_b0 0 rfl
theorem dX4_torn_1 : decode cX4_torn 1 = .ok (.getfield 56, 3) := dc_at dkX4_torn_b0 1 rfl
theorem dX4_torn_4 : decode cX4_torn 4 = .ok (.ireturn, 1) := dc_at dkX4_torn_b0 2 rfl
def drX4_count_b0 : List (Nat × (Instr × Nat)) := [(0, (.iload_n 1, 1)), (1, (.tableswitch 114 0 6 #[43, 51, 59, 67, 75, 83, 91], 43)), (44, (.aload_n 0, 1)), (45, (.getfield 10, 3)), (48, (.getfield 138, 3)), (51, (.ireturn, 1)), (52, (.aload_n 0, 1)), (53, (.getfield 10, 3)), (56, (.invokevirtual 279, 3)), (59, (.ireturn, 1))]
theorem dkX4_count_b0 : ((drX4_count_b0).all fun r => decide (decode cX4_count r.1 = .ok r.2)) = true := by decide +kernel
theorem dX4_count_0 : decode cX4_count 0 = .ok (.iload_n 1, 1) := dc_at dkX4_count_b0 0 rfl
theorem dX4_count_1 : decode cX4_count 1 = .ok (.tableswitch 114 0 6 #[43, 51, 59, 67, 75, 83, 91], 43) := dc_at dkX4_count_b0 1 rfl
theorem dX4_count_44 : decode cX4_count 44 = .ok (.aload_n 0, 1) := dc_at dkX4_count_b0 2 rfl
theorem dX4_count_45 : decode cX4_count 45 = .ok (.getfield 10, 3) := dc_at dkX4_count_b0 3 rfl
theorem dX4_count_48 : decode cX4_count 48 = .ok (.getfield 138, 3) := dc_at dkX4_count_b0 4 rfl
theorem dX4_count_51 : decode cX4_count 51 = .ok (.ireturn, 1) := dc_at dkX4_count_b0 5 rfl
theorem dX4_count_52 : decode cX4_count 52 = .ok (.aload_n 0, 1) := dc_at dkX4_count_b0 6 rfl
theorem dX4_count_53 : decode cX4_count 53 = .ok (.getfield 10, 3) := dc_at dkX4_count_b0 7 rfl
theorem dX4_count_56 : decode cX4_count 56 = .ok (.invokevirtual 279, 3) := dc_at dkX4_count_b0 8 rfl
theorem dX4_count_59 : decode cX4_count 59 = .ok (.ireturn, 1) := dc_at dkX4_count_b0 9 rfl
def drX4_count_b1 : List (Nat × (Instr × Nat)) := [(60, (.aload_n 0, 1)), (61, (.getfield 10, 3)), (64, (.invokevirtual 282, 3)), (67, (.ireturn, 1)), (68, (.aload_n 0, 1)), (69, (.getfield 10, 3)), (72, (.getfield 235, 3)), (75, (.ireturn, 1)), (76, (.aload_n 0, 1)), (77, (.getfield 59, 3))]
theorem dkX4_count_b1 : ((drX4_count_b1).all fun r => decide (decode cX4_count r.1 = .ok r.2)) = true := by decide +kernel
theorem dX4_count_60 : decode cX4_count 60 = .ok (.aload_n 0, 1) := dc_at dkX4_count_b1 0 rfl
theorem dX4_count_61 : decode cX4_count 61 = .ok (.getfield 10, 3) := dc_at dkX4_count_b1 1 rfl
theorem dX4_count_64 : decode cX4_count 64 = .ok (.invokevirtual 282, 3) := dc_at dkX4_count_b1 2 rfl
theorem dX4_count_67 : decode cX4_count 67 = .ok (.ireturn, 1) := dc_at dkX4_count_b1 3 rfl
theorem dX4_count_68 : decode cX4_count 68 = .ok (.aload_n 0, 1) := dc_at dkX4_count_b1 4 rfl
theorem dX4_count_69 : decode cX4_count 69 = .ok (.getfield 10, 3) := dc_at dkX4_count_b1 5 rfl
theorem dX4_count_72 : decode cX4_count 72 = .ok (.getfield 235, 3) := dc_at dkX4_count_b1 6 rfl
theorem dX4_count_75 : decode cX4_count 75 = .ok (.ireturn, 1) := dc_at dkX4_count_b1 7 rfl
theorem dX4_count_76 : decode cX4_count 76 = .ok (.aload_n 0, 1) := dc_at dkX4_count_b1 8 rfl
theorem dX4_count_77 : decode cX4_count 77 = .ok (.getfield 59, 3) := dc_at dkX4_count_b1 9 rfl
def drX4_count_b2 : List (Nat × (Instr × Nat)) := [(80, (.invokestatic 201, 3)), (83, (.ireturn, 1)), (84, (.aload_n 0, 1)), (85, (.getfield 19, 3)), (88, (.getfield 62, 3)), (91, (.ireturn, 1)), (92, (.aload_n 0, 1)), (93, (.getfield 39, 3)), (96, (.invokevirtual 285, 3)), (99, (.ifCond .eq 8, 3))]
theorem dkX4_count_b2 : ((drX4_count_b2).all fun r => decide (decode cX4_count r.1 = .ok r.2)) = true := by decide +kernel
theorem dX4_count_80 : decode cX4_count 80 = .ok (.invokestatic 201, 3) := dc_at dkX4_count_b2 0 rfl
theorem dX4_count_83 : decode cX4_count 83 = .ok (.ireturn, 1) := dc_at dkX4_count_b2 1 rfl
theorem dX4_count_84 : decode cX4_count 84 = .ok (.aload_n 0, 1) := dc_at dkX4_count_b2 2 rfl
theorem dX4_count_85 : decode cX4_count 85 = .ok (.getfield 19, 3) := dc_at dkX4_count_b2 3 rfl
theorem dX4_count_88 : decode cX4_count 88 = .ok (.getfield 62, 3) := dc_at dkX4_count_b2 4 rfl
theorem dX4_count_91 : decode cX4_count 91 = .ok (.ireturn, 1) := dc_at dkX4_count_b2 5 rfl
theorem dX4_count_92 : decode cX4_count 92 = .ok (.aload_n 0, 1) := dc_at dkX4_count_b2 6 rfl
theorem dX4_count_93 : decode cX4_count 93 = .ok (.getfield 39, 3) := dc_at dkX4_count_b2 7 rfl
theorem dX4_count_96 : decode cX4_count 96 = .ok (.invokevirtual 285, 3) := dc_at dkX4_count_b2 8 rfl
theorem dX4_count_99 : decode cX4_count 99 = .ok (.ifCond .eq 8, 3) := dc_at dkX4_count_b2 9 rfl
def drX4_count_b3 : List (Nat × (Instr × Nat)) := [(102, (.bipush (-4), 2)), (104, (.goto 10, 3)), (107, (.aload_n 0, 1)), (108, (.getfield 39, 3)), (111, (.getfield 289, 3)), (114, (.ireturn, 1)), (115, (.iconst (-1), 1)), (116, (.ireturn, 1))]
theorem dkX4_count_b3 : ((drX4_count_b3).all fun r => decide (decode cX4_count r.1 = .ok r.2)) = true := by decide +kernel
theorem dX4_count_102 : decode cX4_count 102 = .ok (.bipush (-4), 2) := dc_at dkX4_count_b3 0 rfl
theorem dX4_count_104 : decode cX4_count 104 = .ok (.goto 10, 3) := dc_at dkX4_count_b3 1 rfl
theorem dX4_count_107 : decode cX4_count 107 = .ok (.aload_n 0, 1) := dc_at dkX4_count_b3 2 rfl
theorem dX4_count_108 : decode cX4_count 108 = .ok (.getfield 39, 3) := dc_at dkX4_count_b3 3 rfl
theorem dX4_count_111 : decode cX4_count 111 = .ok (.getfield 289, 3) := dc_at dkX4_count_b3 4 rfl
theorem dX4_count_114 : decode cX4_count 114 = .ok (.ireturn, 1) := dc_at dkX4_count_b3 5 rfl
theorem dX4_count_115 : decode cX4_count 115 = .ok (.iconst (-1), 1) := dc_at dkX4_count_b3 6 rfl
theorem dX4_count_116 : decode cX4_count 116 = .ok (.ireturn, 1) := dc_at dkX4_count_b3 7 rfl
def drX4_imageNumbered_b0 : List (Nat × (Instr × Nat)) := [(0, (.iload_n 1, 1)), (1, (.ifCond .ne 10, 3)), (4, (.aload_n 0, 1)), (5, (.getfield 30, 3)), (8, (.goto 7, 3)), (11, (.aload_n 0, 1)), (12, (.getfield 33, 3)), (15, (.areturn, 1))]
theorem dkX4_imageNumbered_b0 : ((drX4_imageNumbered_b0).all fun r => decide (decode cX4_imageNumbered r.1 = .ok r.2)) = true := by decide +kernel
theorem dX4_imageNumbered_0 : decode cX4_imageNumbered 0 = .ok (.iload_n 1, 1) := dc_at dkX4_imageNumbered_b0 0 rfl
theorem dX4_imageNumbered_1 : decode cX4_imageNumbered 1 = .ok (.ifCond .ne 10, 3) := dc_at dkX4_imageNumbered_b0 1 rfl
theorem dX4_imageNumbered_4 : decode cX4_imageNumbered 4 = .ok (.aload_n 0, 1) := dc_at dkX4_imageNumbered_b0 2 rfl
theorem dX4_imageNumbered_5 : decode cX4_imageNumbered 5 = .ok (.getfield 30, 3) := dc_at dkX4_imageNumbered_b0 3 rfl
theorem dX4_imageNumbered_8 : decode cX4_imageNumbered 8 = .ok (.goto 7, 3) := dc_at dkX4_imageNumbered_b0 4 rfl
theorem dX4_imageNumbered_11 : decode cX4_imageNumbered 11 = .ok (.aload_n 0, 1) := dc_at dkX4_imageNumbered_b0 5 rfl
theorem dX4_imageNumbered_12 : decode cX4_imageNumbered 12 = .ok (.getfield 33, 3) := dc_at dkX4_imageNumbered_b0 6 rfl
theorem dX4_imageNumbered_15 : decode cX4_imageNumbered 15 = .ok (.areturn, 1) := dc_at dkX4_imageNumbered_b0 7 rfl
def drX4_sheetNumbered_b0 : List (Nat × (Instr × Nat)) := [(0, (.iload_n 1, 1)), (1, (.tableswitch 42 0 2 #[27, 32, 37], 27)), (28, (.aload_n 0, 1)), (29, (.getfield 39, 3)), (32, (.areturn, 1)), (33, (.aload_n 0, 1)), (34, (.getfield 43, 3)), (37, (.areturn, 1)), (38, (.aload_n 0, 1)), (39, (.getfield 46, 3))]
theorem dkX4_sheetNumbered_b0 : ((drX4_sheetNumbered_b0).all fun r => decide (decode cX4_sheetNumbered r.1 = .ok r.2)) = true := by decide +kernel
theorem dX4_sheetNumbered_0 : decode cX4_sheetNumbered 0 = .ok (.iload_n 1, 1) := dc_at dkX4_sheetNumbered_b0 0 rfl
theorem dX4_sheetNumbered_1 : decode cX4_sheetNumbered 1 = .ok (.tableswitch 42 0 2 #[27, 32, 37], 27) := dc_at dkX4_sheetNumbered_b0 1 rfl
theorem dX4_sheetNumbered_28 : decode cX4_sheetNumbered 28 = .ok (.aload_n 0, 1) := dc_at dkX4_sheetNumbered_b0 2 rfl
theorem dX4_sheetNumbered_29 : decode cX4_sheetNumbered 29 = .ok (.getfield 39, 3) := dc_at dkX4_sheetNumbered_b0 3 rfl
theorem dX4_sheetNumbered_32 : decode cX4_sheetNumbered 32 = .ok (.areturn, 1) := dc_at dkX4_sheetNumbered_b0 4 rfl
theorem dX4_sheetNumbered_33 : decode cX4_sheetNumbered 33 = .ok (.aload_n 0, 1) := dc_at dkX4_sheetNumbered_b0 5 rfl
theorem dX4_sheetNumbered_34 : decode cX4_sheetNumbered 34 = .ok (.getfield 43, 3) := dc_at dkX4_sheetNumbered_b0 6 rfl
theorem dX4_sheetNumbered_37 : decode cX4_sheetNumbered 37 = .ok (.areturn, 1) := dc_at dkX4_sheetNumbered_b0 7 rfl
theorem dX4_sheetNumbered_38 : decode cX4_sheetNumbered 38 = .ok (.aload_n 0, 1) := dc_at dkX4_sheetNumbered_b0 8 rfl
theorem dX4_sheetNumbered_39 : decode cX4_sheetNumbered 39 = .ok (.getfield 46, 3) := dc_at dkX4_sheetNumbered_b0 9 rfl
def drX4_sheetNumbered_b1 : List (Nat × (Instr × Nat)) := [(42, (.areturn, 1)), (43, (.aload_n 0, 1)), (44, (.getfield 49, 3)), (47, (.areturn, 1))]
theorem dkX4_sheetNumbered_b1 : ((drX4_sheetNumbered_b1).all fun r => decide (decode cX4_sheetNumbered r.1 = .ok r.2)) = true := by decide +kernel
theorem dX4_sheetNumbered_42 : decode cX4_sheetNumbered 42 = .ok (.areturn, 1) := dc_at dkX4_sheetNumbered_b1 0 rfl
theorem dX4_sheetNumbered_43 : decode cX4_sheetNumbered 43 = .ok (.aload_n 0, 1) := dc_at dkX4_sheetNumbered_b1 1 rfl
theorem dX4_sheetNumbered_44 : decode cX4_sheetNumbered 44 = .ok (.getfield 49, 3) := dc_at dkX4_sheetNumbered_b1 2 rfl
theorem dX4_sheetNumbered_47 : decode cX4_sheetNumbered 47 = .ok (.areturn, 1) := dc_at dkX4_sheetNumbered_b1 3 rfl
def drX4_isStream_b0 : List (Nat × (Instr × Nat)) := [(0, (.iload_n 0, 1)), (1, (.iconst 1, 1)), (2, (.bipush 99, 2)), (4, (.invokestatic 69, 3)), (7, (.ifCond .eq 28, 3)), (10, (.iload_n 1, 1)), (11, (.iconst 1, 1)), (12, (.bipush 99, 2)), (14, (.invokestatic 69, 3)), (17, (.ifCond .eq 18, 3))]
theorem dkX4_isStream_b0 : ((drX4_isStream_b0).all fun r => decide (decode cX4_isStream r.1 = .ok r.2)) = true := by decide +kernel
theorem dX4_isStream_0 : decode cX4_isStream 0 = .ok (.iload_n 0, 1) := dc_at dkX4_isStream_b0 0 rfl
theorem dX4_isStream_1 : decode cX4_isStream 1 = .ok (.iconst 1, 1) := dc_at dkX4_isStream_b0 1 rfl
theorem dX4_isStream_2 : decode cX4_isStream 2 = .ok (.bipush 99, 2) := dc_at dkX4_isStream_b0 2 rfl
theorem dX4_isStream_4 : decode cX4_isStream 4 = .ok (.invokestatic 69, 3) := dc_at dkX4_isStream_b0 3 rfl
theorem dX4_isStream_7 : decode cX4_isStream 7 = .ok (.ifCond .eq 28, 3) := dc_at dkX4_isStream_b0 4 rfl
theorem dX4_isStream_10 : decode cX4_isStream 10 = .ok (.iload_n 1, 1) := dc_at dkX4_isStream_b0 5 rfl
theorem dX4_isStream_11 : decode cX4_isStream 11 = .ok (.iconst 1, 1) := dc_at dkX4_isStream_b0 6 rfl
theorem dX4_isStream_12 : decode cX4_isStream 12 = .ok (.bipush 99, 2) := dc_at dkX4_isStream_b0 7 rfl
theorem dX4_isStream_14 : decode cX4_isStream 14 = .ok (.invokestatic 69, 3) := dc_at dkX4_isStream_b0 8 rfl
theorem dX4_isStream_17 : decode cX4_isStream 17 = .ok (.ifCond .eq 18, 3) := dc_at dkX4_isStream_b0 9 rfl
def drX4_isStream_b1 : List (Nat × (Instr × Nat)) := [(20, (.iload_n 2, 1)), (21, (.iconst 0, 1)), (22, (.sipush 9999, 3)), (25, (.invokestatic 69, 3)), (28, (.ifCond .eq 7, 3)), (31, (.iconst 1, 1)), (32, (.goto 4, 3)), (35, (.iconst 0, 1)), (36, (.ireturn, 1))]
theorem dkX4_isStream_b1 : ((drX4_isStream_b1).all fun r => decide (decode cX4_isStream r.1 = .ok r.2)) = true := by decide +kernel
theorem dX4_isStream_20 : decode cX4_isStream 20 = .ok (.iload_n 2, 1) := dc_at dkX4_isStream_b1 0 rfl
theorem dX4_isStream_21 : decode cX4_isStream 21 = .ok (.iconst 0, 1) := dc_at dkX4_isStream_b1 1 rfl
theorem dX4_isStream_22 : decode cX4_isStream 22 = .ok (.sipush 9999, 3) := dc_at dkX4_isStream_b1 2 rfl
theorem dX4_isStream_25 : decode cX4_isStream 25 = .ok (.invokestatic 69, 3) := dc_at dkX4_isStream_b1 3 rfl
theorem dX4_isStream_28 : decode cX4_isStream 28 = .ok (.ifCond .eq 7, 3) := dc_at dkX4_isStream_b1 4 rfl
theorem dX4_isStream_31 : decode cX4_isStream 31 = .ok (.iconst 1, 1) := dc_at dkX4_isStream_b1 5 rfl
theorem dX4_isStream_32 : decode cX4_isStream 32 = .ok (.goto 4, 3) := dc_at dkX4_isStream_b1 6 rfl
theorem dX4_isStream_35 : decode cX4_isStream 35 = .ok (.iconst 0, 1) := dc_at dkX4_isStream_b1 7 rfl
theorem dX4_isStream_36 : decode cX4_isStream 36 = .ok (.ireturn, 1) := dc_at dkX4_isStream_b1 8 rfl
def drX4_isBetween_b0 : List (Nat × (Instr × Nat)) := [(0, (.iload_n 0, 1)), (1, (.iload_n 1, 1)), (2, (.if_icmp .lt 12, 3)), (5, (.iload_n 0, 1)), (6, (.iload_n 2, 1)), (7, (.if_icmp .gt 7, 3)), (10, (.iconst 1, 1)), (11, (.goto 4, 3)), (14, (.iconst 0, 1)), (15, (.ireturn, 1))]
theorem dkX4_isBetween_b0 : ((drX4_isBetween_b0).all fun r => decide (decode cX4_isBetween r.1 = .ok r.2)) = true := by decide +kernel
theorem dX4_isBetween_0 : decode cX4_isBetween 0 = .ok (.iload_n 0, 1) := dc_at dkX4_isBetween_b0 0 rfl
theorem dX4_isBetween_1 : decode cX4_isBetween 1 = .ok (.iload_n 1, 1) := dc_at dkX4_isBetween_b0 1 rfl
theorem dX4_isBetween_2 : decode cX4_isBetween 2 = .ok (.if_icmp .lt 12, 3) := dc_at dkX4_isBetween_b0 2 rfl
theorem dX4_isBetween_5 : decode cX4_isBetween 5 = .ok (.iload_n 0, 1) := dc_at dkX4_isBetween_b0 3 rfl
theorem dX4_isBetween_6 : decode cX4_isBetween 6 = .ok (.iload_n 2, 1) := dc_at dkX4_isBetween_b0 4 rfl
theorem dX4_isBetween_7 : decode cX4_isBetween 7 = .ok (.if_icmp .gt 7, 3) := dc_at dkX4_isBetween_b0 5 rfl
theorem dX4_isBetween_10 : decode cX4_isBetween 10 = .ok (.iconst 1, 1) := dc_at dkX4_isBetween_b0 6 rfl
theorem dX4_isBetween_11 : decode cX4_isBetween 11 = .ok (.goto 4, 3) := dc_at dkX4_isBetween_b0 7 rfl
theorem dX4_isBetween_14 : decode cX4_isBetween 14 = .ok (.iconst 0, 1) := dc_at dkX4_isBetween_b0 8 rfl
theorem dX4_isBetween_15 : decode cX4_isBetween 15 = .ok (.ireturn, 1) := dc_at dkX4_isBetween_b0 9 rfl
def drX4_dividedUp_b0 : List (Nat × (Instr × Nat)) := [(0, (.iload_n 1, 1)), (1, (.iconst 1, 1)), (2, (.if_icmp .ge 7, 3)), (5, (.iconst 0, 1)), (6, (.goto 10, 3)), (9, (.iload_n 0, 1)), (10, (.iload_n 1, 1)), (11, (.iadd, 1)), (12, (.iconst 1, 1)), (13, (.isub, 1))]
theorem dkX4_dividedUp_b0 : ((drX4_dividedUp_b0).all fun r => decide (decode cX4_dividedUp r.1 = .ok r.2)) = true := by decide +kernel
theorem dX4_dividedUp_0 : decode cX4_dividedUp 0 = .ok (.iload_n 1, 1) := dc_at dkX4_dividedUp_b0 0 rfl
theorem dX4_dividedUp_1 : decode cX4_dividedUp 1 = .ok (.iconst 1, 1) := dc_at dkX4_dividedUp_b0 1 rfl
theorem dX4_dividedUp_2 : decode cX4_dividedUp 2 = .ok (.if_icmp .ge 7, 3) := dc_at dkX4_dividedUp_b0 2 rfl
theorem dX4_dividedUp_5 : decode cX4_dividedUp 5 = .ok (.iconst 0, 1) := dc_at dkX4_dividedUp_b0 3 rfl
theorem dX4_dividedUp_6 : decode cX4_dividedUp 6 = .ok (.goto 10, 3) := dc_at dkX4_dividedUp_b0 4 rfl
theorem dX4_dividedUp_9 : decode cX4_dividedUp 9 = .ok (.iload_n 0, 1) := dc_at dkX4_dividedUp_b0 5 rfl
theorem dX4_dividedUp_10 : decode cX4_dividedUp 10 = .ok (.iload_n 1, 1) := dc_at dkX4_dividedUp_b0 6 rfl
theorem dX4_dividedUp_11 : decode cX4_dividedUp 11 = .ok (.iadd, 1) := dc_at dkX4_dividedUp_b0 7 rfl
theorem dX4_dividedUp_12 : decode cX4_dividedUp 12 = .ok (.iconst 1, 1) := dc_at dkX4_dividedUp_b0 8 rfl
theorem dX4_dividedUp_13 : decode cX4_dividedUp 13 = .ok (.isub, 1) := dc_at dkX4_dividedUp_b0 9 rfl
def drX4_dividedUp_b1 : List (Nat × (Instr × Nat)) := [(14, (.iload_n 1, 1)), (15, (.idiv, 1)), (16, (.ireturn, 1))]
theorem dkX4_dividedUp_b1 : ((drX4_dividedUp_b1).all fun r => decide (decode cX4_dividedUp r.1 = .ok r.2)) = true := by decide +kernel
theorem dX4_dividedUp_14 : decode cX4_dividedUp 14 = .ok (.iload_n 1, 1) := dc_at dkX4_dividedUp_b1 0 rfl
theorem dX4_dividedUp_15 : decode cX4_dividedUp 15 = .ok (.idiv, 1) := dc_at dkX4_dividedUp_b1 1 rfl
theorem dX4_dividedUp_16 : decode cX4_dividedUp 16 = .ok (.ireturn, 1) := dc_at dkX4_dividedUp_b1 2 rfl
def drX4_lengthOfTurns_b0 : List (Nat × (Instr × Nat)) := [(0, (.iload_n 0, 1)), (1, (.iload_n 1, 1)), (2, (.imul, 1)), (3, (.iload_n 2, 1)), (4, (.iload_n 0, 1)), (5, (.iload_n 0, 1)), (6, (.iconst 1, 1)), (7, (.isub, 1)), (8, (.imul, 1)), (9, (.iconst 2, 1))]
theorem dkX4_lengthOfTurns_b0 : ((drX4_lengthOfTurns_b0).all fun r => decide (decode cX4_lengthOfTurns r.1 = .ok r.2)) = true := by decide +kernel
theorem dX4_lengthOfTurns_0 : decode cX4_lengthOfTurns 0 = .ok (.iload_n 0, 1) := dc_at dkX4_lengthOfTurns_b0 0 rfl
theorem dX4_lengthOfTurns_1 : decode cX4_lengthOfTurns 1 = .ok (.iload_n 1, 1) := dc_at dkX4_lengthOfTurns_b0 1 rfl
theorem dX4_lengthOfTurns_2 : decode cX4_lengthOfTurns 2 = .ok (.imul, 1) := dc_at dkX4_lengthOfTurns_b0 2 rfl
theorem dX4_lengthOfTurns_3 : decode cX4_lengthOfTurns 3 = .ok (.iload_n 2, 1) := dc_at dkX4_lengthOfTurns_b0 3 rfl
theorem dX4_lengthOfTurns_4 : decode cX4_lengthOfTurns 4 = .ok (.iload_n 0, 1) := dc_at dkX4_lengthOfTurns_b0 4 rfl
theorem dX4_lengthOfTurns_5 : decode cX4_lengthOfTurns 5 = .ok (.iload_n 0, 1) := dc_at dkX4_lengthOfTurns_b0 5 rfl
theorem dX4_lengthOfTurns_6 : decode cX4_lengthOfTurns 6 = .ok (.iconst 1, 1) := dc_at dkX4_lengthOfTurns_b0 6 rfl
theorem dX4_lengthOfTurns_7 : decode cX4_lengthOfTurns 7 = .ok (.isub, 1) := dc_at dkX4_lengthOfTurns_b0 7 rfl
theorem dX4_lengthOfTurns_8 : decode cX4_lengthOfTurns 8 = .ok (.imul, 1) := dc_at dkX4_lengthOfTurns_b0 8 rfl
theorem dX4_lengthOfTurns_9 : decode cX4_lengthOfTurns 9 = .ok (.iconst 2, 1) := dc_at dkX4_lengthOfTurns_b0 9 rfl
def drX4_lengthOfTurns_b1 : List (Nat × (Instr × Nat)) := [(10, (.idiv, 1)), (11, (.imul, 1)), (12, (.iadd, 1)), (13, (.ireturn, 1))]
theorem dkX4_lengthOfTurns_b1 : ((drX4_lengthOfTurns_b1).all fun r => decide (decode cX4_lengthOfTurns r.1 = .ok r.2)) = true := by decide +kernel
theorem dX4_lengthOfTurns_10 : decode cX4_lengthOfTurns 10 = .ok (.idiv, 1) := dc_at dkX4_lengthOfTurns_b1 0 rfl
theorem dX4_lengthOfTurns_11 : decode cX4_lengthOfTurns 11 = .ok (.imul, 1) := dc_at dkX4_lengthOfTurns_b1 1 rfl
theorem dX4_lengthOfTurns_12 : decode cX4_lengthOfTurns 12 = .ok (.iadd, 1) := dc_at dkX4_lengthOfTurns_b1 2 rfl
theorem dX4_lengthOfTurns_13 : decode cX4_lengthOfTurns 13 = .ok (.ireturn, 1) := dc_at dkX4_lengthOfTurns_b1 3 rfl
def drX4_cell_b0 : List (Nat × (Instr × Nat)) := [(0, (.aload_n 0, 1)), (1, (.ifnull 19, 3)), (4, (.iload_n 1, 1)), (5, (.ifCond .lt 15, 3)), (8, (.iload_n 1, 1)), (9, (.aload_n 0, 1)), (10, (.arraylength, 1)), (11, (.if_icmp .ge 9, 3)), (14, (.aload_n 0, 1)), (15, (.iload_n 1, 1))]
theorem dkX4_cell_b0 : ((drX4_cell_b0).all fun r => decide (decode cX4_cell r.1 = .ok r.2)) = true := by decide +kernel
theorem dX4_cell_0 : decode cX4_cell 0 = .ok (.aload_n 0, 1) := dc_at dkX4_cell_b0 0 rfl
theorem dX4_cell_1 : decode cX4_cell 1 = .ok (.ifnull 19, 3) := dc_at dkX4_cell_b0 1 rfl
theorem dX4_cell_4 : decode cX4_cell 4 = .ok (.iload_n 1, 1) := dc_at dkX4_cell_b0 2 rfl
theorem dX4_cell_5 : decode cX4_cell 5 = .ok (.ifCond .lt 15, 3) := dc_at dkX4_cell_b0 3 rfl
theorem dX4_cell_8 : decode cX4_cell 8 = .ok (.iload_n 1, 1) := dc_at dkX4_cell_b0 4 rfl
theorem dX4_cell_9 : decode cX4_cell 9 = .ok (.aload_n 0, 1) := dc_at dkX4_cell_b0 5 rfl
theorem dX4_cell_10 : decode cX4_cell 10 = .ok (.arraylength, 1) := dc_at dkX4_cell_b0 6 rfl
theorem dX4_cell_11 : decode cX4_cell 11 = .ok (.if_icmp .ge 9, 3) := dc_at dkX4_cell_b0 7 rfl
theorem dX4_cell_14 : decode cX4_cell 14 = .ok (.aload_n 0, 1) := dc_at dkX4_cell_b0 8 rfl
theorem dX4_cell_15 : decode cX4_cell 15 = .ok (.iload_n 1, 1) := dc_at dkX4_cell_b0 9 rfl
def drX4_cell_b1 : List (Nat × (Instr × Nat)) := [(16, (.iaload, 1)), (17, (.goto 4, 3)), (20, (.iconst 0, 1)), (21, (.ireturn, 1))]
theorem dkX4_cell_b1 : ((drX4_cell_b1).all fun r => decide (decode cX4_cell r.1 = .ok r.2)) = true := by decide +kernel
theorem dX4_cell_16 : decode cX4_cell 16 = .ok (.iaload, 1) := dc_at dkX4_cell_b1 0 rfl
theorem dX4_cell_17 : decode cX4_cell 17 = .ok (.goto 4, 3) := dc_at dkX4_cell_b1 1 rfl
theorem dX4_cell_20 : decode cX4_cell 20 = .ok (.iconst 0, 1) := dc_at dkX4_cell_b1 2 rfl
theorem dX4_cell_21 : decode cX4_cell 21 = .ok (.ireturn, 1) := dc_at dkX4_cell_b1 3 rfl
def drX4_setCell_b0 : List (Nat × (Instr × Nat)) := [(0, (.aload_n 0, 1)), (1, (.ifnull 17, 3)), (4, (.iload_n 1, 1)), (5, (.ifCond .lt 13, 3)), (8, (.iload_n 1, 1)), (9, (.aload_n 0, 1)), (10, (.arraylength, 1)), (11, (.if_icmp .ge 7, 3)), (14, (.aload_n 0, 1)), (15, (.iload_n 1, 1))]
theorem dkX4_setCell_b0 : ((drX4_setCell_b0).all fun r => decide (decode cX4_setCell r.1 = .ok r.2)) = true := by decide +kernel
theorem dX4_setCell_0 : decode cX4_setCell 0 = .ok (.aload_n 0, 1) := dc_at dkX4_setCell_b0 0 rfl
theorem dX4_setCell_1 : decode cX4_setCell 1 = .ok (.ifnull 17, 3) := dc_at dkX4_setCell_b0 1 rfl
theorem dX4_setCell_4 : decode cX4_setCell 4 = .ok (.iload_n 1, 1) := dc_at dkX4_setCell_b0 2 rfl
theorem dX4_setCell_5 : decode cX4_setCell 5 = .ok (.ifCond .lt 13, 3) := dc_at dkX4_setCell_b0 3 rfl
theorem dX4_setCell_8 : decode cX4_setCell 8 = .ok (.iload_n 1, 1) := dc_at dkX4_setCell_b0 4 rfl
theorem dX4_setCell_9 : decode cX4_setCell 9 = .ok (.aload_n 0, 1) := dc_at dkX4_setCell_b0 5 rfl
theorem dX4_setCell_10 : decode cX4_setCell 10 = .ok (.arraylength, 1) := dc_at dkX4_setCell_b0 6 rfl
theorem dX4_setCell_11 : decode cX4_setCell 11 = .ok (.if_icmp .ge 7, 3) := dc_at dkX4_setCell_b0 7 rfl
theorem dX4_setCell_14 : decode cX4_setCell 14 = .ok (.aload_n 0, 1) := dc_at dkX4_setCell_b0 8 rfl
theorem dX4_setCell_15 : decode cX4_setCell 15 = .ok (.iload_n 1, 1) := dc_at dkX4_setCell_b0 9 rfl
def drX4_setCell_b1 : List (Nat × (Instr × Nat)) := [(16, (.iload_n 2, 1)), (17, (.iastore, 1)), (18, (.return_, 1))]
theorem dkX4_setCell_b1 : ((drX4_setCell_b1).all fun r => decide (decode cX4_setCell r.1 = .ok r.2)) = true := by decide +kernel
theorem dX4_setCell_16 : decode cX4_setCell 16 = .ok (.iload_n 2, 1) := dc_at dkX4_setCell_b1 0 rfl
theorem dX4_setCell_17 : decode cX4_setCell 17 = .ok (.iastore, 1) := dc_at dkX4_setCell_b1 1 rfl
theorem dX4_setCell_18 : decode cX4_setCell 18 = .ok (.return_, 1) := dc_at dkX4_setCell_b1 2 rfl
def drX4_copyRow_b0 : List (Nat × (Instr × Nat)) := [(0, (.aload_n 0, 1)), (1, (.ifnull 21, 3)), (4, (.aload_n 1, 1)), (5, (.ifnull 17, 3)), (8, (.aload_n 0, 1)), (9, (.iconst 0, 1)), (10, (.aload_n 1, 1)), (11, (.iconst 0, 1)), (12, (.aload_n 0, 1)), (13, (.arraylength, 1))]
theorem dkX4_copyRow_b0 : ((drX4_copyRow_b0).all fun r => decide (decode cX4_copyRow r.1 = .ok r.2)) = true := by decide +kernel
theorem dX4_copyRow_0 : decode cX4_copyRow 0 = .ok (.aload_n 0, 1) := dc_at dkX4_copyRow_b0 0 rfl
theorem dX4_copyRow_1 : decode cX4_copyRow 1 = .ok (.ifnull 21, 3) := dc_at dkX4_copyRow_b0 1 rfl
theorem dX4_copyRow_4 : decode cX4_copyRow 4 = .ok (.aload_n 1, 1) := dc_at dkX4_copyRow_b0 2 rfl
theorem dX4_copyRow_5 : decode cX4_copyRow 5 = .ok (.ifnull 17, 3) := dc_at dkX4_copyRow_b0 3 rfl
theorem dX4_copyRow_8 : decode cX4_copyRow 8 = .ok (.aload_n 0, 1) := dc_at dkX4_copyRow_b0 4 rfl
theorem dX4_copyRow_9 : decode cX4_copyRow 9 = .ok (.iconst 0, 1) := dc_at dkX4_copyRow_b0 5 rfl
theorem dX4_copyRow_10 : decode cX4_copyRow 10 = .ok (.aload_n 1, 1) := dc_at dkX4_copyRow_b0 6 rfl
theorem dX4_copyRow_11 : decode cX4_copyRow 11 = .ok (.iconst 0, 1) := dc_at dkX4_copyRow_b0 7 rfl
theorem dX4_copyRow_12 : decode cX4_copyRow 12 = .ok (.aload_n 0, 1) := dc_at dkX4_copyRow_b0 8 rfl
theorem dX4_copyRow_13 : decode cX4_copyRow 13 = .ok (.arraylength, 1) := dc_at dkX4_copyRow_b0 9 rfl
def drX4_copyRow_b1 : List (Nat × (Instr × Nat)) := [(14, (.aload_n 1, 1)), (15, (.arraylength, 1)), (16, (.invokestatic 292, 3)), (19, (.invokestatic 297, 3)), (22, (.return_, 1))]
theorem dkX4_copyRow_b1 : ((drX4_copyRow_b1).all fun r => decide (decode cX4_copyRow r.1 = .ok r.2)) = true := by decide +kernel
theorem dX4_copyRow_14 : decode cX4_copyRow 14 = .ok (.aload_n 1, 1) := dc_at dkX4_copyRow_b1 0 rfl
theorem dX4_copyRow_15 : decode cX4_copyRow 15 = .ok (.arraylength, 1) := dc_at dkX4_copyRow_b1 1 rfl
theorem dX4_copyRow_16 : decode cX4_copyRow 16 = .ok (.invokestatic 292, 3) := dc_at dkX4_copyRow_b1 2 rfl
theorem dX4_copyRow_19 : decode cX4_copyRow 19 = .ok (.invokestatic 297, 3) := dc_at dkX4_copyRow_b1 3 rfl
theorem dX4_copyRow_22 : decode cX4_copyRow 22 = .ok (.return_, 1) := dc_at dkX4_copyRow_b1 4 rfl
def drX5_init_b0 : List (Nat × (Instr × Nat)) := [(0, (.aload_n 0, 1)), (1, (.invokespecial 1, 3)), (4, (.aload_n 0, 1)), (5, (.sipush 1200, 3)), (8, (.newarray .int, 2)), (10, (.putfield 7, 3)), (13, (.aload_n 0, 1)), (14, (.iconst 2, 1)), (15, (.newarray .boolean, 2)), (17, (.putfield 13, 3))]
theorem dkX5_init_b0 : ((drX5_init_b0).all fun r => decide (decode cX5_init r.1 = .ok r.2)) = true := by decide +kernel
theorem dX5_init_0 : decode cX5_init 0 = .ok (.aload_n 0, 1) := dc_at dkX5_init_b0 0 rfl
theorem dX5_init_1 : decode cX5_init 1 = .ok (.invokespecial 1, 3) := dc_at dkX5_init_b0 1 rfl
theorem dX5_init_4 : decode cX5_init 4 = .ok (.aload_n 0, 1) := dc_at dkX5_init_b0 2 rfl
theorem dX5_init_5 : decode cX5_init 5 = .ok (.sipush 1200, 3) := dc_at dkX5_init_b0 3 rfl
theorem dX5_init_8 : decode cX5_init 8 = .ok (.newarray .int, 2) := dc_at dkX5_init_b0 4 rfl
theorem dX5_init_10 : decode cX5_init 10 = .ok (.putfield 7, 3) := dc_at dkX5_init_b0 5 rfl
theorem dX5_init_13 : decode cX5_init 13 = .ok (.aload_n 0, 1) := dc_at dkX5_init_b0 6 rfl
theorem dX5_init_14 : decode cX5_init 14 = .ok (.iconst 2, 1) := dc_at dkX5_init_b0 7 rfl
theorem dX5_init_15 : decode cX5_init 15 = .ok (.newarray .boolean, 2) := dc_at dkX5_init_b0 8 rfl
theorem dX5_init_17 : decode cX5_init 17 = .ok (.putfield 13, 3) := dc_at dkX5_init_b0 9 rfl
def drX5_init_b1 : List (Nat × (Instr × Nat)) := [(20, (.aload_n 0, 1)), (21, (.bipush 9, 2)), (23, (.newarray .int, 2)), (25, (.putfield 17, 3)), (28, (.aload_n 0, 1)), (29, (.bipush 9, 2)), (31, (.newarray .int, 2)), (33, (.putfield 20, 3)), (36, (.aload_n 0, 1)), (37, (.bipush 12, 2))]
theorem dkX5_init_b1 : ((drX5_init_b1).all fun r => decide (decode cX5_init r.1 = .ok r.2)) = true := by decide +kernel
theorem dX5_init_20 : decode cX5_init 20 = .ok (.aload_n 0, 1) := dc_at dkX5_init_b1 0 rfl
theorem dX5_init_21 : decode cX5_init 21 = .ok (.bipush 9, 2) := dc_at dkX5_init_b1 1 rfl
theorem dX5_init_23 : decode cX5_init 23 = .ok (.newarray .int, 2) := dc_at dkX5_init_b1 2 rfl
theorem dX5_init_25 : decode cX5_init 25 = .ok (.putfield 17, 3) := dc_at dkX5_init_b1 3 rfl
theorem dX5_init_28 : decode cX5_init 28 = .ok (.aload_n 0, 1) := dc_at dkX5_init_b1 4 rfl
theorem dX5_init_29 : decode cX5_init 29 = .ok (.bipush 9, 2) := dc_at dkX5_init_b1 5 rfl
theorem dX5_init_31 : decode cX5_init 31 = .ok (.newarray .int, 2) := dc_at dkX5_init_b1 6 rfl
theorem dX5_init_33 : decode cX5_init 33 = .ok (.putfield 20, 3) := dc_at dkX5_init_b1 7 rfl
theorem dX5_init_36 : decode cX5_init 36 = .ok (.aload_n 0, 1) := dc_at dkX5_init_b1 8 rfl
theorem dX5_init_37 : decode cX5_init 37 = .ok (.bipush 12, 2) := dc_at dkX5_init_b1 9 rfl
def drX5_init_b2 : List (Nat × (Instr × Nat)) := [(39, (.newarray .int, 2)), (41, (.putfield 23, 3)), (44, (.aload_n 0, 1)), (45, (.sipush 144, 3)), (48, (.newarray .int, 2)), (50, (.putfield 26, 3)), (53, (.aload_n 0, 1)), (54, (.sipush 400, 3)), (57, (.newarray .int, 2)), (59, (.putfield 29, 3))]
theorem dkX5_init_b2 : ((drX5_init_b2).all fun r => decide (decode cX5_init r.1 = .ok r.2)) = true := by decide +kernel
theorem dX5_init_39 : decode cX5_init 39 = .ok (.newarray .int, 2) := dc_at dkX5_init_b2 0 rfl
theorem dX5_init_41 : decode cX5_init 41 = .ok (.putfield 23, 3) := dc_at dkX5_init_b2 1 rfl
theorem dX5_init_44 : decode cX5_init 44 = .ok (.aload_n 0, 1) := dc_at dkX5_init_b2 2 rfl
theorem dX5_init_45 : decode cX5_init 45 = .ok (.sipush 144, 3) := dc_at dkX5_init_b2 3 rfl
theorem dX5_init_48 : decode cX5_init 48 = .ok (.newarray .int, 2) := dc_at dkX5_init_b2 4 rfl
theorem dX5_init_50 : decode cX5_init 50 = .ok (.putfield 26, 3) := dc_at dkX5_init_b2 5 rfl
theorem dX5_init_53 : decode cX5_init 53 = .ok (.aload_n 0, 1) := dc_at dkX5_init_b2 6 rfl
theorem dX5_init_54 : decode cX5_init 54 = .ok (.sipush 400, 3) := dc_at dkX5_init_b2 7 rfl
theorem dX5_init_57 : decode cX5_init 57 = .ok (.newarray .int, 2) := dc_at dkX5_init_b2 8 rfl
theorem dX5_init_59 : decode cX5_init 59 = .ok (.putfield 29, 3) := dc_at dkX5_init_b2 9 rfl
def drX5_init_b3 : List (Nat × (Instr × Nat)) := [(62, (.aload_n 0, 1)), (63, (.bipush 12, 2)), (65, (.newarray .int, 2)), (67, (.putfield 32, 3)), (70, (.aload_n 0, 1)), (71, (.bipush 12, 2)), (73, (.newarray .int, 2)), (75, (.putfield 35, 3)), (78, (.aload_n 0, 1)), (79, (.sipush 3328, 3))]
theorem dkX5_init_b3 : ((drX5_init_b3).all fun r => decide (decode cX5_init r.1 = .ok r.2)) = true := by decide +kernel
theorem dX5_init_62 : decode cX5_init 62 = .ok (.aload_n 0, 1) := dc_at dkX5_init_b3 0 rfl
theorem dX5_init_63 : decode cX5_init 63 = .ok (.bipush 12, 2) := dc_at dkX5_init_b3 1 rfl
theorem dX5_init_65 : decode cX5_init 65 = .ok (.newarray .int, 2) := dc_at dkX5_init_b3 2 rfl
theorem dX5_init_67 : decode cX5_init 67 = .ok (.putfield 32, 3) := dc_at dkX5_init_b3 3 rfl
theorem dX5_init_70 : decode cX5_init 70 = .ok (.aload_n 0, 1) := dc_at dkX5_init_b3 4 rfl
theorem dX5_init_71 : decode cX5_init 71 = .ok (.bipush 12, 2) := dc_at dkX5_init_b3 5 rfl
theorem dX5_init_73 : decode cX5_init 73 = .ok (.newarray .int, 2) := dc_at dkX5_init_b3 6 rfl
theorem dX5_init_75 : decode cX5_init 75 = .ok (.putfield 35, 3) := dc_at dkX5_init_b3 7 rfl
theorem dX5_init_78 : decode cX5_init 78 = .ok (.aload_n 0, 1) := dc_at dkX5_init_b3 8 rfl
theorem dX5_init_79 : decode cX5_init 79 = .ok (.sipush 3328, 3) := dc_at dkX5_init_b3 9 rfl
def drX5_init_b4 : List (Nat × (Instr × Nat)) := [(82, (.newarray .int, 2)), (84, (.putfield 38, 3)), (87, (.aload_n 0, 1)), (88, (.bipush 8, 2)), (90, (.newarray .int, 2)), (92, (.putfield 41, 3)), (95, (.aload_n 0, 1)), (96, (.iconst 4, 1)), (97, (.newarray .int, 2)), (99, (.putfield 44, 3))]
theorem dkX5_init_b4 : ((drX5_init_b4).all fun r => decide (decode cX5_init r.1 = .ok r.2)) = true := by decide +kernel
theorem dX5_init_82 : decode cX5_init 82 = .ok (.newarray .int, 2) := dc_at dkX5_init_b4 0 rfl
theorem dX5_init_84 : decode cX5_init 84 = .ok (.putfield 38, 3) := dc_at dkX5_init_b4 1 rfl
theorem dX5_init_87 : decode cX5_init 87 = .ok (.aload_n 0, 1) := dc_at dkX5_init_b4 2 rfl
theorem dX5_init_88 : decode cX5_init 88 = .ok (.bipush 8, 2) := dc_at dkX5_init_b4 3 rfl
theorem dX5_init_90 : decode cX5_init 90 = .ok (.newarray .int, 2) := dc_at dkX5_init_b4 4 rfl
theorem dX5_init_92 : decode cX5_init 92 = .ok (.putfield 41, 3) := dc_at dkX5_init_b4 5 rfl
theorem dX5_init_95 : decode cX5_init 95 = .ok (.aload_n 0, 1) := dc_at dkX5_init_b4 6 rfl
theorem dX5_init_96 : decode cX5_init 96 = .ok (.iconst 4, 1) := dc_at dkX5_init_b4 7 rfl
theorem dX5_init_97 : decode cX5_init 97 = .ok (.newarray .int, 2) := dc_at dkX5_init_b4 8 rfl
theorem dX5_init_99 : decode cX5_init 99 = .ok (.putfield 44, 3) := dc_at dkX5_init_b4 9 rfl
def drX5_init_b5 : List (Nat × (Instr × Nat)) := [(102, (.aload_n 0, 1)), (103, (.iconst 4, 1)), (104, (.newarray .int, 2)), (106, (.putfield 47, 3)), (109, (.aload_n 0, 1)), (110, (.sipush 160, 3)), (113, (.newarray .int, 2)), (115, (.putfield 50, 3)), (118, (.iconst 0, 1)), (119, (.istore_n 1, 1))]
theorem dkX5_init_b5 : ((drX5_init_b5).all fun r => decide (decode cX5_init r.1 = .ok r.2)) = true := by decide +kernel
theorem dX5_init_102 : decode cX5_init 102 = .ok (.aload_n 0, 1) := dc_at dkX5_init_b5 0 rfl
theorem dX5_init_103 : decode cX5_init 103 = .ok (.iconst 4, 1) := dc_at dkX5_init_b5 1 rfl
theorem dX5_init_104 : decode cX5_init 104 = .ok (.newarray .int, 2) := dc_at dkX5_init_b5 2 rfl
theorem dX5_init_106 : decode cX5_init 106 = .ok (.putfield 47, 3) := dc_at dkX5_init_b5 3 rfl
theorem dX5_init_109 : decode cX5_init 109 = .ok (.aload_n 0, 1) := dc_at dkX5_init_b5 4 rfl
theorem dX5_init_110 : decode cX5_init 110 = .ok (.sipush 160, 3) := dc_at dkX5_init_b5 5 rfl
theorem dX5_init_113 : decode cX5_init 113 = .ok (.newarray .int, 2) := dc_at dkX5_init_b5 6 rfl
theorem dX5_init_115 : decode cX5_init 115 = .ok (.putfield 50, 3) := dc_at dkX5_init_b5 7 rfl
theorem dX5_init_118 : decode cX5_init 118 = .ok (.iconst 0, 1) := dc_at dkX5_init_b5 8 rfl
theorem dX5_init_119 : decode cX5_init 119 = .ok (.istore_n 1, 1) := dc_at dkX5_init_b5 9 rfl
def drX5_init_b6 : List (Nat × (Instr × Nat)) := [(120, (.iload_n 1, 1)), (121, (.iconst 4, 1)), (122, (.if_icmp .ge 17, 3)), (125, (.aload_n 0, 1)), (126, (.getfield 44, 3)), (129, (.iload_n 1, 1)), (130, (.bipush (-4), 2)), (132, (.iastore, 1)), (133, (.iinc 1 1, 3)), (136, (.goto (-16), 3))]
theorem dkX5_init_b6 : ((drX5_init_b6).all fun r => decide (decode cX5_init r.1 = .ok r.2)) = true := by decide +kernel
theorem dX5_init_120 : decode cX5_init 120 = .ok (.iload_n 1, 1) := dc_at dkX5_init_b6 0 rfl
theorem dX5_init_121 : decode cX5_init 121 = .ok (.iconst 4, 1) := dc_at dkX5_init_b6 1 rfl
theorem dX5_init_122 : decode cX5_init 122 = .ok (.if_icmp .ge 17, 3) := dc_at dkX5_init_b6 2 rfl
theorem dX5_init_125 : decode cX5_init 125 = .ok (.aload_n 0, 1) := dc_at dkX5_init_b6 3 rfl
theorem dX5_init_126 : decode cX5_init 126 = .ok (.getfield 44, 3) := dc_at dkX5_init_b6 4 rfl
theorem dX5_init_129 : decode cX5_init 129 = .ok (.iload_n 1, 1) := dc_at dkX5_init_b6 5 rfl
theorem dX5_init_130 : decode cX5_init 130 = .ok (.bipush (-4), 2) := dc_at dkX5_init_b6 6 rfl
theorem dX5_init_132 : decode cX5_init 132 = .ok (.iastore, 1) := dc_at dkX5_init_b6 7 rfl
theorem dX5_init_133 : decode cX5_init 133 = .ok (.iinc 1 1, 3) := dc_at dkX5_init_b6 8 rfl
theorem dX5_init_136 : decode cX5_init 136 = .ok (.goto (-16), 3) := dc_at dkX5_init_b6 9 rfl
def drX5_init_b7 : List (Nat × (Instr × Nat)) := [(139, (.aload_n 0, 1)), (140, (.invokevirtual 53, 3)), (143, (.aload_n 0, 1)), (144, (.invokevirtual 56, 3)), (147, (.return_, 1))]
theorem dkX5_init_b7 : ((drX5_init_b7).all fun r => decide (decode cX5_init r.1 = .ok r.2)) = true := by decide +kernel
theorem dX5_init_139 : decode cX5_init 139 = .ok (.aload_n 0, 1) := dc_at dkX5_init_b7 0 rfl
theorem dX5_init_140 : decode cX5_init 140 = .ok (.invokevirtual 53, 3) := dc_at dkX5_init_b7 1 rfl
theorem dX5_init_143 : decode cX5_init 143 = .ok (.aload_n 0, 1) := dc_at dkX5_init_b7 2 rfl
theorem dX5_init_144 : decode cX5_init 144 = .ok (.invokevirtual 56, 3) := dc_at dkX5_init_b7 3 rfl
theorem dX5_init_147 : decode cX5_init 147 = .ok (.return_, 1) := dc_at dkX5_init_b7 4 rfl
def drX5_in_b0 : List (Nat × (Instr × Nat)) := [(0, (.lload_n 0, 1)), (1, (.lload_n 2, 1)), (2, (.lcmp, 1)), (3, (.ifCond .lt 14, 3)), (6, (.lload_n 0, 1)), (7, (.lload 4, 2)), (9, (.lcmp, 1)), (10, (.ifCond .gt 7, 3)), (13, (.iconst 1, 1)), (14, (.goto 4, 3))]
theorem dkX5_in_b0 : ((drX5_in_b0).all fun r => decide (decode cX5_in r.1 = .ok r.2)) = true := by decide +kernel
theorem dX5_in_0 : decode cX5_in 0 = .ok (.lload_n 0, 1) := dc_at dkX5_in_b0 0 rfl
theorem dX5_in_1 : decode cX5_in 1 = .ok (.lload_n 2, 1) := dc_at dkX5_in_b0 1 rfl
theorem dX5_in_2 : decode cX5_in 2 = .ok (.lcmp, 1) := dc_at dkX5_in_b0 2 rfl
theorem dX5_in_3 : decode cX5_in 3 = .ok (.ifCond .lt 14, 3) := dc_at dkX5_in_b0 3 rfl
theorem dX5_in_6 : decode cX5_in 6 = .ok (.lload_n 0, 1) := dc_at dkX5_in_b0 4 rfl
theorem dX5_in_7 : decode cX5_in 7 = .ok (.lload 4, 2) := dc_at dkX5_in_b0 5 rfl
theorem dX5_in_9 : decode cX5_in 9 = .ok (.lcmp, 1) := dc_at dkX5_in_b0 6 rfl
theorem dX5_in_10 : decode cX5_in 10 = .ok (.ifCond .gt 7, 3) := dc_at dkX5_in_b0 7 rfl
theorem dX5_in_13 : decode cX5_in 13 = .ok (.iconst 1, 1) := dc_at dkX5_in_b0 8 rfl
theorem dX5_in_14 : decode cX5_in 14 = .ok (.goto 4, 3) := dc_at dkX5_in_b0 9 rfl
def drX5_in_b1 : List (Nat × (Instr × Nat)) := [(17, (.iconst 0, 1)), (18, (.ireturn, 1))]
theorem dkX5_in_b1 : ((drX5_in_b1).all fun r => decide (decode cX5_in r.1 = .ok r.2)) = true := by decide +kernel
theorem dX5_in_17 : decode cX5_in 17 = .ok (.iconst 0, 1) := dc_at dkX5_in_b1 0 rfl
theorem dX5_in_18 : decode cX5_in 18 = .ok (.ireturn, 1) := dc_at dkX5_in_b1 1 rfl
def drX5_flag_b0 : List (Nat × (Instr × Nat)) := [(0, (.iload_n 0, 1)), (1, (.ifCond .eq 7, 3)), (4, (.iconst 1, 1)), (5, (.goto 4, 3)), (8, (.iconst 0, 1)), (9, (.ireturn, 1))]
theorem dkX5_flag_b0 : ((drX5_flag_b0).all fun r => decide (decode cX5_flag r.1 = .ok r.2)) = true := by decide +kernel
theorem dX5_flag_0 : decode cX5_flag 0 = .ok (.iload_n 0, 1) := dc_at dkX5_flag_b0 0 rfl
theorem dX5_flag_1 : decode cX5_flag 1 = .ok (.ifCond .eq 7, 3) := dc_at dkX5_flag_b0 1 rfl
theorem dX5_flag_4 : decode cX5_flag 4 = .ok (.iconst 1, 1) := dc_at dkX5_flag_b0 2 rfl
theorem dX5_flag_5 : decode cX5_flag 5 = .ok (.goto 4, 3) := dc_at dkX5_flag_b0 3 rfl
theorem dX5_flag_8 : decode cX5_flag 8 = .ok (.iconst 0, 1) := dc_at dkX5_flag_b0 4 rfl
theorem dX5_flag_9 : decode cX5_flag 9 = .ok (.ireturn, 1) := dc_at dkX5_flag_b0 5 rfl
def drX5_less_b0 : List (Nat × (Instr × Nat)) := [(0, (.iload_n 0, 1)), (1, (.iload_n 1, 1)), (2, (.if_icmp .ge 7, 3)), (5, (.iload_n 0, 1)), (6, (.goto 4, 3)), (9, (.iload_n 1, 1)), (10, (.ireturn, 1))]
theorem dkX5_less_b0 : ((drX5_less_b0).all fun r => decide (decode cX5_less r.1 = .ok r.2)) = true := by decide +kernel
theorem dX5_less_0 : decode cX5_less 0 = .ok (.iload_n 0, 1) := dc_at dkX5_less_b0 0 rfl
theorem dX5_less_1 : decode cX5_less 1 = .ok (.iload_n 1, 1) := dc_at dkX5_less_b0 1 rfl
theorem dX5_less_2 : decode cX5_less 2 = .ok (.if_icmp .ge 7, 3) := dc_at dkX5_less_b0 2 rfl
theorem dX5_less_5 : decode cX5_less 5 = .ok (.iload_n 0, 1) := dc_at dkX5_less_b0 3 rfl
theorem dX5_less_6 : decode cX5_less 6 = .ok (.goto 4, 3) := dc_at dkX5_less_b0 4 rfl
theorem dX5_less_9 : decode cX5_less 9 = .ok (.iload_n 1, 1) := dc_at dkX5_less_b0 5 rfl
theorem dX5_less_10 : decode cX5_less 10 = .ok (.ireturn, 1) := dc_at dkX5_less_b0 6 rfl
def drX5_odd_b0 : List (Nat × (Instr × Nat)) := [(0, (.iconst 0, 1)), (1, (.istore_n 1, 1)), (2, (.iconst 0, 1)), (3, (.istore_n 2, 1)), (4, (.iload_n 2, 1)), (5, (.bipush 9, 2)), (7, (.if_icmp .ge 17, 3)), (10, (.iload_n 1, 1)), (11, (.iload_n 0, 1)), (12, (.iload_n 2, 1))]
theorem dkX5_odd_b0 : ((drX5_odd_b0).all fun r => decide (decode cX5_odd r.1 = .ok r.2)) = true := by decide +kernel
theorem dX5_odd_0 : decode cX5_odd 0 = .ok (.iconst 0, 1) := dc_at dkX5_odd_b0 0 rfl
theorem dX5_odd_1 : decode cX5_odd 1 = .ok (.istore_n 1, 1) := dc_at dkX5_odd_b0 1 rfl
theorem dX5_odd_2 : decode cX5_odd 2 = .ok (.iconst 0, 1) := dc_at dkX5_odd_b0 2 rfl
theorem dX5_odd_3 : decode cX5_odd 3 = .ok (.istore_n 2, 1) := dc_at dkX5_odd_b0 3 rfl
theorem dX5_odd_4 : decode cX5_odd 4 = .ok (.iload_n 2, 1) := dc_at dkX5_odd_b0 4 rfl
theorem dX5_odd_5 : decode cX5_odd 5 = .ok (.bipush 9, 2) := dc_at dkX5_odd_b0 5 rfl
theorem dX5_odd_7 : decode cX5_odd 7 = .ok (.if_icmp .ge 17, 3) := dc_at dkX5_odd_b0 6 rfl
theorem dX5_odd_10 : decode cX5_odd 10 = .ok (.iload_n 1, 1) := dc_at dkX5_odd_b0 7 rfl
theorem dX5_odd_11 : decode cX5_odd 11 = .ok (.iload_n 0, 1) := dc_at dkX5_odd_b0 8 rfl
theorem dX5_odd_12 : decode cX5_odd 12 = .ok (.iload_n 2, 1) := dc_at dkX5_odd_b0 9 rfl
def drX5_odd_b1 : List (Nat × (Instr × Nat)) := [(13, (.ishr, 1)), (14, (.iconst 1, 1)), (15, (.iand, 1)), (16, (.iadd, 1)), (17, (.istore_n 1, 1)), (18, (.iinc 2 1, 3)), (21, (.goto (-17), 3)), (24, (.iload_n 1, 1)), (25, (.iconst 2, 1)), (26, (.irem, 1))]
theorem dkX5_odd_b1 : ((drX5_odd_b1).all fun r => decide (decode cX5_odd r.1 = .ok r.2)) = true := by decide +kernel
theorem dX5_odd_13 : decode cX5_odd 13 = .ok (.ishr, 1) := dc_at dkX5_odd_b1 0 rfl
theorem dX5_odd_14 : decode cX5_odd 14 = .ok (.iconst 1, 1) := dc_at dkX5_odd_b1 1 rfl
theorem dX5_odd_15 : decode cX5_odd 15 = .ok (.iand, 1) := dc_at dkX5_odd_b1 2 rfl
theorem dX5_odd_16 : decode cX5_odd 16 = .ok (.iadd, 1) := dc_at dkX5_odd_b1 3 rfl
theorem dX5_odd_17 : decode cX5_odd 17 = .ok (.istore_n 1, 1) := dc_at dkX5_odd_b1 4 rfl
theorem dX5_odd_18 : decode cX5_odd 18 = .ok (.iinc 2 1, 3) := dc_at dkX5_odd_b1 5 rfl
theorem dX5_odd_21 : decode cX5_odd 21 = .ok (.goto (-17), 3) := dc_at dkX5_odd_b1 6 rfl
theorem dX5_odd_24 : decode cX5_odd 24 = .ok (.iload_n 1, 1) := dc_at dkX5_odd_b1 7 rfl
theorem dX5_odd_25 : decode cX5_odd 25 = .ok (.iconst 2, 1) := dc_at dkX5_odd_b1 8 rfl
theorem dX5_odd_26 : decode cX5_odd 26 = .ok (.irem, 1) := dc_at dkX5_odd_b1 9 rfl
def drX5_odd_b2 : List (Nat × (Instr × Nat)) := [(27, (.ireturn, 1))]
theorem dkX5_odd_b2 : ((drX5_odd_b2).all fun r => decide (decode cX5_odd r.1 = .ok r.2)) = true := by decide +kernel
theorem dX5_odd_27 : decode cX5_odd 27 = .ok (.ireturn, 1) := dc_at dkX5_odd_b2 0 rfl
def drX5_firstDraft_b0 : List (Nat × (Instr × Nat)) := [(0, (.aload_n 0, 1)), (1, (.getfield 20, 3)), (4, (.iconst 0, 1)), (5, (.sipush 1000, 3)), (8, (.iastore, 1)), (9, (.aload_n 0, 1)), (10, (.getfield 20, 3)), (13, (.iconst 1, 1)), (14, (.bipush 20, 2)), (16, (.iastore, 1))]
theorem dkX5_firstDraft_b0 : ((drX5_firstDraft_b0).all fun r => decide (decode cX5_firstDraft r.1 = .ok r.2)) = true := by decide +kernel
theorem dX5_firstDraft_0 : decode cX5_firstDraft 0 = .ok (.aload_n 0, 1) := dc_at dkX5_firstDraft_b0 0 rfl
theorem dX5_firstDraft_1 : decode cX5_firstDraft 1 = .ok (.getfield 20, 3) := dc_at dkX5_firstDraft_b0 1 rfl
theorem dX5_firstDraft_4 : decode cX5_firstDraft 4 = .ok (.iconst 0, 1) := dc_at dkX5_firstDraft_b0 2 rfl
theorem dX5_firstDraft_5 : decode cX5_firstDraft 5 = .ok (.sipush 1000, 3) := dc_at dkX5_firstDraft_b0 3 rfl
theorem dX5_firstDraft_8 : decode cX5_firstDraft 8 = .ok (.iastore, 1) := dc_at dkX5_firstDraft_b0 4 rfl
theorem dX5_firstDraft_9 : decode cX5_firstDraft 9 = .ok (.aload_n 0, 1) := dc_at dkX5_firstDraft_b0 5 rfl
theorem dX5_firstDraft_10 : decode cX5_firstDraft 10 = .ok (.getfield 20, 3) := dc_at dkX5_firstDraft_b0 6 rfl
theorem dX5_firstDraft_13 : decode cX5_firstDraft 13 = .ok (.iconst 1, 1) := dc_at dkX5_firstDraft_b0 7 rfl
theorem dX5_firstDraft_14 : decode cX5_firstDraft 14 = .ok (.bipush 20, 2) := dc_at dkX5_firstDraft_b0 8 rfl
theorem dX5_firstDraft_16 : decode cX5_firstDraft 16 = .ok (.iastore, 1) := dc_at dkX5_firstDraft_b0 9 rfl
def drX5_firstDraft_b1 : List (Nat × (Instr × Nat)) := [(17, (.aload_n 0, 1)), (18, (.getfield 20, 3)), (21, (.iconst 2, 1)), (22, (.iconst 2, 1)), (23, (.iastore, 1)), (24, (.aload_n 0, 1)), (25, (.getfield 20, 3)), (28, (.iconst 3, 1)), (29, (.bipush 10, 2)), (31, (.iastore, 1))]
theorem dkX5_firstDraft_b1 : ((drX5_firstDraft_b1).all fun r => decide (decode cX5_firstDraft r.1 = .ok r.2)) = true := by decide +kernel
theorem dX5_firstDraft_17 : decode cX5_firstDraft 17 = .ok (.aload_n 0, 1) := dc_at dkX5_firstDraft_b1 0 rfl
theorem dX5_firstDraft_18 : decode cX5_firstDraft 18 = .ok (.getfield 20, 3) := dc_at dkX5_firstDraft_b1 1 rfl
theorem dX5_firstDraft_21 : decode cX5_firstDraft 21 = .ok (.iconst 2, 1) := dc_at dkX5_firstDraft_b1 2 rfl
theorem dX5_firstDraft_22 : decode cX5_firstDraft 22 = .ok (.iconst 2, 1) := dc_at dkX5_firstDraft_b1 3 rfl
theorem dX5_firstDraft_23 : decode cX5_firstDraft 23 = .ok (.iastore, 1) := dc_at dkX5_firstDraft_b1 4 rfl
theorem dX5_firstDraft_24 : decode cX5_firstDraft 24 = .ok (.aload_n 0, 1) := dc_at dkX5_firstDraft_b1 5 rfl
theorem dX5_firstDraft_25 : decode cX5_firstDraft 25 = .ok (.getfield 20, 3) := dc_at dkX5_firstDraft_b1 6 rfl
theorem dX5_firstDraft_28 : decode cX5_firstDraft 28 = .ok (.iconst 3, 1) := dc_at dkX5_firstDraft_b1 7 rfl
theorem dX5_firstDraft_29 : decode cX5_firstDraft 29 = .ok (.bipush 10, 2) := dc_at dkX5_firstDraft_b1 8 rfl
theorem dX5_firstDraft_31 : decode cX5_firstDraft 31 = .ok (.iastore, 1) := dc_at dkX5_firstDraft_b1 9 rfl
def drX5_firstDraft_b2 : List (Nat × (Instr × Nat)) := [(32, (.aload_n 0, 1)), (33, (.getfield 20, 3)), (36, (.iconst 4, 1)), (37, (.iconst 5, 1)), (38, (.iastore, 1)), (39, (.aload_n 0, 1)), (40, (.getfield 20, 3)), (43, (.iconst 5, 1)), (44, (.iconst 3, 1)), (45, (.iastore, 1))]
theorem dkX5_firstDraft_b2 : ((drX5_firstDraft_b2).all fun r => decide (decode cX5_firstDraft r.1 = .ok r.2)) = true := by decide +kernel
theorem dX5_firstDraft_32 : decode cX5_firstDraft 32 = .ok (.aload_n 0, 1) := dc_at dkX5_firstDraft_b2 0 rfl
theorem dX5_firstDraft_33 : decode cX5_firstDraft 33 = .ok (.getfield 20, 3) := dc_at dkX5_firstDraft_b2 1 rfl
theorem dX5_firstDraft_36 : decode cX5_firstDraft 36 = .ok (.iconst 4, 1) := dc_at dkX5_firstDraft_b2 2 rfl
theorem dX5_firstDraft_37 : decode cX5_firstDraft 37 = .ok (.iconst 5, 1) := dc_at dkX5_firstDraft_b2 3 rfl
theorem dX5_firstDraft_38 : decode cX5_firstDraft 38 = .ok (.iastore, 1) := dc_at dkX5_firstDraft_b2 4 rfl
theorem dX5_firstDraft_39 : decode cX5_firstDraft 39 = .ok (.aload_n 0, 1) := dc_at dkX5_firstDraft_b2 5 rfl
theorem dX5_firstDraft_40 : decode cX5_firstDraft 40 = .ok (.getfield 20, 3) := dc_at dkX5_firstDraft_b2 6 rfl
theorem dX5_firstDraft_43 : decode cX5_firstDraft 43 = .ok (.iconst 5, 1) := dc_at dkX5_firstDraft_b2 7 rfl
theorem dX5_firstDraft_44 : decode cX5_firstDraft 44 = .ok (.iconst 3, 1) := dc_at dkX5_firstDraft_b2 8 rfl
theorem dX5_firstDraft_45 : decode cX5_firstDraft 45 = .ok (.iastore, 1) := dc_at dkX5_firstDraft_b2 9 rfl
def drX5_firstDraft_b3 : List (Nat × (Instr × Nat)) := [(46, (.aload_n 0, 1)), (47, (.getfield 20, 3)), (50, (.bipush 6, 2)), (52, (.bipush 6, 2)), (54, (.iastore, 1)), (55, (.aload_n 0, 1)), (56, (.getfield 20, 3)), (59, (.bipush 7, 2)), (61, (.iconst 2, 1)), (62, (.iastore, 1))]
theorem dkX5_firstDraft_b3 : ((drX5_firstDraft_b3).all fun r => decide (decode cX5_firstDraft r.1 = .ok r.2)) = true := by decide +kernel
theorem dX5_firstDraft_46 : decode cX5_firstDraft 46 = .ok (.aload_n 0, 1) := dc_at dkX5_firstDraft_b3 0 rfl
theorem dX5_firstDraft_47 : decode cX5_firstDraft 47 = .ok (.getfield 20, 3) := dc_at dkX5_firstDraft_b3 1 rfl
theorem dX5_firstDraft_50 : decode cX5_firstDraft 50 = .ok (.bipush 6, 2) := dc_at dkX5_firstDraft_b3 2 rfl
theorem dX5_firstDraft_52 : decode cX5_firstDraft 52 = .ok (.bipush 6, 2) := dc_at dkX5_firstDraft_b3 3 rfl
theorem dX5_firstDraft_54 : decode cX5_firstDraft 54 = .ok (.iastore, 1) := dc_at dkX5_firstDraft_b3 4 rfl
theorem dX5_firstDraft_55 : decode cX5_firstDraft 55 = .ok (.aload_n 0, 1) := dc_at dkX5_firstDraft_b3 5 rfl
theorem dX5_firstDraft_56 : decode cX5_firstDraft 56 = .ok (.getfield 20, 3) := dc_at dkX5_firstDraft_b3 6 rfl
theorem dX5_firstDraft_59 : decode cX5_firstDraft 59 = .ok (.bipush 7, 2) := dc_at dkX5_firstDraft_b3 7 rfl
theorem dX5_firstDraft_61 : decode cX5_firstDraft 61 = .ok (.iconst 2, 1) := dc_at dkX5_firstDraft_b3 8 rfl
theorem dX5_firstDraft_62 : decode cX5_firstDraft 62 = .ok (.iastore, 1) := dc_at dkX5_firstDraft_b3 9 rfl
def drX5_firstDraft_b4 : List (Nat × (Instr × Nat)) := [(63, (.aload_n 0, 1)), (64, (.getfield 20, 3)), (67, (.bipush 8, 2)), (69, (.bipush 20, 2)), (71, (.iastore, 1)), (72, (.aload_n 0, 1)), (73, (.iconst 0, 1)), (74, (.putfield 59, 3)), (77, (.aload_n 0, 1)), (78, (.iconst 0, 1))]
theorem dkX5_firstDraft_b4 : ((drX5_firstDraft_b4).all fun r => decide (decode cX5_firstDraft r.1 = .ok r.2)) = true := by decide +kernel
theorem dX5_firstDraft_63 : decode cX5_firstDraft 63 = .ok (.aload_n 0, 1) := dc_at dkX5_firstDraft_b4 0 rfl
theorem dX5_firstDraft_64 : decode cX5_firstDraft 64 = .ok (.getfield 20, 3) := dc_at dkX5_firstDraft_b4 1 rfl
theorem dX5_firstDraft_67 : decode cX5_firstDraft 67 = .ok (.bipush 8, 2) := dc_at dkX5_firstDraft_b4 2 rfl
theorem dX5_firstDraft_69 : decode cX5_firstDraft 69 = .ok (.bipush 20, 2) := dc_at dkX5_firstDraft_b4 3 rfl
theorem dX5_firstDraft_71 : decode cX5_firstDraft 71 = .ok (.iastore, 1) := dc_at dkX5_firstDraft_b4 4 rfl
theorem dX5_firstDraft_72 : decode cX5_firstDraft 72 = .ok (.aload_n 0, 1) := dc_at dkX5_firstDraft_b4 5 rfl
theorem dX5_firstDraft_73 : decode cX5_firstDraft 73 = .ok (.iconst 0, 1) := dc_at dkX5_firstDraft_b4 6 rfl
theorem dX5_firstDraft_74 : decode cX5_firstDraft 74 = .ok (.putfield 59, 3) := dc_at dkX5_firstDraft_b4 7 rfl
theorem dX5_firstDraft_77 : decode cX5_firstDraft 77 = .ok (.aload_n 0, 1) := dc_at dkX5_firstDraft_b4 8 rfl
theorem dX5_firstDraft_78 : decode cX5_firstDraft 78 = .ok (.iconst 0, 1) := dc_at dkX5_firstDraft_b4 9 rfl
def drX5_firstDraft_b5 : List (Nat × (Instr × Nat)) := [(79, (.putfield 63, 3)), (82, (.return_, 1))]
theorem dkX5_firstDraft_b5 : ((drX5_firstDraft_b5).all fun r => decide (decode cX5_firstDraft r.1 = .ok r.2)) = true := by decide +kernel
theorem dX5_firstDraft_79 : decode cX5_firstDraft 79 = .ok (.putfield 63, 3) := dc_at dkX5_firstDraft_b5 0 rfl
theorem dX5_firstDraft_82 : decode cX5_firstDraft 82 = .ok (.return_, 1) := dc_at dkX5_firstDraft_b5 1 rfl
def drX5_longOf_b0 : List (Nat × (Instr × Nat)) := [(0, (.iload_n 1, 1)), (1, (.ifCond .ne 7, 3)), (4, (.iconst 1, 1)), (5, (.goto 20, 3)), (8, (.iload_n 1, 1)), (9, (.aload_n 0, 1)), (10, (.getfield 17, 3)), (13, (.bipush 7, 2)), (15, (.iaload, 1)), (16, (.iadd, 1))]
theorem dkX5_longOf_b0 : ((drX5_longOf_b0).all fun r => decide (decode cX5_longOf r.1 = .ok r.2)) = true := by decide +kernel
theorem dX5_longOf_0 : decode cX5_longOf 0 = .ok (.iload_n 1, 1) := dc_at dkX5_longOf_b0 0 rfl
theorem dX5_longOf_1 : decode cX5_longOf 1 = .ok (.ifCond .ne 7, 3) := dc_at dkX5_longOf_b0 1 rfl
theorem dX5_longOf_4 : decode cX5_longOf 4 = .ok (.iconst 1, 1) := dc_at dkX5_longOf_b0 2 rfl
theorem dX5_longOf_5 : decode cX5_longOf 5 = .ok (.goto 20, 3) := dc_at dkX5_longOf_b0 3 rfl
theorem dX5_longOf_8 : decode cX5_longOf 8 = .ok (.iload_n 1, 1) := dc_at dkX5_longOf_b0 4 rfl
theorem dX5_longOf_9 : decode cX5_longOf 9 = .ok (.aload_n 0, 1) := dc_at dkX5_longOf_b0 5 rfl
theorem dX5_longOf_10 : decode cX5_longOf 10 = .ok (.getfield 17, 3) := dc_at dkX5_longOf_b0 6 rfl
theorem dX5_longOf_13 : decode cX5_longOf 13 = .ok (.bipush 7, 2) := dc_at dkX5_longOf_b0 7 rfl
theorem dX5_longOf_15 : decode cX5_longOf 15 = .ok (.iaload, 1) := dc_at dkX5_longOf_b0 8 rfl
theorem dX5_longOf_16 : decode cX5_longOf 16 = .ok (.iadd, 1) := dc_at dkX5_longOf_b0 9 rfl
def drX5_longOf_b1 : List (Nat × (Instr × Nat)) := [(17, (.aload_n 0, 1)), (18, (.getfield 17, 3)), (21, (.bipush 7, 2)), (23, (.iaload, 1)), (24, (.idiv, 1)), (25, (.ireturn, 1))]
theorem dkX5_longOf_b1 : ((drX5_longOf_b1).all fun r => decide (decode cX5_longOf r.1 = .ok r.2)) = true := by decide +kernel
theorem dX5_longOf_17 : decode cX5_longOf 17 = .ok (.aload_n 0, 1) := dc_at dkX5_longOf_b1 0 rfl
theorem dX5_longOf_18 : decode cX5_longOf 18 = .ok (.getfield 17, 3) := dc_at dkX5_longOf_b1 1 rfl
theorem dX5_longOf_21 : decode cX5_longOf 21 = .ok (.bipush 7, 2) := dc_at dkX5_longOf_b1 2 rfl
theorem dX5_longOf_23 : decode cX5_longOf 23 = .ok (.iaload, 1) := dc_at dkX5_longOf_b1 3 rfl
theorem dX5_longOf_24 : decode cX5_longOf 24 = .ok (.idiv, 1) := dc_at dkX5_longOf_b1 4 rfl
theorem dX5_longOf_25 : decode cX5_longOf 25 = .ok (.ireturn, 1) := dc_at dkX5_longOf_b1 5 rfl
def drX5_draftEnd_b0 : List (Nat × (Instr × Nat)) := [(0, (.iconst 0, 1)), (1, (.istore_n 1, 1)), (2, (.iconst 0, 1)), (3, (.istore_n 2, 1)), (4, (.iload_n 2, 1)), (5, (.aload_n 0, 1)), (6, (.getfield 59, 3)), (9, (.if_icmp .ge 55, 3)), (12, (.iload_n 1, 1)), (13, (.aload_n 0, 1))]
theorem dkX5_draftEnd_b0 : ((drX5_draftEnd_b0).all fun r => decide (decode cX5_draftEnd r.1 = .ok r.2)) = true := by decide +kernel
theorem dX5_draftEnd_0 : decode cX5_draftEnd 0 = .ok (.iconst 0, 1) := dc_at dkX5_draftEnd_b0 0 rfl
theorem dX5_draftEnd_1 : decode cX5_draftEnd 1 = .ok (.istore_n 1, 1) := dc_at dkX5_draftEnd_b0 1 rfl
theorem dX5_draftEnd_2 : decode cX5_draftEnd 2 = .ok (.iconst 0, 1) := dc_at dkX5_draftEnd_b0 2 rfl
theorem dX5_draftEnd_3 : decode cX5_draftEnd 3 = .ok (.istore_n 2, 1) := dc_at dkX5_draftEnd_b0 3 rfl
theorem dX5_draftEnd_4 : decode cX5_draftEnd 4 = .ok (.iload_n 2, 1) := dc_at dkX5_draftEnd_b0 4 rfl
theorem dX5_draftEnd_5 : decode cX5_draftEnd 5 = .ok (.aload_n 0, 1) := dc_at dkX5_draftEnd_b0 5 rfl
theorem dX5_draftEnd_6 : decode cX5_draftEnd 6 = .ok (.getfield 59, 3) := dc_at dkX5_draftEnd_b0 6 rfl
theorem dX5_draftEnd_9 : decode cX5_draftEnd 9 = .ok (.if_icmp .ge 55, 3) := dc_at dkX5_draftEnd_b0 7 rfl
theorem dX5_draftEnd_12 : decode cX5_draftEnd 12 = .ok (.iload_n 1, 1) := dc_at dkX5_draftEnd_b0 8 rfl
theorem dX5_draftEnd_13 : decode cX5_draftEnd 13 = .ok (.aload_n 0, 1) := dc_at dkX5_draftEnd_b0 9 rfl
def drX5_draftEnd_b1 : List (Nat × (Instr × Nat)) := [(14, (.getfield 20, 3)), (17, (.bipush 6, 2)), (19, (.iaload, 1)), (20, (.aload_n 0, 1)), (21, (.getfield 23, 3)), (24, (.iload_n 2, 1)), (25, (.iaload, 1)), (26, (.ifCond .ne 7, 3)), (29, (.iconst 1, 1)), (30, (.goto 25, 3))]
theorem dkX5_draftEnd_b1 : ((drX5_draftEnd_b1).all fun r => decide (decode cX5_draftEnd r.1 = .ok r.2)) = true := by decide +kernel
theorem dX5_draftEnd_14 : decode cX5_draftEnd 14 = .ok (.getfield 20, 3) := dc_at dkX5_draftEnd_b1 0 rfl
theorem dX5_draftEnd_17 : decode cX5_draftEnd 17 = .ok (.bipush 6, 2) := dc_at dkX5_draftEnd_b1 1 rfl
theorem dX5_draftEnd_19 : decode cX5_draftEnd 19 = .ok (.iaload, 1) := dc_at dkX5_draftEnd_b1 2 rfl
theorem dX5_draftEnd_20 : decode cX5_draftEnd 20 = .ok (.aload_n 0, 1) := dc_at dkX5_draftEnd_b1 3 rfl
theorem dX5_draftEnd_21 : decode cX5_draftEnd 21 = .ok (.getfield 23, 3) := dc_at dkX5_draftEnd_b1 4 rfl
theorem dX5_draftEnd_24 : decode cX5_draftEnd 24 = .ok (.iload_n 2, 1) := dc_at dkX5_draftEnd_b1 5 rfl
theorem dX5_draftEnd_25 : decode cX5_draftEnd 25 = .ok (.iaload, 1) := dc_at dkX5_draftEnd_b1 6 rfl
theorem dX5_draftEnd_26 : decode cX5_draftEnd 26 = .ok (.ifCond .ne 7, 3) := dc_at dkX5_draftEnd_b1 7 rfl
theorem dX5_draftEnd_29 : decode cX5_draftEnd 29 = .ok (.iconst 1, 1) := dc_at dkX5_draftEnd_b1 8 rfl
theorem dX5_draftEnd_30 : decode cX5_draftEnd 30 = .ok (.goto 25, 3) := dc_at dkX5_draftEnd_b1 9 rfl
def drX5_draftEnd_b2 : List (Nat × (Instr × Nat)) := [(33, (.aload_n 0, 1)), (34, (.getfield 23, 3)), (37, (.iload_n 2, 1)), (38, (.iaload, 1)), (39, (.aload_n 0, 1)), (40, (.getfield 20, 3)), (43, (.bipush 7, 2)), (45, (.iaload, 1)), (46, (.iadd, 1)), (47, (.aload_n 0, 1))]
theorem dkX5_draftEnd_b2 : ((drX5_draftEnd_b2).all fun r => decide (decode cX5_draftEnd r.1 = .ok r.2)) = true := by decide +kernel
theorem dX5_draftEnd_33 : decode cX5_draftEnd 33 = .ok (.aload_n 0, 1) := dc_at dkX5_draftEnd_b2 0 rfl
theorem dX5_draftEnd_34 : decode cX5_draftEnd 34 = .ok (.getfield 23, 3) := dc_at dkX5_draftEnd_b2 1 rfl
theorem dX5_draftEnd_37 : decode cX5_draftEnd 37 = .ok (.iload_n 2, 1) := dc_at dkX5_draftEnd_b2 2 rfl
theorem dX5_draftEnd_38 : decode cX5_draftEnd 38 = .ok (.iaload, 1) := dc_at dkX5_draftEnd_b2 3 rfl
theorem dX5_draftEnd_39 : decode cX5_draftEnd 39 = .ok (.aload_n 0, 1) := dc_at dkX5_draftEnd_b2 4 rfl
theorem dX5_draftEnd_40 : decode cX5_draftEnd 40 = .ok (.getfield 20, 3) := dc_at dkX5_draftEnd_b2 5 rfl
theorem dX5_draftEnd_43 : decode cX5_draftEnd 43 = .ok (.bipush 7, 2) := dc_at dkX5_draftEnd_b2 6 rfl
theorem dX5_draftEnd_45 : decode cX5_draftEnd 45 = .ok (.iaload, 1) := dc_at dkX5_draftEnd_b2 7 rfl
theorem dX5_draftEnd_46 : decode cX5_draftEnd 46 = .ok (.iadd, 1) := dc_at dkX5_draftEnd_b2 8 rfl
theorem dX5_draftEnd_47 : decode cX5_draftEnd 47 = .ok (.aload_n 0, 1) := dc_at dkX5_draftEnd_b2 9 rfl
def drX5_draftEnd_b3 : List (Nat × (Instr × Nat)) := [(48, (.getfield 20, 3)), (51, (.bipush 7, 2)), (53, (.iaload, 1)), (54, (.idiv, 1)), (55, (.iadd, 1)), (56, (.iadd, 1)), (57, (.istore_n 1, 1)), (58, (.iinc 2 1, 3)), (61, (.goto (-57), 3)), (64, (.iload_n 1, 1))]
theorem dkX5_draftEnd_b3 : ((drX5_draftEnd_b3).all fun r => decide (decode cX5_draftEnd r.1 = .ok r.2)) = true := by decide +kernel
theorem dX5_draftEnd_48 : decode cX5_draftEnd 48 = .ok (.getfield 20, 3) := dc_at dkX5_draftEnd_b3 0 rfl
theorem dX5_draftEnd_51 : decode cX5_draftEnd 51 = .ok (.bipush 7, 2) := dc_at dkX5_draftEnd_b3 1 rfl
theorem dX5_draftEnd_53 : decode cX5_draftEnd 53 = .ok (.iaload, 1) := dc_at dkX5_draftEnd_b3 2 rfl
theorem dX5_draftEnd_54 : decode cX5_draftEnd 54 = .ok (.idiv, 1) := dc_at dkX5_draftEnd_b3 3 rfl
theorem dX5_draftEnd_55 : decode cX5_draftEnd 55 = .ok (.iadd, 1) := dc_at dkX5_draftEnd_b3 4 rfl
theorem dX5_draftEnd_56 : decode cX5_draftEnd 56 = .ok (.iadd, 1) := dc_at dkX5_draftEnd_b3 5 rfl
theorem dX5_draftEnd_57 : decode cX5_draftEnd 57 = .ok (.istore_n 1, 1) := dc_at dkX5_draftEnd_b3 6 rfl
theorem dX5_draftEnd_58 : decode cX5_draftEnd 58 = .ok (.iinc 2 1, 3) := dc_at dkX5_draftEnd_b3 7 rfl
theorem dX5_draftEnd_61 : decode cX5_draftEnd 61 = .ok (.goto (-57), 3) := dc_at dkX5_draftEnd_b3 8 rfl
theorem dX5_draftEnd_64 : decode cX5_draftEnd 64 = .ok (.iload_n 1, 1) := dc_at dkX5_draftEnd_b3 9 rfl
def drX5_draftEnd_b4 : List (Nat × (Instr × Nat)) := [(65, (.ireturn, 1))]
theorem dkX5_draftEnd_b4 : ((drX5_draftEnd_b4).all fun r => decide (decode cX5_draftEnd r.1 = .ok r.2)) = true := by decide +kernel
theorem dX5_draftEnd_65 : decode cX5_draftEnd 65 = .ok (.ireturn, 1) := dc_at dkX5_draftEnd_b4 0 rfl
def drX5_keepDraft_b0 : List (Nat × (Instr × Nat)) := [(0, (.iconst 0, 1)), (1, (.istore_n 1, 1)), (2, (.iload_n 1, 1)), (3, (.bipush 9, 2)), (5, (.if_icmp .ge 21, 3)), (8, (.aload_n 0, 1)), (9, (.getfield 17, 3)), (12, (.iload_n 1, 1)), (13, (.aload_n 0, 1)), (14, (.getfield 20, 3))]
theorem dkX5_keepDraft_b0 : ((drX5_keepDraft_b0).all fun r => decide (decode cX5_keepDraft r.1 = .ok r.2)) = true := by decide +kernel
theorem dX5_keepDraft_0 : decode cX5_keepDraft 0 = .ok (.iconst 0, 1) := dc_at dkX5_keepDraft_b0 0 rfl
theorem dX5_keepDraft_1 : decode cX5_keepDraft 1 = .ok (.istore_n 1, 1) := dc_at dkX5_keepDraft_b0 1 rfl
theorem dX5_keepDraft_2 : decode cX5_keepDraft 2 = .ok (.iload_n 1, 1) := dc_at dkX5_keepDraft_b0 2 rfl
theorem dX5_keepDraft_3 : decode cX5_keepDraft 3 = .ok (.bipush 9, 2) := dc_at dkX5_keepDraft_b0 3 rfl
theorem dX5_keepDraft_5 : decode cX5_keepDraft 5 = .ok (.if_icmp .ge 21, 3) := dc_at dkX5_keepDraft_b0 4 rfl
theorem dX5_keepDraft_8 : decode cX5_keepDraft 8 = .ok (.aload_n 0, 1) := dc_at dkX5_keepDraft_b0 5 rfl
theorem dX5_keepDraft_9 : decode cX5_keepDraft 9 = .ok (.getfield 17, 3) := dc_at dkX5_keepDraft_b0 6 rfl
theorem dX5_keepDraft_12 : decode cX5_keepDraft 12 = .ok (.iload_n 1, 1) := dc_at dkX5_keepDraft_b0 7 rfl
theorem dX5_keepDraft_13 : decode cX5_keepDraft 13 = .ok (.aload_n 0, 1) := dc_at dkX5_keepDraft_b0 8 rfl
theorem dX5_keepDraft_14 : decode cX5_keepDraft 14 = .ok (.getfield 20, 3) := dc_at dkX5_keepDraft_b0 9 rfl
def drX5_keepDraft_b1 : List (Nat × (Instr × Nat)) := [(17, (.iload_n 1, 1)), (18, (.iaload, 1)), (19, (.iastore, 1)), (20, (.iinc 1 1, 3)), (23, (.goto (-21), 3)), (26, (.iconst 0, 1)), (27, (.istore_n 1, 1)), (28, (.iload_n 1, 1)), (29, (.sipush 400, 3)), (32, (.if_icmp .ge 16, 3))]
theorem dkX5_keepDraft_b1 : ((drX5_keepDraft_b1).all fun r => decide (decode cX5_keepDraft r.1 = .ok r.2)) = true := by decide +kernel
theorem dX5_keepDraft_17 : decode cX5_keepDraft 17 = .ok (.iload_n 1, 1) := dc_at dkX5_keepDraft_b1 0 rfl
theorem dX5_keepDraft_18 : decode cX5_keepDraft 18 = .ok (.iaload, 1) := dc_at dkX5_keepDraft_b1 1 rfl
theorem dX5_keepDraft_19 : decode cX5_keepDraft 19 = .ok (.iastore, 1) := dc_at dkX5_keepDraft_b1 2 rfl
theorem dX5_keepDraft_20 : decode cX5_keepDraft 20 = .ok (.iinc 1 1, 3) := dc_at dkX5_keepDraft_b1 3 rfl
theorem dX5_keepDraft_23 : decode cX5_keepDraft 23 = .ok (.goto (-21), 3) := dc_at dkX5_keepDraft_b1 4 rfl
theorem dX5_keepDraft_26 : decode cX5_keepDraft 26 = .ok (.iconst 0, 1) := dc_at dkX5_keepDraft_b1 5 rfl
theorem dX5_keepDraft_27 : decode cX5_keepDraft 27 = .ok (.istore_n 1, 1) := dc_at dkX5_keepDraft_b1 6 rfl
theorem dX5_keepDraft_28 : decode cX5_keepDraft 28 = .ok (.iload_n 1, 1) := dc_at dkX5_keepDraft_b1 7 rfl
theorem dX5_keepDraft_29 : decode cX5_keepDraft 29 = .ok (.sipush 400, 3) := dc_at dkX5_keepDraft_b1 8 rfl
theorem dX5_keepDraft_32 : decode cX5_keepDraft 32 = .ok (.if_icmp .ge 16, 3) := dc_at dkX5_keepDraft_b1 9 rfl
def drX5_keepDraft_b2 : List (Nat × (Instr × Nat)) := [(35, (.aload_n 0, 1)), (36, (.getfield 7, 3)), (39, (.iload_n 1, 1)), (40, (.iconst 0, 1)), (41, (.iastore, 1)), (42, (.iinc 1 1, 3)), (45, (.goto (-17), 3)), (48, (.aload_n 0, 1)), (49, (.getfield 7, 3)), (52, (.sipush 340, 3))]
theorem dkX5_keepDraft_b2 : ((drX5_keepDraft_b2).all fun r => decide (decode cX5_keepDraft r.1 = .ok r.2)) = true := by decide +kernel
theorem dX5_keepDraft_35 : decode cX5_keepDraft 35 = .ok (.aload_n 0, 1) := dc_at dkX5_keepDraft_b2 0 rfl
theorem dX5_keepDraft_36 : decode cX5_keepDraft 36 = .ok (.getfield 7, 3) := dc_at dkX5_keepDraft_b2 1 rfl
theorem dX5_keepDraft_39 : decode cX5_keepDraft 39 = .ok (.iload_n 1, 1) := dc_at dkX5_keepDraft_b2 2 rfl
theorem dX5_keepDraft_40 : decode cX5_keepDraft 40 = .ok (.iconst 0, 1) := dc_at dkX5_keepDraft_b2 3 rfl
theorem dX5_keepDraft_41 : decode cX5_keepDraft 41 = .ok (.iastore, 1) := dc_at dkX5_keepDraft_b2 4 rfl
theorem dX5_keepDraft_42 : decode cX5_keepDraft 42 = .ok (.iinc 1 1, 3) := dc_at dkX5_keepDraft_b2 5 rfl
theorem dX5_keepDraft_45 : decode cX5_keepDraft 45 = .ok (.goto (-17), 3) := dc_at dkX5_keepDraft_b2 6 rfl
theorem dX5_keepDraft_48 : decode cX5_keepDraft 48 = .ok (.aload_n 0, 1) := dc_at dkX5_keepDraft_b2 7 rfl
theorem dX5_keepDraft_49 : decode cX5_keepDraft 49 = .ok (.getfield 7, 3) := dc_at dkX5_keepDraft_b2 8 rfl
theorem dX5_keepDraft_52 : decode cX5_keepDraft 52 = .ok (.sipush 340, 3) := dc_at dkX5_keepDraft_b2 9 rfl
def drX5_keepDraft_b3 : List (Nat × (Instr × Nat)) := [(55, (.bipush (-4), 2)), (57, (.iastore, 1)), (58, (.aload_n 0, 1)), (59, (.getfield 7, 3)), (62, (.sipush 366, 3)), (65, (.aload_n 0, 1)), (66, (.getfield 17, 3)), (69, (.iconst 0, 1)), (70, (.iaload, 1)), (71, (.iastore, 1))]
theorem dkX5_keepDraft_b3 : ((drX5_keepDraft_b3).all fun r => decide (decode cX5_keepDraft r.1 = .ok r.2)) = true := by decide +kernel
theorem dX5_keepDraft_55 : decode cX5_keepDraft 55 = .ok (.bipush (-4), 2) := dc_at dkX5_keepDraft_b3 0 rfl
theorem dX5_keepDraft_57 : decode cX5_keepDraft 57 = .ok (.iastore, 1) := dc_at dkX5_keepDraft_b3 1 rfl
theorem dX5_keepDraft_58 : decode cX5_keepDraft 58 = .ok (.aload_n 0, 1) := dc_at dkX5_keepDraft_b3 2 rfl
theorem dX5_keepDraft_59 : decode cX5_keepDraft 59 = .ok (.getfield 7, 3) := dc_at dkX5_keepDraft_b3 3 rfl
theorem dX5_keepDraft_62 : decode cX5_keepDraft 62 = .ok (.sipush 366, 3) := dc_at dkX5_keepDraft_b3 4 rfl
theorem dX5_keepDraft_65 : decode cX5_keepDraft 65 = .ok (.aload_n 0, 1) := dc_at dkX5_keepDraft_b3 5 rfl
theorem dX5_keepDraft_66 : decode cX5_keepDraft 66 = .ok (.getfield 17, 3) := dc_at dkX5_keepDraft_b3 6 rfl
theorem dX5_keepDraft_69 : decode cX5_keepDraft 69 = .ok (.iconst 0, 1) := dc_at dkX5_keepDraft_b3 7 rfl
theorem dX5_keepDraft_70 : decode cX5_keepDraft 70 = .ok (.iaload, 1) := dc_at dkX5_keepDraft_b3 8 rfl
theorem dX5_keepDraft_71 : decode cX5_keepDraft 71 = .ok (.iastore, 1) := dc_at dkX5_keepDraft_b3 9 rfl
def drX5_keepDraft_b4 : List (Nat × (Instr × Nat)) := [(72, (.aload_n 0, 1)), (73, (.getfield 13, 3)), (76, (.iconst 0, 1)), (77, (.iconst 0, 1)), (78, (.bastore, 1)), (79, (.aload_n 0, 1)), (80, (.getfield 13, 3)), (83, (.iconst 1, 1)), (84, (.iconst 0, 1)), (85, (.bastore, 1))]
theorem dkX5_keepDraft_b4 : ((drX5_keepDraft_b4).all fun r => decide (decode cX5_keepDraft r.1 = .ok r.2)) = true := by decide +kernel
theorem dX5_keepDraft_72 : decode cX5_keepDraft 72 = .ok (.aload_n 0, 1) := dc_at dkX5_keepDraft_b4 0 rfl
theorem dX5_keepDraft_73 : decode cX5_keepDraft 73 = .ok (.getfield 13, 3) := dc_at dkX5_keepDraft_b4 1 rfl
theorem dX5_keepDraft_76 : decode cX5_keepDraft 76 = .ok (.iconst 0, 1) := dc_at dkX5_keepDraft_b4 2 rfl
theorem dX5_keepDraft_77 : decode cX5_keepDraft 77 = .ok (.iconst 0, 1) := dc_at dkX5_keepDraft_b4 3 rfl
theorem dX5_keepDraft_78 : decode cX5_keepDraft 78 = .ok (.bastore, 1) := dc_at dkX5_keepDraft_b4 4 rfl
theorem dX5_keepDraft_79 : decode cX5_keepDraft 79 = .ok (.aload_n 0, 1) := dc_at dkX5_keepDraft_b4 5 rfl
theorem dX5_keepDraft_80 : decode cX5_keepDraft 80 = .ok (.getfield 13, 3) := dc_at dkX5_keepDraft_b4 6 rfl
theorem dX5_keepDraft_83 : decode cX5_keepDraft 83 = .ok (.iconst 1, 1) := dc_at dkX5_keepDraft_b4 7 rfl
theorem dX5_keepDraft_84 : decode cX5_keepDraft 84 = .ok (.iconst 0, 1) := dc_at dkX5_keepDraft_b4 8 rfl
theorem dX5_keepDraft_85 : decode cX5_keepDraft 85 = .ok (.bastore, 1) := dc_at dkX5_keepDraft_b4 9 rfl
def drX5_keepDraft_b5 : List (Nat × (Instr × Nat)) := [(86, (.iconst 0, 1)), (87, (.istore_n 1, 1)), (88, (.iload_n 1, 1)), (89, (.aload_n 0, 1)), (90, (.getfield 59, 3)), (93, (.if_icmp .ge 54, 3)), (96, (.iconst 0, 1)), (97, (.istore_n 2, 1)), (98, (.iload_n 2, 1)), (99, (.aload_n 0, 1))]
theorem dkX5_keepDraft_b5 : ((drX5_keepDraft_b5).all fun r => decide (decode cX5_keepDraft r.1 = .ok r.2)) = true := by decide +kernel
theorem dX5_keepDraft_86 : decode cX5_keepDraft 86 = .ok (.iconst 0, 1) := dc_at dkX5_keepDraft_b5 0 rfl
theorem dX5_keepDraft_87 : decode cX5_keepDraft 87 = .ok (.istore_n 1, 1) := dc_at dkX5_keepDraft_b5 1 rfl
theorem dX5_keepDraft_88 : decode cX5_keepDraft 88 = .ok (.iload_n 1, 1) := dc_at dkX5_keepDraft_b5 2 rfl
theorem dX5_keepDraft_89 : decode cX5_keepDraft 89 = .ok (.aload_n 0, 1) := dc_at dkX5_keepDraft_b5 3 rfl
theorem dX5_keepDraft_90 : decode cX5_keepDraft 90 = .ok (.getfield 59, 3) := dc_at dkX5_keepDraft_b5 4 rfl
theorem dX5_keepDraft_93 : decode cX5_keepDraft 93 = .ok (.if_icmp .ge 54, 3) := dc_at dkX5_keepDraft_b5 5 rfl
theorem dX5_keepDraft_96 : decode cX5_keepDraft 96 = .ok (.iconst 0, 1) := dc_at dkX5_keepDraft_b5 6 rfl
theorem dX5_keepDraft_97 : decode cX5_keepDraft 97 = .ok (.istore_n 2, 1) := dc_at dkX5_keepDraft_b5 7 rfl
theorem dX5_keepDraft_98 : decode cX5_keepDraft 98 = .ok (.iload_n 2, 1) := dc_at dkX5_keepDraft_b5 8 rfl
theorem dX5_keepDraft_99 : decode cX5_keepDraft 99 = .ok (.aload_n 0, 1) := dc_at dkX5_keepDraft_b5 9 rfl
def drX5_keepDraft_b6 : List (Nat × (Instr × Nat)) := [(100, (.getfield 23, 3)), (103, (.iload_n 1, 1)), (104, (.iaload, 1)), (105, (.if_icmp .ge 26, 3)), (108, (.aload_n 0, 1)), (109, (.getfield 32, 3)), (112, (.iload_n 2, 1)), (113, (.aload_n 0, 1)), (114, (.getfield 26, 3)), (117, (.bipush 12, 2))]
theorem dkX5_keepDraft_b6 : ((drX5_keepDraft_b6).all fun r => decide (decode cX5_keepDraft r.1 = .ok r.2)) = true := by decide +kernel
theorem dX5_keepDraft_100 : decode cX5_keepDraft 100 = .ok (.getfield 23, 3) := dc_at dkX5_keepDraft_b6 0 rfl
theorem dX5_keepDraft_103 : decode cX5_keepDraft 103 = .ok (.iload_n 1, 1) := dc_at dkX5_keepDraft_b6 1 rfl
theorem dX5_keepDraft_104 : decode cX5_keepDraft 104 = .ok (.iaload, 1) := dc_at dkX5_keepDraft_b6 2 rfl
theorem dX5_keepDraft_105 : decode cX5_keepDraft 105 = .ok (.if_icmp .ge 26, 3) := dc_at dkX5_keepDraft_b6 3 rfl
theorem dX5_keepDraft_108 : decode cX5_keepDraft 108 = .ok (.aload_n 0, 1) := dc_at dkX5_keepDraft_b6 4 rfl
theorem dX5_keepDraft_109 : decode cX5_keepDraft 109 = .ok (.getfield 32, 3) := dc_at dkX5_keepDraft_b6 5 rfl
theorem dX5_keepDraft_112 : decode cX5_keepDraft 112 = .ok (.iload_n 2, 1) := dc_at dkX5_keepDraft_b6 6 rfl
theorem dX5_keepDraft_113 : decode cX5_keepDraft 113 = .ok (.aload_n 0, 1) := dc_at dkX5_keepDraft_b6 7 rfl
theorem dX5_keepDraft_114 : decode cX5_keepDraft 114 = .ok (.getfield 26, 3) := dc_at dkX5_keepDraft_b6 8 rfl
theorem dX5_keepDraft_117 : decode cX5_keepDraft 117 = .ok (.bipush 12, 2) := dc_at dkX5_keepDraft_b6 9 rfl
def drX5_keepDraft_b7 : List (Nat × (Instr × Nat)) := [(119, (.iload_n 1, 1)), (120, (.imul, 1)), (121, (.iload_n 2, 1)), (122, (.iadd, 1)), (123, (.iaload, 1)), (124, (.iastore, 1)), (125, (.iinc 2 1, 3)), (128, (.goto (-30), 3)), (131, (.aload_n 0, 1)), (132, (.aload_n 0, 1))]
theorem dkX5_keepDraft_b7 : ((drX5_keepDraft_b7).all fun r => decide (decode cX5_keepDraft r.1 = .ok r.2)) = true := by decide +kernel
theorem dX5_keepDraft_119 : decode cX5_keepDraft 119 = .ok (.iload_n 1, 1) := dc_at dkX5_keepDraft_b7 0 rfl
theorem dX5_keepDraft_120 : decode cX5_keepDraft 120 = .ok (.imul, 1) := dc_at dkX5_keepDraft_b7 1 rfl
theorem dX5_keepDraft_121 : decode cX5_keepDraft 121 = .ok (.iload_n 2, 1) := dc_at dkX5_keepDraft_b7 2 rfl
theorem dX5_keepDraft_122 : decode cX5_keepDraft 122 = .ok (.iadd, 1) := dc_at dkX5_keepDraft_b7 3 rfl
theorem dX5_keepDraft_123 : decode cX5_keepDraft 123 = .ok (.iaload, 1) := dc_at dkX5_keepDraft_b7 4 rfl
theorem dX5_keepDraft_124 : decode cX5_keepDraft 124 = .ok (.iastore, 1) := dc_at dkX5_keepDraft_b7 5 rfl
theorem dX5_keepDraft_125 : decode cX5_keepDraft 125 = .ok (.iinc 2 1, 3) := dc_at dkX5_keepDraft_b7 6 rfl
theorem dX5_keepDraft_128 : decode cX5_keepDraft 128 = .ok (.goto (-30), 3) := dc_at dkX5_keepDraft_b7 7 rfl
theorem dX5_keepDraft_131 : decode cX5_keepDraft 131 = .ok (.aload_n 0, 1) := dc_at dkX5_keepDraft_b7 8 rfl
theorem dX5_keepDraft_132 : decode cX5_keepDraft 132 = .ok (.aload_n 0, 1) := dc_at dkX5_keepDraft_b7 9 rfl
def drX5_keepDraft_b8 : List (Nat × (Instr × Nat)) := [(133, (.getfield 23, 3)), (136, (.iload_n 1, 1)), (137, (.iaload, 1)), (138, (.invokevirtual 66, 3)), (141, (.iinc 1 1, 3)), (144, (.goto (-56), 3)), (147, (.return_, 1))]
theorem dkX5_keepDraft_b8 : ((drX5_keepDraft_b8).all fun r => decide (decode cX5_keepDraft r.1 = .ok r.2)) = true := by decide +kernel
theorem dX5_keepDraft_133 : decode cX5_keepDraft 133 = .ok (.getfield 23, 3) := dc_at dkX5_keepDraft_b8 0 rfl
theorem dX5_keepDraft_136 : decode cX5_keepDraft 136 = .ok (.iload_n 1, 1) := dc_at dkX5_keepDraft_b8 1 rfl
theorem dX5_keepDraft_137 : decode cX5_keepDraft 137 = .ok (.iaload, 1) := dc_at dkX5_keepDraft_b8 2 rfl
theorem dX5_keepDraft_138 : decode cX5_keepDraft 138 = .ok (.invokevirtual 66, 3) := dc_at dkX5_keepDraft_b8 3 rfl
theorem dX5_keepDraft_141 : decode cX5_keepDraft 141 = .ok (.iinc 1 1, 3) := dc_at dkX5_keepDraft_b8 4 rfl
theorem dX5_keepDraft_144 : decode cX5_keepDraft 144 = .ok (.goto (-56), 3) := dc_at dkX5_keepDraft_b8 5 rfl
theorem dX5_keepDraft_147 : decode cX5_keepDraft 147 = .ok (.return_, 1) := dc_at dkX5_keepDraft_b8 6 rfl
def drX5_feed_b0 : List (Nat × (Instr × Nat)) := [(0, (.aload_n 0, 1)), (1, (.getfield 70, 3)), (4, (.bipush 8, 2)), (6, (.iadd, 1)), (7, (.sipush 400, 3)), (10, (.if_icmp .le 6, 3)), (13, (.bipush (-3), 2)), (15, (.ireturn, 1)), (16, (.bipush 56, 2)), (18, (.istore_n 3, 1))]
theorem dkX5_feed_b0 : ((drX5_feed_b0).all fun r => decide (decode cX5_feed r.1 = .ok r.2)) = true := by decide +kernel
theorem dX5_feed_0 : decode cX5_feed 0 = .ok (.aload_n 0, 1) := dc_at dkX5_feed_b0 0 rfl
theorem dX5_feed_1 : decode cX5_feed 1 = .ok (.getfield 70, 3) := dc_at dkX5_feed_b0 1 rfl
theorem dX5_feed_4 : decode cX5_feed 4 = .ok (.bipush 8, 2) := dc_at dkX5_feed_b0 2 rfl
theorem dX5_feed_6 : decode cX5_feed 6 = .ok (.iadd, 1) := dc_at dkX5_feed_b0 3 rfl
theorem dX5_feed_7 : decode cX5_feed 7 = .ok (.sipush 400, 3) := dc_at dkX5_feed_b0 4 rfl
theorem dX5_feed_10 : decode cX5_feed 10 = .ok (.if_icmp .le 6, 3) := dc_at dkX5_feed_b0 5 rfl
theorem dX5_feed_13 : decode cX5_feed 13 = .ok (.bipush (-3), 2) := dc_at dkX5_feed_b0 6 rfl
theorem dX5_feed_15 : decode cX5_feed 15 = .ok (.ireturn, 1) := dc_at dkX5_feed_b0 7 rfl
theorem dX5_feed_16 : decode cX5_feed 16 = .ok (.bipush 56, 2) := dc_at dkX5_feed_b0 8 rfl
theorem dX5_feed_18 : decode cX5_feed 18 = .ok (.istore_n 3, 1) := dc_at dkX5_feed_b0 9 rfl
def drX5_feed_b1 : List (Nat × (Instr × Nat)) := [(19, (.iload_n 3, 1)), (20, (.ifCond .lt 36, 3)), (23, (.aload_n 0, 1)), (24, (.getfield 29, 3)), (27, (.aload_n 0, 1)), (28, (.getfield 70, 3)), (31, (.lload_n 1, 1)), (32, (.iload_n 3, 1)), (33, (.lshr, 1)), (34, (.ldc2_w 73, 3))]
theorem dkX5_feed_b1 : ((drX5_feed_b1).all fun r => decide (decode cX5_feed r.1 = .ok r.2)) = true := by decide +kernel
theorem dX5_feed_19 : decode cX5_feed 19 = .ok (.iload_n 3, 1) := dc_at dkX5_feed_b1 0 rfl
theorem dX5_feed_20 : decode cX5_feed 20 = .ok (.ifCond .lt 36, 3) := dc_at dkX5_feed_b1 1 rfl
theorem dX5_feed_23 : decode cX5_feed 23 = .ok (.aload_n 0, 1) := dc_at dkX5_feed_b1 2 rfl
theorem dX5_feed_24 : decode cX5_feed 24 = .ok (.getfield 29, 3) := dc_at dkX5_feed_b1 3 rfl
theorem dX5_feed_27 : decode cX5_feed 27 = .ok (.aload_n 0, 1) := dc_at dkX5_feed_b1 4 rfl
theorem dX5_feed_28 : decode cX5_feed 28 = .ok (.getfield 70, 3) := dc_at dkX5_feed_b1 5 rfl
theorem dX5_feed_31 : decode cX5_feed 31 = .ok (.lload_n 1, 1) := dc_at dkX5_feed_b1 6 rfl
theorem dX5_feed_32 : decode cX5_feed 32 = .ok (.iload_n 3, 1) := dc_at dkX5_feed_b1 7 rfl
theorem dX5_feed_33 : decode cX5_feed 33 = .ok (.lshr, 1) := dc_at dkX5_feed_b1 8 rfl
theorem dX5_feed_34 : decode cX5_feed 34 = .ok (.ldc2_w 73, 3) := dc_at dkX5_feed_b1 9 rfl
def drX5_feed_b2 : List (Nat × (Instr × Nat)) := [(37, (.land, 1)), (38, (.l2i, 1)), (39, (.iastore, 1)), (40, (.aload_n 0, 1)), (41, (.dup, 1)), (42, (.getfield 70, 3)), (45, (.iconst 1, 1)), (46, (.iadd, 1)), (47, (.putfield 70, 3)), (50, (.iinc 3 (-8), 3))]
theorem dkX5_feed_b2 : ((drX5_feed_b2).all fun r => decide (decode cX5_feed r.1 = .ok r.2)) = true := by decide +kernel
theorem dX5_feed_37 : decode cX5_feed 37 = .ok (.land, 1) := dc_at dkX5_feed_b2 0 rfl
theorem dX5_feed_38 : decode cX5_feed 38 = .ok (.l2i, 1) := dc_at dkX5_feed_b2 1 rfl
theorem dX5_feed_39 : decode cX5_feed 39 = .ok (.iastore, 1) := dc_at dkX5_feed_b2 2 rfl
theorem dX5_feed_40 : decode cX5_feed 40 = .ok (.aload_n 0, 1) := dc_at dkX5_feed_b2 3 rfl
theorem dX5_feed_41 : decode cX5_feed 41 = .ok (.dup, 1) := dc_at dkX5_feed_b2 4 rfl
theorem dX5_feed_42 : decode cX5_feed 42 = .ok (.getfield 70, 3) := dc_at dkX5_feed_b2 5 rfl
theorem dX5_feed_45 : decode cX5_feed 45 = .ok (.iconst 1, 1) := dc_at dkX5_feed_b2 6 rfl
theorem dX5_feed_46 : decode cX5_feed 46 = .ok (.iadd, 1) := dc_at dkX5_feed_b2 7 rfl
theorem dX5_feed_47 : decode cX5_feed 47 = .ok (.putfield 70, 3) := dc_at dkX5_feed_b2 8 rfl
theorem dX5_feed_50 : decode cX5_feed 50 = .ok (.iinc 3 (-8), 3) := dc_at dkX5_feed_b2 9 rfl
def drX5_feed_b3 : List (Nat × (Instr × Nat)) := [(53, (.goto (-34), 3)), (56, (.aload_n 0, 1)), (57, (.getfield 70, 3)), (60, (.ireturn, 1))]
theorem dkX5_feed_b3 : ((drX5_feed_b3).all fun r => decide (decode cX5_feed r.1 = .ok r.2)) = true := by decide +kernel
theorem dX5_feed_53 : decode cX5_feed 53 = .ok (.goto (-34), 3) := dc_at dkX5_feed_b3 0 rfl
theorem dX5_feed_56 : decode cX5_feed 56 = .ok (.aload_n 0, 1) := dc_at dkX5_feed_b3 1 rfl
theorem dX5_feed_57 : decode cX5_feed 57 = .ok (.getfield 70, 3) := dc_at dkX5_feed_b3 2 rfl
theorem dX5_feed_60 : decode cX5_feed 60 = .ok (.ireturn, 1) := dc_at dkX5_feed_b3 3 rfl
def drX5_end_b0 : List (Nat × (Instr × Nat)) := [(0, (.iload_n 1, 1)), (1, (.i2l, 1)), (2, (.lconst 0, 1)), (3, (.aload_n 0, 1)), (4, (.getfield 70, 3)), (7, (.i2l, 1)), (8, (.invokestatic 75, 3)), (11, (.ifCond .ne 5, 3)), (14, (.iconst (-1), 1)), (15, (.ireturn, 1))]
theorem dkX5_end_b0 : ((drX5_end_b0).all fun r => decide (decode cX5_end r.1 = .ok r.2)) = true := by decide +kernel
theorem dX5_end_0 : decode cX5_end 0 = .ok (.iload_n 1, 1) := dc_at dkX5_end_b0 0 rfl
theorem dX5_end_1 : decode cX5_end 1 = .ok (.i2l, 1) := dc_at dkX5_end_b0 1 rfl
theorem dX5_end_2 : decode cX5_end 2 = .ok (.lconst 0, 1) := dc_at dkX5_end_b0 2 rfl
theorem dX5_end_3 : decode cX5_end 3 = .ok (.aload_n 0, 1) := dc_at dkX5_end_b0 3 rfl
theorem dX5_end_4 : decode cX5_end 4 = .ok (.getfield 70, 3) := dc_at dkX5_end_b0 4 rfl
theorem dX5_end_7 : decode cX5_end 7 = .ok (.i2l, 1) := dc_at dkX5_end_b0 5 rfl
theorem dX5_end_8 : decode cX5_end 8 = .ok (.invokestatic 75, 3) := dc_at dkX5_end_b0 6 rfl
theorem dX5_end_11 : decode cX5_end 11 = .ok (.ifCond .ne 5, 3) := dc_at dkX5_end_b0 7 rfl
theorem dX5_end_14 : decode cX5_end 14 = .ok (.iconst (-1), 1) := dc_at dkX5_end_b0 8 rfl
theorem dX5_end_15 : decode cX5_end 15 = .ok (.ireturn, 1) := dc_at dkX5_end_b0 9 rfl
def drX5_end_b1 : List (Nat × (Instr × Nat)) := [(16, (.aload_n 0, 1)), (17, (.getfield 70, 3)), (20, (.istore_n 2, 1)), (21, (.aload_n 0, 1)), (22, (.iload_n 1, 1)), (23, (.putfield 70, 3)), (26, (.iload_n 2, 1)), (27, (.ireturn, 1))]
theorem dkX5_end_b1 : ((drX5_end_b1).all fun r => decide (decode cX5_end r.1 = .ok r.2)) = true := by decide +kernel
theorem dX5_end_16 : decode cX5_end 16 = .ok (.aload_n 0, 1) := dc_at dkX5_end_b1 0 rfl
theorem dX5_end_17 : decode cX5_end 17 = .ok (.getfield 70, 3) := dc_at dkX5_end_b1 1 rfl
theorem dX5_end_20 : decode cX5_end 20 = .ok (.istore_n 2, 1) := dc_at dkX5_end_b1 2 rfl
theorem dX5_end_21 : decode cX5_end 21 = .ok (.aload_n 0, 1) := dc_at dkX5_end_b1 3 rfl
theorem dX5_end_22 : decode cX5_end 22 = .ok (.iload_n 1, 1) := dc_at dkX5_end_b1 4 rfl
theorem dX5_end_23 : decode cX5_end 23 = .ok (.putfield 70, 3) := dc_at dkX5_end_b1 5 rfl
theorem dX5_end_26 : decode cX5_end 26 = .ok (.iload_n 2, 1) := dc_at dkX5_end_b1 6 rfl
theorem dX5_end_27 : decode cX5_end 27 = .ok (.ireturn, 1) := dc_at dkX5_end_b1 7 rfl
def drX5_needs_b0 : List (Nat × (Instr × Nat)) := [(0, (.iload_n 1, 1)), (1, (.ifCond .ne 23, 3)), (4, (.aload_n 0, 1)), (5, (.getfield 79, 3)), (8, (.ifCond .ne 16, 3)), (11, (.aload_n 0, 1)), (12, (.iload_n 2, 1)), (13, (.putfield 79, 3)), (16, (.aload_n 0, 1)), (17, (.aload_n 0, 1))]
theorem dkX5_needs_b0 : ((drX5_needs_b0).all fun r => decide (decode cX5_needs r.1 = .ok r.2)) = true := by decide +kernel
theorem dX5_needs_0 : decode cX5_needs 0 = .ok (.iload_n 1, 1) := dc_at dkX5_needs_b0 0 rfl
theorem dX5_needs_1 : decode cX5_needs 1 = .ok (.ifCond .ne 23, 3) := dc_at dkX5_needs_b0 1 rfl
theorem dX5_needs_4 : decode cX5_needs 4 = .ok (.aload_n 0, 1) := dc_at dkX5_needs_b0 2 rfl
theorem dX5_needs_5 : decode cX5_needs 5 = .ok (.getfield 79, 3) := dc_at dkX5_needs_b0 3 rfl
theorem dX5_needs_8 : decode cX5_needs 8 = .ok (.ifCond .ne 16, 3) := dc_at dkX5_needs_b0 4 rfl
theorem dX5_needs_11 : decode cX5_needs 11 = .ok (.aload_n 0, 1) := dc_at dkX5_needs_b0 5 rfl
theorem dX5_needs_12 : decode cX5_needs 12 = .ok (.iload_n 2, 1) := dc_at dkX5_needs_b0 6 rfl
theorem dX5_needs_13 : decode cX5_needs 13 = .ok (.putfield 79, 3) := dc_at dkX5_needs_b0 7 rfl
theorem dX5_needs_16 : decode cX5_needs 16 = .ok (.aload_n 0, 1) := dc_at dkX5_needs_b0 8 rfl
theorem dX5_needs_17 : decode cX5_needs 17 = .ok (.aload_n 0, 1) := dc_at dkX5_needs_b0 9 rfl
def drX5_needs_b1 : List (Nat × (Instr × Nat)) := [(18, (.getfield 82, 3)), (21, (.putfield 85, 3)), (24, (.return_, 1))]
theorem dkX5_needs_b1 : ((drX5_needs_b1).all fun r => decide (decode cX5_needs r.1 = .ok r.2)) = true := by decide +kernel
theorem dX5_needs_18 : decode cX5_needs 18 = .ok (.getfield 82, 3) := dc_at dkX5_needs_b1 0 rfl
theorem dX5_needs_21 : decode cX5_needs 21 = .ok (.putfield 85, 3) := dc_at dkX5_needs_b1 1 rfl
theorem dX5_needs_24 : decode cX5_needs 24 = .ok (.return_, 1) := dc_at dkX5_needs_b1 2 rfl
def drX5_look_b0 : List (Nat × (Instr × Nat)) := [(0, (.iload_n 1, 1)), (1, (.aload_n 0, 1)), (2, (.getfield 70, 3)), (5, (.if_icmp .ge 12, 3)), (8, (.aload_n 0, 1)), (9, (.getfield 29, 3)), (12, (.iload_n 1, 1)), (13, (.iaload, 1)), (14, (.goto 4, 3)), (17, (.iconst (-1), 1))]
theorem dkX5_look_b0 : ((drX5_look_b0).all fun r => decide (decode cX5_look r.1 = .ok r.2)) = true := by decide +kernel
theorem dX5_look_0 : decode cX5_look 0 = .ok (.iload_n 1, 1) := dc_at dkX5_look_b0 0 rfl
theorem dX5_look_1 : decode cX5_look 1 = .ok (.aload_n 0, 1) := dc_at dkX5_look_b0 1 rfl
theorem dX5_look_2 : decode cX5_look 2 = .ok (.getfield 70, 3) := dc_at dkX5_look_b0 2 rfl
theorem dX5_look_5 : decode cX5_look 5 = .ok (.if_icmp .ge 12, 3) := dc_at dkX5_look_b0 3 rfl
theorem dX5_look_8 : decode cX5_look 8 = .ok (.aload_n 0, 1) := dc_at dkX5_look_b0 4 rfl
theorem dX5_look_9 : decode cX5_look 9 = .ok (.getfield 29, 3) := dc_at dkX5_look_b0 5 rfl
theorem dX5_look_12 : decode cX5_look 12 = .ok (.iload_n 1, 1) := dc_at dkX5_look_b0 6 rfl
theorem dX5_look_13 : decode cX5_look 13 = .ok (.iaload, 1) := dc_at dkX5_look_b0 7 rfl
theorem dX5_look_14 : decode cX5_look 14 = .ok (.goto 4, 3) := dc_at dkX5_look_b0 8 rfl
theorem dX5_look_17 : decode cX5_look 17 = .ok (.iconst (-1), 1) := dc_at dkX5_look_b0 9 rfl
def drX5_look_b1 : List (Nat × (Instr × Nat)) := [(18, (.ireturn, 1))]
theorem dkX5_look_b1 : ((drX5_look_b1).all fun r => decide (decode cX5_look r.1 = .ok r.2)) = true := by decide +kernel
theorem dX5_look_18 : decode cX5_look 18 = .ok (.ireturn, 1) := dc_at dkX5_look_b1 0 rfl
def drX5_is_b0 : List (Nat × (Instr × Nat)) := [(0, (.aload_n 0, 1)), (1, (.getfield 88, 3)), (4, (.aload_n 0, 1)), (5, (.getfield 82, 3)), (8, (.isub, 1)), (9, (.iload_n 1, 1)), (10, (.if_icmp .ne 68, 3)), (13, (.aload_n 0, 1)), (14, (.aload_n 0, 1)), (15, (.getfield 82, 3))]
theorem dkX5_is_b0 : ((drX5_is_b0).all fun r => decide (decode cX5_is r.1 = .ok r.2)) = true := by decide +kernel
theorem dX5_is_0 : decode cX5_is 0 = .ok (.aload_n 0, 1) := dc_at dkX5_is_b0 0 rfl
theorem dX5_is_1 : decode cX5_is 1 = .ok (.getfield 88, 3) := dc_at dkX5_is_b0 1 rfl
theorem dX5_is_4 : decode cX5_is 4 = .ok (.aload_n 0, 1) := dc_at dkX5_is_b0 2 rfl
theorem dX5_is_5 : decode cX5_is 5 = .ok (.getfield 82, 3) := dc_at dkX5_is_b0 3 rfl
theorem dX5_is_8 : decode cX5_is 8 = .ok (.isub, 1) := dc_at dkX5_is_b0 4 rfl
theorem dX5_is_9 : decode cX5_is 9 = .ok (.iload_n 1, 1) := dc_at dkX5_is_b0 5 rfl
theorem dX5_is_10 : decode cX5_is 10 = .ok (.if_icmp .ne 68, 3) := dc_at dkX5_is_b0 6 rfl
theorem dX5_is_13 : decode cX5_is 13 = .ok (.aload_n 0, 1) := dc_at dkX5_is_b0 7 rfl
theorem dX5_is_14 : decode cX5_is 14 = .ok (.aload_n 0, 1) := dc_at dkX5_is_b0 8 rfl
theorem dX5_is_15 : decode cX5_is 15 = .ok (.getfield 82, 3) := dc_at dkX5_is_b0 9 rfl
def drX5_is_b1 : List (Nat × (Instr × Nat)) := [(18, (.invokevirtual 91, 3)), (21, (.iload_n 2, 1)), (22, (.if_icmp .ne 56, 3)), (25, (.aload_n 0, 1)), (26, (.aload_n 0, 1)), (27, (.getfield 82, 3)), (30, (.iconst 1, 1)), (31, (.iadd, 1)), (32, (.invokevirtual 91, 3)), (35, (.iload_n 3, 1))]
theorem dkX5_is_b1 : ((drX5_is_b1).all fun r => decide (decode cX5_is r.1 = .ok r.2)) = true := by decide +kernel
theorem dX5_is_18 : decode cX5_is 18 = .ok (.invokevirtual 91, 3) := dc_at dkX5_is_b1 0 rfl
theorem dX5_is_21 : decode cX5_is 21 = .ok (.iload_n 2, 1) := dc_at dkX5_is_b1 1 rfl
theorem dX5_is_22 : decode cX5_is 22 = .ok (.if_icmp .ne 56, 3) := dc_at dkX5_is_b1 2 rfl
theorem dX5_is_25 : decode cX5_is 25 = .ok (.aload_n 0, 1) := dc_at dkX5_is_b1 3 rfl
theorem dX5_is_26 : decode cX5_is 26 = .ok (.aload_n 0, 1) := dc_at dkX5_is_b1 4 rfl
theorem dX5_is_27 : decode cX5_is 27 = .ok (.getfield 82, 3) := dc_at dkX5_is_b1 5 rfl
theorem dX5_is_30 : decode cX5_is 30 = .ok (.iconst 1, 1) := dc_at dkX5_is_b1 6 rfl
theorem dX5_is_31 : decode cX5_is 31 = .ok (.iadd, 1) := dc_at dkX5_is_b1 7 rfl
theorem dX5_is_32 : decode cX5_is 32 = .ok (.invokevirtual 91, 3) := dc_at dkX5_is_b1 8 rfl
theorem dX5_is_35 : decode cX5_is 35 = .ok (.iload_n 3, 1) := dc_at dkX5_is_b1 9 rfl
def drX5_is_b2 : List (Nat × (Instr × Nat)) := [(36, (.if_icmp .ne 42, 3)), (39, (.aload_n 0, 1)), (40, (.aload_n 0, 1)), (41, (.getfield 82, 3)), (44, (.iconst 2, 1)), (45, (.iadd, 1)), (46, (.invokevirtual 91, 3)), (49, (.iload 4, 2)), (51, (.if_icmp .ne 27, 3)), (54, (.iload_n 1, 1))]
theorem dkX5_is_b2 : ((drX5_is_b2).all fun r => decide (decode cX5_is r.1 = .ok r.2)) = true := by decide +kernel
theorem dX5_is_36 : decode cX5_is 36 = .ok (.if_icmp .ne 42, 3) := dc_at dkX5_is_b2 0 rfl
theorem dX5_is_39 : decode cX5_is 39 = .ok (.aload_n 0, 1) := dc_at dkX5_is_b2 1 rfl
theorem dX5_is_40 : decode cX5_is 40 = .ok (.aload_n 0, 1) := dc_at dkX5_is_b2 2 rfl
theorem dX5_is_41 : decode cX5_is 41 = .ok (.getfield 82, 3) := dc_at dkX5_is_b2 3 rfl
theorem dX5_is_44 : decode cX5_is 44 = .ok (.iconst 2, 1) := dc_at dkX5_is_b2 4 rfl
theorem dX5_is_45 : decode cX5_is 45 = .ok (.iadd, 1) := dc_at dkX5_is_b2 5 rfl
theorem dX5_is_46 : decode cX5_is 46 = .ok (.invokevirtual 91, 3) := dc_at dkX5_is_b2 6 rfl
theorem dX5_is_49 : decode cX5_is 49 = .ok (.iload 4, 2) := dc_at dkX5_is_b2 7 rfl
theorem dX5_is_51 : decode cX5_is 51 = .ok (.if_icmp .ne 27, 3) := dc_at dkX5_is_b2 8 rfl
theorem dX5_is_54 : decode cX5_is 54 = .ok (.iload_n 1, 1) := dc_at dkX5_is_b2 9 rfl
def drX5_is_b3 : List (Nat × (Instr × Nat)) := [(55, (.iconst 4, 1)), (56, (.if_icmp .lt 18, 3)), (59, (.aload_n 0, 1)), (60, (.aload_n 0, 1)), (61, (.getfield 82, 3)), (64, (.iconst 3, 1)), (65, (.iadd, 1)), (66, (.invokevirtual 91, 3)), (69, (.iload 5, 2)), (71, (.if_icmp .ne 7, 3))]
theorem dkX5_is_b3 : ((drX5_is_b3).all fun r => decide (decode cX5_is r.1 = .ok r.2)) = true := by decide +kernel
theorem dX5_is_55 : decode cX5_is 55 = .ok (.iconst 4, 1) := dc_at dkX5_is_b3 0 rfl
theorem dX5_is_56 : decode cX5_is 56 = .ok (.if_icmp .lt 18, 3) := dc_at dkX5_is_b3 1 rfl
theorem dX5_is_59 : decode cX5_is 59 = .ok (.aload_n 0, 1) := dc_at dkX5_is_b3 2 rfl
theorem dX5_is_60 : decode cX5_is 60 = .ok (.aload_n 0, 1) := dc_at dkX5_is_b3 3 rfl
theorem dX5_is_61 : decode cX5_is 61 = .ok (.getfield 82, 3) := dc_at dkX5_is_b3 4 rfl
theorem dX5_is_64 : decode cX5_is 64 = .ok (.iconst 3, 1) := dc_at dkX5_is_b3 5 rfl
theorem dX5_is_65 : decode cX5_is 65 = .ok (.iadd, 1) := dc_at dkX5_is_b3 6 rfl
theorem dX5_is_66 : decode cX5_is 66 = .ok (.invokevirtual 91, 3) := dc_at dkX5_is_b3 7 rfl
theorem dX5_is_69 : decode cX5_is 69 = .ok (.iload 5, 2) := dc_at dkX5_is_b3 8 rfl
theorem dX5_is_71 : decode cX5_is 71 = .ok (.if_icmp .ne 7, 3) := dc_at dkX5_is_b3 9 rfl
def drX5_is_b4 : List (Nat × (Instr × Nat)) := [(74, (.iconst 1, 1)), (75, (.goto 4, 3)), (78, (.iconst 0, 1)), (79, (.ireturn, 1))]
theorem dkX5_is_b4 : ((drX5_is_b4).all fun r => decide (decode cX5_is r.1 = .ok r.2)) = true := by decide +kernel
theorem dX5_is_74 : decode cX5_is 74 = .ok (.iconst 1, 1) := dc_at dkX5_is_b4 0 rfl
theorem dX5_is_75 : decode cX5_is 75 = .ok (.goto 4, 3) := dc_at dkX5_is_b4 1 rfl
theorem dX5_is_78 : decode cX5_is 78 = .ok (.iconst 0, 1) := dc_at dkX5_is_b4 2 rfl
theorem dX5_is_79 : decode cX5_is 79 = .ok (.ireturn, 1) := dc_at dkX5_is_b4 3 rfl
def drX5_nameNow_b0 : List (Nat × (Instr × Nat)) := [(0, (.aload_n 0, 1)), (1, (.bipush 6, 2)), (3, (.bipush 108, 2)), (5, (.bipush 101, 2)), (7, (.bipush 110, 2)), (9, (.bipush 103, 2)), (11, (.invokevirtual 95, 3)), (14, (.ifCond .eq 35, 3)), (17, (.aload_n 0, 1)), (18, (.aload_n 0, 1))]
theorem dkX5_nameNow_b0 : ((drX5_nameNow_b0).all fun r => decide (decode cX5_nameNow r.1 = .ok r.2)) = true := by decide +kernel
theorem dX5_nameNow_0 : decode cX5_nameNow 0 = .ok (.aload_n 0, 1) := dc_at dkX5_nameNow_b0 0 rfl
theorem dX5_nameNow_1 : decode cX5_nameNow 1 = .ok (.bipush 6, 2) := dc_at dkX5_nameNow_b0 1 rfl
theorem dX5_nameNow_3 : decode cX5_nameNow 3 = .ok (.bipush 108, 2) := dc_at dkX5_nameNow_b0 2 rfl
theorem dX5_nameNow_5 : decode cX5_nameNow 5 = .ok (.bipush 101, 2) := dc_at dkX5_nameNow_b0 3 rfl
theorem dX5_nameNow_7 : decode cX5_nameNow 7 = .ok (.bipush 110, 2) := dc_at dkX5_nameNow_b0 4 rfl
theorem dX5_nameNow_9 : decode cX5_nameNow 9 = .ok (.bipush 103, 2) := dc_at dkX5_nameNow_b0 5 rfl
theorem dX5_nameNow_11 : decode cX5_nameNow 11 = .ok (.invokevirtual 95, 3) := dc_at dkX5_nameNow_b0 6 rfl
theorem dX5_nameNow_14 : decode cX5_nameNow 14 = .ok (.ifCond .eq 35, 3) := dc_at dkX5_nameNow_b0 7 rfl
theorem dX5_nameNow_17 : decode cX5_nameNow 17 = .ok (.aload_n 0, 1) := dc_at dkX5_nameNow_b0 8 rfl
theorem dX5_nameNow_18 : decode cX5_nameNow 18 = .ok (.aload_n 0, 1) := dc_at dkX5_nameNow_b0 9 rfl
def drX5_nameNow_b1 : List (Nat × (Instr × Nat)) := [(19, (.getfield 82, 3)), (22, (.iconst 4, 1)), (23, (.iadd, 1)), (24, (.invokevirtual 91, 3)), (27, (.bipush 116, 2)), (29, (.if_icmp .ne 20, 3)), (32, (.aload_n 0, 1)), (33, (.aload_n 0, 1)), (34, (.getfield 82, 3)), (37, (.iconst 5, 1))]
theorem dkX5_nameNow_b1 : ((drX5_nameNow_b1).all fun r => decide (decode cX5_nameNow r.1 = .ok r.2)) = true := by decide +kernel
theorem dX5_nameNow_19 : decode cX5_nameNow 19 = .ok (.getfield 82, 3) := dc_at dkX5_nameNow_b1 0 rfl
theorem dX5_nameNow_22 : decode cX5_nameNow 22 = .ok (.iconst 4, 1) := dc_at dkX5_nameNow_b1 1 rfl
theorem dX5_nameNow_23 : decode cX5_nameNow 23 = .ok (.iadd, 1) := dc_at dkX5_nameNow_b1 2 rfl
theorem dX5_nameNow_24 : decode cX5_nameNow 24 = .ok (.invokevirtual 91, 3) := dc_at dkX5_nameNow_b1 3 rfl
theorem dX5_nameNow_27 : decode cX5_nameNow 27 = .ok (.bipush 116, 2) := dc_at dkX5_nameNow_b1 4 rfl
theorem dX5_nameNow_29 : decode cX5_nameNow 29 = .ok (.if_icmp .ne 20, 3) := dc_at dkX5_nameNow_b1 5 rfl
theorem dX5_nameNow_32 : decode cX5_nameNow 32 = .ok (.aload_n 0, 1) := dc_at dkX5_nameNow_b1 6 rfl
theorem dX5_nameNow_33 : decode cX5_nameNow 33 = .ok (.aload_n 0, 1) := dc_at dkX5_nameNow_b1 7 rfl
theorem dX5_nameNow_34 : decode cX5_nameNow 34 = .ok (.getfield 82, 3) := dc_at dkX5_nameNow_b1 8 rfl
theorem dX5_nameNow_37 : decode cX5_nameNow 37 = .ok (.iconst 5, 1) := dc_at dkX5_nameNow_b1 9 rfl
def drX5_nameNow_b2 : List (Nat × (Instr × Nat)) := [(38, (.iadd, 1)), (39, (.invokevirtual 91, 3)), (42, (.bipush 104, 2)), (44, (.if_icmp .ne 5, 3)), (47, (.iconst 0, 1)), (48, (.ireturn, 1)), (49, (.aload_n 0, 1)), (50, (.iconst 3, 1)), (51, (.bipush 104, 2)), (53, (.bipush 117, 2))]
theorem dkX5_nameNow_b2 : ((drX5_nameNow_b2).all fun r => decide (decode cX5_nameNow r.1 = .ok r.2)) = true := by decide +kernel
theorem dX5_nameNow_38 : decode cX5_nameNow 38 = .ok (.iadd, 1) := dc_at dkX5_nameNow_b2 0 rfl
theorem dX5_nameNow_39 : decode cX5_nameNow 39 = .ok (.invokevirtual 91, 3) := dc_at dkX5_nameNow_b2 1 rfl
theorem dX5_nameNow_42 : decode cX5_nameNow 42 = .ok (.bipush 104, 2) := dc_at dkX5_nameNow_b2 2 rfl
theorem dX5_nameNow_44 : decode cX5_nameNow 44 = .ok (.if_icmp .ne 5, 3) := dc_at dkX5_nameNow_b2 3 rfl
theorem dX5_nameNow_47 : decode cX5_nameNow 47 = .ok (.iconst 0, 1) := dc_at dkX5_nameNow_b2 4 rfl
theorem dX5_nameNow_48 : decode cX5_nameNow 48 = .ok (.ireturn, 1) := dc_at dkX5_nameNow_b2 5 rfl
theorem dX5_nameNow_49 : decode cX5_nameNow 49 = .ok (.aload_n 0, 1) := dc_at dkX5_nameNow_b2 6 rfl
theorem dX5_nameNow_50 : decode cX5_nameNow 50 = .ok (.iconst 3, 1) := dc_at dkX5_nameNow_b2 7 rfl
theorem dX5_nameNow_51 : decode cX5_nameNow 51 = .ok (.bipush 104, 2) := dc_at dkX5_nameNow_b2 8 rfl
theorem dX5_nameNow_53 : decode cX5_nameNow 53 = .ok (.bipush 117, 2) := dc_at dkX5_nameNow_b2 9 rfl
def drX5_nameNow_b3 : List (Nat × (Instr × Nat)) := [(55, (.bipush 98, 2)), (57, (.iconst 0, 1)), (58, (.invokevirtual 95, 3)), (61, (.ifCond .eq 5, 3)), (64, (.iconst 1, 1)), (65, (.ireturn, 1)), (66, (.aload_n 0, 1)), (67, (.iconst 5, 1)), (68, (.bipush 116, 2)), (70, (.bipush 104, 2))]
theorem dkX5_nameNow_b3 : ((drX5_nameNow_b3).all fun r => decide (decode cX5_nameNow r.1 = .ok r.2)) = true := by decide +kernel
theorem dX5_nameNow_55 : decode cX5_nameNow 55 = .ok (.bipush 98, 2) := dc_at dkX5_nameNow_b3 0 rfl
theorem dX5_nameNow_57 : decode cX5_nameNow 57 = .ok (.iconst 0, 1) := dc_at dkX5_nameNow_b3 1 rfl
theorem dX5_nameNow_58 : decode cX5_nameNow 58 = .ok (.invokevirtual 95, 3) := dc_at dkX5_nameNow_b3 2 rfl
theorem dX5_nameNow_61 : decode cX5_nameNow 61 = .ok (.ifCond .eq 5, 3) := dc_at dkX5_nameNow_b3 3 rfl
theorem dX5_nameNow_64 : decode cX5_nameNow 64 = .ok (.iconst 1, 1) := dc_at dkX5_nameNow_b3 4 rfl
theorem dX5_nameNow_65 : decode cX5_nameNow 65 = .ok (.ireturn, 1) := dc_at dkX5_nameNow_b3 5 rfl
theorem dX5_nameNow_66 : decode cX5_nameNow 66 = .ok (.aload_n 0, 1) := dc_at dkX5_nameNow_b3 6 rfl
theorem dX5_nameNow_67 : decode cX5_nameNow 67 = .ok (.iconst 5, 1) := dc_at dkX5_nameNow_b3 7 rfl
theorem dX5_nameNow_68 : decode cX5_nameNow 68 = .ok (.bipush 116, 2) := dc_at dkX5_nameNow_b3 8 rfl
theorem dX5_nameNow_70 : decode cX5_nameNow 70 = .ok (.bipush 104, 2) := dc_at dkX5_nameNow_b3 9 rfl
def drX5_nameNow_b4 : List (Nat × (Instr × Nat)) := [(72, (.bipush 105, 2)), (74, (.bipush 99, 2)), (76, (.invokevirtual 95, 3)), (79, (.ifCond .eq 20, 3)), (82, (.aload_n 0, 1)), (83, (.aload_n 0, 1)), (84, (.getfield 82, 3)), (87, (.iconst 4, 1)), (88, (.iadd, 1)), (89, (.invokevirtual 91, 3))]
theorem dkX5_nameNow_b4 : ((drX5_nameNow_b4).all fun r => decide (decode cX5_nameNow r.1 = .ok r.2)) = true := by decide +kernel
theorem dX5_nameNow_72 : decode cX5_nameNow 72 = .ok (.bipush 105, 2) := dc_at dkX5_nameNow_b4 0 rfl
theorem dX5_nameNow_74 : decode cX5_nameNow 74 = .ok (.bipush 99, 2) := dc_at dkX5_nameNow_b4 1 rfl
theorem dX5_nameNow_76 : decode cX5_nameNow 76 = .ok (.invokevirtual 95, 3) := dc_at dkX5_nameNow_b4 2 rfl
theorem dX5_nameNow_79 : decode cX5_nameNow 79 = .ok (.ifCond .eq 20, 3) := dc_at dkX5_nameNow_b4 3 rfl
theorem dX5_nameNow_82 : decode cX5_nameNow 82 = .ok (.aload_n 0, 1) := dc_at dkX5_nameNow_b4 4 rfl
theorem dX5_nameNow_83 : decode cX5_nameNow 83 = .ok (.aload_n 0, 1) := dc_at dkX5_nameNow_b4 5 rfl
theorem dX5_nameNow_84 : decode cX5_nameNow 84 = .ok (.getfield 82, 3) := dc_at dkX5_nameNow_b4 6 rfl
theorem dX5_nameNow_87 : decode cX5_nameNow 87 = .ok (.iconst 4, 1) := dc_at dkX5_nameNow_b4 7 rfl
theorem dX5_nameNow_88 : decode cX5_nameNow 88 = .ok (.iadd, 1) := dc_at dkX5_nameNow_b4 8 rfl
theorem dX5_nameNow_89 : decode cX5_nameNow 89 = .ok (.invokevirtual 91, 3) := dc_at dkX5_nameNow_b4 9 rfl
def drX5_nameNow_b5 : List (Nat × (Instr × Nat)) := [(92, (.bipush 107, 2)), (94, (.if_icmp .ne 5, 3)), (97, (.iconst 2, 1)), (98, (.ireturn, 1)), (99, (.aload_n 0, 1)), (100, (.iconst 4, 1)), (101, (.bipush 112, 2)), (103, (.bipush 108, 2)), (105, (.bipush 97, 2)), (107, (.bipush 121, 2))]
theorem dkX5_nameNow_b5 : ((drX5_nameNow_b5).all fun r => decide (decode cX5_nameNow r.1 = .ok r.2)) = true := by decide +kernel
theorem dX5_nameNow_92 : decode cX5_nameNow 92 = .ok (.bipush 107, 2) := dc_at dkX5_nameNow_b5 0 rfl
theorem dX5_nameNow_94 : decode cX5_nameNow 94 = .ok (.if_icmp .ne 5, 3) := dc_at dkX5_nameNow_b5 1 rfl
theorem dX5_nameNow_97 : decode cX5_nameNow 97 = .ok (.iconst 2, 1) := dc_at dkX5_nameNow_b5 2 rfl
theorem dX5_nameNow_98 : decode cX5_nameNow 98 = .ok (.ireturn, 1) := dc_at dkX5_nameNow_b5 3 rfl
theorem dX5_nameNow_99 : decode cX5_nameNow 99 = .ok (.aload_n 0, 1) := dc_at dkX5_nameNow_b5 4 rfl
theorem dX5_nameNow_100 : decode cX5_nameNow 100 = .ok (.iconst 4, 1) := dc_at dkX5_nameNow_b5 5 rfl
theorem dX5_nameNow_101 : decode cX5_nameNow 101 = .ok (.bipush 112, 2) := dc_at dkX5_nameNow_b5 6 rfl
theorem dX5_nameNow_103 : decode cX5_nameNow 103 = .ok (.bipush 108, 2) := dc_at dkX5_nameNow_b5 7 rfl
theorem dX5_nameNow_105 : decode cX5_nameNow 105 = .ok (.bipush 97, 2) := dc_at dkX5_nameNow_b5 8 rfl
theorem dX5_nameNow_107 : decode cX5_nameNow 107 = .ok (.bipush 121, 2) := dc_at dkX5_nameNow_b5 9 rfl
def drX5_nameNow_b6 : List (Nat × (Instr × Nat)) := [(109, (.invokevirtual 95, 3)), (112, (.ifCond .eq 5, 3)), (115, (.iconst 3, 1)), (116, (.ireturn, 1)), (117, (.aload_n 0, 1)), (118, (.iconst 4, 1)), (119, (.bipush 119, 2)), (121, (.bipush 105, 2)), (123, (.bipush 110, 2)), (125, (.bipush 100, 2))]
theorem dkX5_nameNow_b6 : ((drX5_nameNow_b6).all fun r => decide (decode cX5_nameNow r.1 = .ok r.2)) = true := by decide +kernel
theorem dX5_nameNow_109 : decode cX5_nameNow 109 = .ok (.invokevirtual 95, 3) := dc_at dkX5_nameNow_b6 0 rfl
theorem dX5_nameNow_112 : decode cX5_nameNow 112 = .ok (.ifCond .eq 5, 3) := dc_at dkX5_nameNow_b6 1 rfl
theorem dX5_nameNow_115 : decode cX5_nameNow 115 = .ok (.iconst 3, 1) := dc_at dkX5_nameNow_b6 2 rfl
theorem dX5_nameNow_116 : decode cX5_nameNow 116 = .ok (.ireturn, 1) := dc_at dkX5_nameNow_b6 3 rfl
theorem dX5_nameNow_117 : decode cX5_nameNow 117 = .ok (.aload_n 0, 1) := dc_at dkX5_nameNow_b6 4 rfl
theorem dX5_nameNow_118 : decode cX5_nameNow 118 = .ok (.iconst 4, 1) := dc_at dkX5_nameNow_b6 5 rfl
theorem dX5_nameNow_119 : decode cX5_nameNow 119 = .ok (.bipush 119, 2) := dc_at dkX5_nameNow_b6 6 rfl
theorem dX5_nameNow_121 : decode cX5_nameNow 121 = .ok (.bipush 105, 2) := dc_at dkX5_nameNow_b6 7 rfl
theorem dX5_nameNow_123 : decode cX5_nameNow 123 = .ok (.bipush 110, 2) := dc_at dkX5_nameNow_b6 8 rfl
theorem dX5_nameNow_125 : decode cX5_nameNow 125 = .ok (.bipush 100, 2) := dc_at dkX5_nameNow_b6 9 rfl
def drX5_nameNow_b7 : List (Nat × (Instr × Nat)) := [(127, (.invokevirtual 95, 3)), (130, (.ifCond .eq 5, 3)), (133, (.iconst 4, 1)), (134, (.ireturn, 1)), (135, (.aload_n 0, 1)), (136, (.iconst 4, 1)), (137, (.bipush 114, 2)), (139, (.bipush 97, 2)), (141, (.bipush 109, 2)), (143, (.bipush 112, 2))]
theorem dkX5_nameNow_b7 : ((drX5_nameNow_b7).all fun r => decide (decode cX5_nameNow r.1 = .ok r.2)) = true := by decide +kernel
theorem dX5_nameNow_127 : decode cX5_nameNow 127 = .ok (.invokevirtual 95, 3) := dc_at dkX5_nameNow_b7 0 rfl
theorem dX5_nameNow_130 : decode cX5_nameNow 130 = .ok (.ifCond .eq 5, 3) := dc_at dkX5_nameNow_b7 1 rfl
theorem dX5_nameNow_133 : decode cX5_nameNow 133 = .ok (.iconst 4, 1) := dc_at dkX5_nameNow_b7 2 rfl
theorem dX5_nameNow_134 : decode cX5_nameNow 134 = .ok (.ireturn, 1) := dc_at dkX5_nameNow_b7 3 rfl
theorem dX5_nameNow_135 : decode cX5_nameNow 135 = .ok (.aload_n 0, 1) := dc_at dkX5_nameNow_b7 4 rfl
theorem dX5_nameNow_136 : decode cX5_nameNow 136 = .ok (.iconst 4, 1) := dc_at dkX5_nameNow_b7 5 rfl
theorem dX5_nameNow_137 : decode cX5_nameNow 137 = .ok (.bipush 114, 2) := dc_at dkX5_nameNow_b7 6 rfl
theorem dX5_nameNow_139 : decode cX5_nameNow 139 = .ok (.bipush 97, 2) := dc_at dkX5_nameNow_b7 7 rfl
theorem dX5_nameNow_141 : decode cX5_nameNow 141 = .ok (.bipush 109, 2) := dc_at dkX5_nameNow_b7 8 rfl
theorem dX5_nameNow_143 : decode cX5_nameNow 143 = .ok (.bipush 112, 2) := dc_at dkX5_nameNow_b7 9 rfl
def drX5_nameNow_b8 : List (Nat × (Instr × Nat)) := [(145, (.invokevirtual 95, 3)), (148, (.ifCond .eq 5, 3)), (151, (.iconst 5, 1)), (152, (.ireturn, 1)), (153, (.aload_n 0, 1)), (154, (.iconst 3, 1)), (155, (.bipush 103, 2)), (157, (.bipush 97, 2)), (159, (.bipush 112, 2)), (161, (.iconst 0, 1))]
theorem dkX5_nameNow_b8 : ((drX5_nameNow_b8).all fun r => decide (decode cX5_nameNow r.1 = .ok r.2)) = true := by decide +kernel
theorem dX5_nameNow_145 : decode cX5_nameNow 145 = .ok (.invokevirtual 95, 3) := dc_at dkX5_nameNow_b8 0 rfl
theorem dX5_nameNow_148 : decode cX5_nameNow 148 = .ok (.ifCond .eq 5, 3) := dc_at dkX5_nameNow_b8 1 rfl
theorem dX5_nameNow_151 : decode cX5_nameNow 151 = .ok (.iconst 5, 1) := dc_at dkX5_nameNow_b8 2 rfl
theorem dX5_nameNow_152 : decode cX5_nameNow 152 = .ok (.ireturn, 1) := dc_at dkX5_nameNow_b8 3 rfl
theorem dX5_nameNow_153 : decode cX5_nameNow 153 = .ok (.aload_n 0, 1) := dc_at dkX5_nameNow_b8 4 rfl
theorem dX5_nameNow_154 : decode cX5_nameNow 154 = .ok (.iconst 3, 1) := dc_at dkX5_nameNow_b8 5 rfl
theorem dX5_nameNow_155 : decode cX5_nameNow 155 = .ok (.bipush 103, 2) := dc_at dkX5_nameNow_b8 6 rfl
theorem dX5_nameNow_157 : decode cX5_nameNow 157 = .ok (.bipush 97, 2) := dc_at dkX5_nameNow_b8 7 rfl
theorem dX5_nameNow_159 : decode cX5_nameNow 159 = .ok (.bipush 112, 2) := dc_at dkX5_nameNow_b8 8 rfl
theorem dX5_nameNow_161 : decode cX5_nameNow 161 = .ok (.iconst 0, 1) := dc_at dkX5_nameNow_b8 9 rfl
def drX5_nameNow_b9 : List (Nat × (Instr × Nat)) := [(162, (.invokevirtual 95, 3)), (165, (.ifCond .eq 6, 3)), (168, (.bipush 6, 2)), (170, (.ireturn, 1)), (171, (.aload_n 0, 1)), (172, (.iconst 5, 1)), (173, (.bipush 100, 2)), (175, (.bipush 101, 2)), (177, (.bipush 110, 2)), (179, (.bipush 115, 2))]
theorem dkX5_nameNow_b9 : ((drX5_nameNow_b9).all fun r => decide (decode cX5_nameNow r.1 = .ok r.2)) = true := by decide +kernel
theorem dX5_nameNow_162 : decode cX5_nameNow 162 = .ok (.invokevirtual 95, 3) := dc_at dkX5_nameNow_b9 0 rfl
theorem dX5_nameNow_165 : decode cX5_nameNow 165 = .ok (.ifCond .eq 6, 3) := dc_at dkX5_nameNow_b9 1 rfl
theorem dX5_nameNow_168 : decode cX5_nameNow 168 = .ok (.bipush 6, 2) := dc_at dkX5_nameNow_b9 2 rfl
theorem dX5_nameNow_170 : decode cX5_nameNow 170 = .ok (.ireturn, 1) := dc_at dkX5_nameNow_b9 3 rfl
theorem dX5_nameNow_171 : decode cX5_nameNow 171 = .ok (.aload_n 0, 1) := dc_at dkX5_nameNow_b9 4 rfl
theorem dX5_nameNow_172 : decode cX5_nameNow 172 = .ok (.iconst 5, 1) := dc_at dkX5_nameNow_b9 5 rfl
theorem dX5_nameNow_173 : decode cX5_nameNow 173 = .ok (.bipush 100, 2) := dc_at dkX5_nameNow_b9 6 rfl
theorem dX5_nameNow_175 : decode cX5_nameNow 175 = .ok (.bipush 101, 2) := dc_at dkX5_nameNow_b9 7 rfl
theorem dX5_nameNow_177 : decode cX5_nameNow 177 = .ok (.bipush 110, 2) := dc_at dkX5_nameNow_b9 8 rfl
theorem dX5_nameNow_179 : decode cX5_nameNow 179 = .ok (.bipush 115, 2) := dc_at dkX5_nameNow_b9 9 rfl
def drX5_nameNow_b10 : List (Nat × (Instr × Nat)) := [(181, (.invokevirtual 95, 3)), (184, (.ifCond .eq 21, 3)), (187, (.aload_n 0, 1)), (188, (.aload_n 0, 1)), (189, (.getfield 82, 3)), (192, (.iconst 4, 1)), (193, (.iadd, 1)), (194, (.invokevirtual 91, 3)), (197, (.bipush 101, 2)), (199, (.if_icmp .ne 6, 3))]
theorem dkX5_nameNow_b10 : ((drX5_nameNow_b10).all fun r => decide (decode cX5_nameNow r.1 = .ok r.2)) = true := by decide +kernel
theorem dX5_nameNow_181 : decode cX5_nameNow 181 = .ok (.invokevirtual 95, 3) := dc_at dkX5_nameNow_b10 0 rfl
theorem dX5_nameNow_184 : decode cX5_nameNow 184 = .ok (.ifCond .eq 21, 3) := dc_at dkX5_nameNow_b10 1 rfl
theorem dX5_nameNow_187 : decode cX5_nameNow 187 = .ok (.aload_n 0, 1) := dc_at dkX5_nameNow_b10 2 rfl
theorem dX5_nameNow_188 : decode cX5_nameNow 188 = .ok (.aload_n 0, 1) := dc_at dkX5_nameNow_b10 3 rfl
theorem dX5_nameNow_189 : decode cX5_nameNow 189 = .ok (.getfield 82, 3) := dc_at dkX5_nameNow_b10 4 rfl
theorem dX5_nameNow_192 : decode cX5_nameNow 192 = .ok (.iconst 4, 1) := dc_at dkX5_nameNow_b10 5 rfl
theorem dX5_nameNow_193 : decode cX5_nameNow 193 = .ok (.iadd, 1) := dc_at dkX5_nameNow_b10 6 rfl
theorem dX5_nameNow_194 : decode cX5_nameNow 194 = .ok (.invokevirtual 91, 3) := dc_at dkX5_nameNow_b10 7 rfl
theorem dX5_nameNow_197 : decode cX5_nameNow 197 = .ok (.bipush 101, 2) := dc_at dkX5_nameNow_b10 8 rfl
theorem dX5_nameNow_199 : decode cX5_nameNow 199 = .ok (.if_icmp .ne 6, 3) := dc_at dkX5_nameNow_b10 9 rfl
def drX5_nameNow_b11 : List (Nat × (Instr × Nat)) := [(202, (.bipush 7, 2)), (204, (.ireturn, 1)), (205, (.aload_n 0, 1)), (206, (.iconst 5, 1)), (207, (.bipush 104, 2)), (209, (.bipush 105, 2)), (211, (.bipush 116, 2)), (213, (.bipush 99, 2)), (215, (.invokevirtual 95, 3)), (218, (.ifCond .eq 21, 3))]
theorem dkX5_nameNow_b11 : ((drX5_nameNow_b11).all fun r => decide (decode cX5_nameNow r.1 = .ok r.2)) = true := by decide +kernel
theorem dX5_nameNow_202 : decode cX5_nameNow 202 = .ok (.bipush 7, 2) := dc_at dkX5_nameNow_b11 0 rfl
theorem dX5_nameNow_204 : decode cX5_nameNow 204 = .ok (.ireturn, 1) := dc_at dkX5_nameNow_b11 1 rfl
theorem dX5_nameNow_205 : decode cX5_nameNow 205 = .ok (.aload_n 0, 1) := dc_at dkX5_nameNow_b11 2 rfl
theorem dX5_nameNow_206 : decode cX5_nameNow 206 = .ok (.iconst 5, 1) := dc_at dkX5_nameNow_b11 3 rfl
theorem dX5_nameNow_207 : decode cX5_nameNow 207 = .ok (.bipush 104, 2) := dc_at dkX5_nameNow_b11 4 rfl
theorem dX5_nameNow_209 : decode cX5_nameNow 209 = .ok (.bipush 105, 2) := dc_at dkX5_nameNow_b11 5 rfl
theorem dX5_nameNow_211 : decode cX5_nameNow 211 = .ok (.bipush 116, 2) := dc_at dkX5_nameNow_b11 6 rfl
theorem dX5_nameNow_213 : decode cX5_nameNow 213 = .ok (.bipush 99, 2) := dc_at dkX5_nameNow_b11 7 rfl
theorem dX5_nameNow_215 : decode cX5_nameNow 215 = .ok (.invokevirtual 95, 3) := dc_at dkX5_nameNow_b11 8 rfl
theorem dX5_nameNow_218 : decode cX5_nameNow 218 = .ok (.ifCond .eq 21, 3) := dc_at dkX5_nameNow_b11 9 rfl
def drX5_nameNow_b12 : List (Nat × (Instr × Nat)) := [(221, (.aload_n 0, 1)), (222, (.aload_n 0, 1)), (223, (.getfield 82, 3)), (226, (.iconst 4, 1)), (227, (.iadd, 1)), (228, (.invokevirtual 91, 3)), (231, (.bipush 104, 2)), (233, (.if_icmp .ne 6, 3)), (236, (.bipush 8, 2)), (238, (.ireturn, 1))]
theorem dkX5_nameNow_b12 : ((drX5_nameNow_b12).all fun r => decide (decode cX5_nameNow r.1 = .ok r.2)) = true := by decide +kernel
theorem dX5_nameNow_221 : decode cX5_nameNow 221 = .ok (.aload_n 0, 1) := dc_at dkX5_nameNow_b12 0 rfl
theorem dX5_nameNow_222 : decode cX5_nameNow 222 = .ok (.aload_n 0, 1) := dc_at dkX5_nameNow_b12 1 rfl
theorem dX5_nameNow_223 : decode cX5_nameNow 223 = .ok (.getfield 82, 3) := dc_at dkX5_nameNow_b12 2 rfl
theorem dX5_nameNow_226 : decode cX5_nameNow 226 = .ok (.iconst 4, 1) := dc_at dkX5_nameNow_b12 3 rfl
theorem dX5_nameNow_227 : decode cX5_nameNow 227 = .ok (.iadd, 1) := dc_at dkX5_nameNow_b12 4 rfl
theorem dX5_nameNow_228 : decode cX5_nameNow 228 = .ok (.invokevirtual 91, 3) := dc_at dkX5_nameNow_b12 5 rfl
theorem dX5_nameNow_231 : decode cX5_nameNow 231 = .ok (.bipush 104, 2) := dc_at dkX5_nameNow_b12 6 rfl
theorem dX5_nameNow_233 : decode cX5_nameNow 233 = .ok (.if_icmp .ne 6, 3) := dc_at dkX5_nameNow_b12 7 rfl
theorem dX5_nameNow_236 : decode cX5_nameNow 236 = .ok (.bipush 8, 2) := dc_at dkX5_nameNow_b12 8 rfl
theorem dX5_nameNow_238 : decode cX5_nameNow 238 = .ok (.ireturn, 1) := dc_at dkX5_nameNow_b12 9 rfl
def drX5_nameNow_b13 : List (Nat × (Instr × Nat)) := [(239, (.aload_n 0, 1)), (240, (.iconst 5, 1)), (241, (.bipush 98, 2)), (243, (.bipush 108, 2)), (245, (.bipush 111, 2)), (247, (.bipush 99, 2)), (249, (.invokevirtual 95, 3)), (252, (.ifCond .eq 23, 3)), (255, (.aload_n 0, 1)), (256, (.aload_n 0, 1))]
theorem dkX5_nameNow_b13 : ((drX5_nameNow_b13).all fun r => decide (decode cX5_nameNow r.1 = .ok r.2)) = true := by decide +kernel
theorem dX5_nameNow_239 : decode cX5_nameNow 239 = .ok (.aload_n 0, 1) := dc_at dkX5_nameNow_b13 0 rfl
theorem dX5_nameNow_240 : decode cX5_nameNow 240 = .ok (.iconst 5, 1) := dc_at dkX5_nameNow_b13 1 rfl
theorem dX5_nameNow_241 : decode cX5_nameNow 241 = .ok (.bipush 98, 2) := dc_at dkX5_nameNow_b13 2 rfl
theorem dX5_nameNow_243 : decode cX5_nameNow 243 = .ok (.bipush 108, 2) := dc_at dkX5_nameNow_b13 3 rfl
theorem dX5_nameNow_245 : decode cX5_nameNow 245 = .ok (.bipush 111, 2) := dc_at dkX5_nameNow_b13 4 rfl
theorem dX5_nameNow_247 : decode cX5_nameNow 247 = .ok (.bipush 99, 2) := dc_at dkX5_nameNow_b13 5 rfl
theorem dX5_nameNow_249 : decode cX5_nameNow 249 = .ok (.invokevirtual 95, 3) := dc_at dkX5_nameNow_b13 6 rfl
theorem dX5_nameNow_252 : decode cX5_nameNow 252 = .ok (.ifCond .eq 23, 3) := dc_at dkX5_nameNow_b13 7 rfl
theorem dX5_nameNow_255 : decode cX5_nameNow 255 = .ok (.aload_n 0, 1) := dc_at dkX5_nameNow_b13 8 rfl
theorem dX5_nameNow_256 : decode cX5_nameNow 256 = .ok (.aload_n 0, 1) := dc_at dkX5_nameNow_b13 9 rfl
def drX5_nameNow_b14 : List (Nat × (Instr × Nat)) := [(257, (.getfield 82, 3)), (260, (.iconst 4, 1)), (261, (.iadd, 1)), (262, (.invokevirtual 91, 3)), (265, (.bipush 107, 2)), (267, (.if_icmp .ne 8, 3)), (270, (.bipush 10, 2)), (272, (.goto 26, 3)), (275, (.aload_n 0, 1)), (276, (.iconst 4, 1))]
theorem dkX5_nameNow_b14 : ((drX5_nameNow_b14).all fun r => decide (decode cX5_nameNow r.1 = .ok r.2)) = true := by decide +kernel
theorem dX5_nameNow_257 : decode cX5_nameNow 257 = .ok (.getfield 82, 3) := dc_at dkX5_nameNow_b14 0 rfl
theorem dX5_nameNow_260 : decode cX5_nameNow 260 = .ok (.iconst 4, 1) := dc_at dkX5_nameNow_b14 1 rfl
theorem dX5_nameNow_261 : decode cX5_nameNow 261 = .ok (.iadd, 1) := dc_at dkX5_nameNow_b14 2 rfl
theorem dX5_nameNow_262 : decode cX5_nameNow 262 = .ok (.invokevirtual 91, 3) := dc_at dkX5_nameNow_b14 3 rfl
theorem dX5_nameNow_265 : decode cX5_nameNow 265 = .ok (.bipush 107, 2) := dc_at dkX5_nameNow_b14 4 rfl
theorem dX5_nameNow_267 : decode cX5_nameNow 267 = .ok (.if_icmp .ne 8, 3) := dc_at dkX5_nameNow_b14 5 rfl
theorem dX5_nameNow_270 : decode cX5_nameNow 270 = .ok (.bipush 10, 2) := dc_at dkX5_nameNow_b14 6 rfl
theorem dX5_nameNow_272 : decode cX5_nameNow 272 = .ok (.goto 26, 3) := dc_at dkX5_nameNow_b14 7 rfl
theorem dX5_nameNow_275 : decode cX5_nameNow 275 = .ok (.aload_n 0, 1) := dc_at dkX5_nameNow_b14 8 rfl
theorem dX5_nameNow_276 : decode cX5_nameNow 276 = .ok (.iconst 4, 1) := dc_at dkX5_nameNow_b14 9 rfl
def drX5_nameNow_b15 : List (Nat × (Instr × Nat)) := [(277, (.bipush 109, 2)), (279, (.bipush 97, 2)), (281, (.bipush 114, 2)), (283, (.bipush 107, 2)), (285, (.invokevirtual 95, 3)), (288, (.ifCond .eq 8, 3)), (291, (.bipush 11, 2)), (293, (.goto 5, 3)), (296, (.bipush (-4), 2)), (298, (.ireturn, 1))]
theorem dkX5_nameNow_b15 : ((drX5_nameNow_b15).all fun r => decide (decode cX5_nameNow r.1 = .ok r.2)) = true := by decide +kernel
theorem dX5_nameNow_277 : decode cX5_nameNow 277 = .ok (.bipush 109, 2) := dc_at dkX5_nameNow_b15 0 rfl
theorem dX5_nameNow_279 : decode cX5_nameNow 279 = .ok (.bipush 97, 2) := dc_at dkX5_nameNow_b15 1 rfl
theorem dX5_nameNow_281 : decode cX5_nameNow 281 = .ok (.bipush 114, 2) := dc_at dkX5_nameNow_b15 2 rfl
theorem dX5_nameNow_283 : decode cX5_nameNow 283 = .ok (.bipush 107, 2) := dc_at dkX5_nameNow_b15 3 rfl
theorem dX5_nameNow_285 : decode cX5_nameNow 285 = .ok (.invokevirtual 95, 3) := dc_at dkX5_nameNow_b15 4 rfl
theorem dX5_nameNow_288 : decode cX5_nameNow 288 = .ok (.ifCond .eq 8, 3) := dc_at dkX5_nameNow_b15 5 rfl
theorem dX5_nameNow_291 : decode cX5_nameNow 291 = .ok (.bipush 11, 2) := dc_at dkX5_nameNow_b15 6 rfl
theorem dX5_nameNow_293 : decode cX5_nameNow 293 = .ok (.goto 5, 3) := dc_at dkX5_nameNow_b15 7 rfl
theorem dX5_nameNow_296 : decode cX5_nameNow 296 = .ok (.bipush (-4), 2) := dc_at dkX5_nameNow_b15 8 rfl
theorem dX5_nameNow_298 : decode cX5_nameNow 298 = .ok (.ireturn, 1) := dc_at dkX5_nameNow_b15 9 rfl
def drX5_next_b0 : List (Nat × (Instr × Nat)) := [(0, (.aload_n 0, 1)), (1, (.getfield 79, 3)), (4, (.ifCond .le 4, 3)), (7, (.return_, 1)), (8, (.aload_n 0, 1)), (9, (.aload_n 0, 1)), (10, (.getfield 88, 3)), (13, (.invokevirtual 91, 3)), (16, (.bipush 32, 2)), (18, (.if_icmp .ne 16, 3))]
theorem dkX5_next_b0 : ((drX5_next_b0).all fun r => decide (decode cX5_next r.1 = .ok r.2)) = true := by decide +kernel
theorem dX5_next_0 : decode cX5_next 0 = .ok (.aload_n 0, 1) := dc_at dkX5_next_b0 0 rfl
theorem dX5_next_1 : decode cX5_next 1 = .ok (.getfield 79, 3) := dc_at dkX5_next_b0 1 rfl
theorem dX5_next_4 : decode cX5_next 4 = .ok (.ifCond .le 4, 3) := dc_at dkX5_next_b0 2 rfl
theorem dX5_next_7 : decode cX5_next 7 = .ok (.return_, 1) := dc_at dkX5_next_b0 3 rfl
theorem dX5_next_8 : decode cX5_next 8 = .ok (.aload_n 0, 1) := dc_at dkX5_next_b0 4 rfl
theorem dX5_next_9 : decode cX5_next 9 = .ok (.aload_n 0, 1) := dc_at dkX5_next_b0 5 rfl
theorem dX5_next_10 : decode cX5_next 10 = .ok (.getfield 88, 3) := dc_at dkX5_next_b0 6 rfl
theorem dX5_next_13 : decode cX5_next 13 = .ok (.invokevirtual 91, 3) := dc_at dkX5_next_b0 7 rfl
theorem dX5_next_16 : decode cX5_next 16 = .ok (.bipush 32, 2) := dc_at dkX5_next_b0 8 rfl
theorem dX5_next_18 : decode cX5_next 18 = .ok (.if_icmp .ne 16, 3) := dc_at dkX5_next_b0 9 rfl
def drX5_next_b1 : List (Nat × (Instr × Nat)) := [(21, (.aload_n 0, 1)), (22, (.dup, 1)), (23, (.getfield 88, 3)), (26, (.iconst 1, 1)), (27, (.iadd, 1)), (28, (.putfield 88, 3)), (31, (.goto (-23), 3)), (34, (.aload_n 0, 1)), (35, (.aload_n 0, 1)), (36, (.getfield 88, 3))]
theorem dkX5_next_b1 : ((drX5_next_b1).all fun r => decide (decode cX5_next r.1 = .ok r.2)) = true := by decide +kernel
theorem dX5_next_21 : decode cX5_next 21 = .ok (.aload_n 0, 1) := dc_at dkX5_next_b1 0 rfl
theorem dX5_next_22 : decode cX5_next 22 = .ok (.dup, 1) := dc_at dkX5_next_b1 1 rfl
theorem dX5_next_23 : decode cX5_next 23 = .ok (.getfield 88, 3) := dc_at dkX5_next_b1 2 rfl
theorem dX5_next_26 : decode cX5_next 26 = .ok (.iconst 1, 1) := dc_at dkX5_next_b1 3 rfl
theorem dX5_next_27 : decode cX5_next 27 = .ok (.iadd, 1) := dc_at dkX5_next_b1 4 rfl
theorem dX5_next_28 : decode cX5_next 28 = .ok (.putfield 88, 3) := dc_at dkX5_next_b1 5 rfl
theorem dX5_next_31 : decode cX5_next 31 = .ok (.goto (-23), 3) := dc_at dkX5_next_b1 6 rfl
theorem dX5_next_34 : decode cX5_next 34 = .ok (.aload_n 0, 1) := dc_at dkX5_next_b1 7 rfl
theorem dX5_next_35 : decode cX5_next 35 = .ok (.aload_n 0, 1) := dc_at dkX5_next_b1 8 rfl
theorem dX5_next_36 : decode cX5_next 36 = .ok (.getfield 88, 3) := dc_at dkX5_next_b1 9 rfl
def drX5_next_b2 : List (Nat × (Instr × Nat)) := [(39, (.putfield 82, 3)), (42, (.aload_n 0, 1)), (43, (.aload_n 0, 1)), (44, (.getfield 88, 3)), (47, (.invokevirtual 91, 3)), (50, (.istore_n 1, 1)), (51, (.iload_n 1, 1)), (52, (.ifCond .ge 11, 3)), (55, (.aload_n 0, 1)), (56, (.iconst 0, 1))]
theorem dkX5_next_b2 : ((drX5_next_b2).all fun r => decide (decode cX5_next r.1 = .ok r.2)) = true := by decide +kernel
theorem dX5_next_39 : decode cX5_next 39 = .ok (.putfield 82, 3) := dc_at dkX5_next_b2 0 rfl
theorem dX5_next_42 : decode cX5_next 42 = .ok (.aload_n 0, 1) := dc_at dkX5_next_b2 1 rfl
theorem dX5_next_43 : decode cX5_next 43 = .ok (.aload_n 0, 1) := dc_at dkX5_next_b2 2 rfl
theorem dX5_next_44 : decode cX5_next 44 = .ok (.getfield 88, 3) := dc_at dkX5_next_b2 3 rfl
theorem dX5_next_47 : decode cX5_next 47 = .ok (.invokevirtual 91, 3) := dc_at dkX5_next_b2 4 rfl
theorem dX5_next_50 : decode cX5_next 50 = .ok (.istore_n 1, 1) := dc_at dkX5_next_b2 5 rfl
theorem dX5_next_51 : decode cX5_next 51 = .ok (.iload_n 1, 1) := dc_at dkX5_next_b2 6 rfl
theorem dX5_next_52 : decode cX5_next 52 = .ok (.ifCond .ge 11, 3) := dc_at dkX5_next_b2 7 rfl
theorem dX5_next_55 : decode cX5_next 55 = .ok (.aload_n 0, 1) := dc_at dkX5_next_b2 8 rfl
theorem dX5_next_56 : decode cX5_next 56 = .ok (.iconst 0, 1) := dc_at dkX5_next_b2 9 rfl
def drX5_next_b3 : List (Nat × (Instr × Nat)) := [(57, (.putfield 99, 3)), (60, (.goto 214, 3)), (63, (.iload_n 1, 1)), (64, (.i2l, 1)), (65, (.ldc2_w 102, 3)), (68, (.ldc2_w 104, 3)), (71, (.invokestatic 75, 3)), (74, (.ifCond .eq 42, 3)), (77, (.aload_n 0, 1)), (78, (.iconst 1, 1))]
theorem dkX5_next_b3 : ((drX5_next_b3).all fun r => decide (decode cX5_next r.1 = .ok r.2)) = true := by decide +kernel
theorem dX5_next_57 : decode cX5_next 57 = .ok (.putfield 99, 3) := dc_at dkX5_next_b3 0 rfl
theorem dX5_next_60 : decode cX5_next 60 = .ok (.goto 214, 3) := dc_at dkX5_next_b3 1 rfl
theorem dX5_next_63 : decode cX5_next 63 = .ok (.iload_n 1, 1) := dc_at dkX5_next_b3 2 rfl
theorem dX5_next_64 : decode cX5_next 64 = .ok (.i2l, 1) := dc_at dkX5_next_b3 3 rfl
theorem dX5_next_65 : decode cX5_next 65 = .ok (.ldc2_w 102, 3) := dc_at dkX5_next_b3 4 rfl
theorem dX5_next_68 : decode cX5_next 68 = .ok (.ldc2_w 104, 3) := dc_at dkX5_next_b3 5 rfl
theorem dX5_next_71 : decode cX5_next 71 = .ok (.invokestatic 75, 3) := dc_at dkX5_next_b3 6 rfl
theorem dX5_next_74 : decode cX5_next 74 = .ok (.ifCond .eq 42, 3) := dc_at dkX5_next_b3 7 rfl
theorem dX5_next_77 : decode cX5_next 77 = .ok (.aload_n 0, 1) := dc_at dkX5_next_b3 8 rfl
theorem dX5_next_78 : decode cX5_next 78 = .ok (.iconst 1, 1) := dc_at dkX5_next_b3 9 rfl
def drX5_next_b4 : List (Nat × (Instr × Nat)) := [(79, (.putfield 99, 3)), (82, (.aload_n 0, 1)), (83, (.aload_n 0, 1)), (84, (.getfield 88, 3)), (87, (.invokevirtual 91, 3)), (90, (.i2l, 1)), (91, (.ldc2_w 102, 3)), (94, (.ldc2_w 104, 3)), (97, (.invokestatic 75, 3)), (100, (.ifCond .eq 174, 3))]
theorem dkX5_next_b4 : ((drX5_next_b4).all fun r => decide (decode cX5_next r.1 = .ok r.2)) = true := by decide +kernel
theorem dX5_next_79 : decode cX5_next 79 = .ok (.putfield 99, 3) := dc_at dkX5_next_b4 0 rfl
theorem dX5_next_82 : decode cX5_next 82 = .ok (.aload_n 0, 1) := dc_at dkX5_next_b4 1 rfl
theorem dX5_next_83 : decode cX5_next 83 = .ok (.aload_n 0, 1) := dc_at dkX5_next_b4 2 rfl
theorem dX5_next_84 : decode cX5_next 84 = .ok (.getfield 88, 3) := dc_at dkX5_next_b4 3 rfl
theorem dX5_next_87 : decode cX5_next 87 = .ok (.invokevirtual 91, 3) := dc_at dkX5_next_b4 4 rfl
theorem dX5_next_90 : decode cX5_next 90 = .ok (.i2l, 1) := dc_at dkX5_next_b4 5 rfl
theorem dX5_next_91 : decode cX5_next 91 = .ok (.ldc2_w 102, 3) := dc_at dkX5_next_b4 6 rfl
theorem dX5_next_94 : decode cX5_next 94 = .ok (.ldc2_w 104, 3) := dc_at dkX5_next_b4 7 rfl
theorem dX5_next_97 : decode cX5_next 97 = .ok (.invokestatic 75, 3) := dc_at dkX5_next_b4 8 rfl
theorem dX5_next_100 : decode cX5_next 100 = .ok (.ifCond .eq 174, 3) := dc_at dkX5_next_b4 9 rfl
def drX5_next_b5 : List (Nat × (Instr × Nat)) := [(103, (.aload_n 0, 1)), (104, (.dup, 1)), (105, (.getfield 88, 3)), (108, (.iconst 1, 1)), (109, (.iadd, 1)), (110, (.putfield 88, 3)), (113, (.goto (-31), 3)), (116, (.iload_n 1, 1)), (117, (.i2l, 1)), (118, (.ldc2_w 106, 3))]
theorem dkX5_next_b5 : ((drX5_next_b5).all fun r => decide (decode cX5_next r.1 = .ok r.2)) = true := by decide +kernel
theorem dX5_next_103 : decode cX5_next 103 = .ok (.aload_n 0, 1) := dc_at dkX5_next_b5 0 rfl
theorem dX5_next_104 : decode cX5_next 104 = .ok (.dup, 1) := dc_at dkX5_next_b5 1 rfl
theorem dX5_next_105 : decode cX5_next 105 = .ok (.getfield 88, 3) := dc_at dkX5_next_b5 2 rfl
theorem dX5_next_108 : decode cX5_next 108 = .ok (.iconst 1, 1) := dc_at dkX5_next_b5 3 rfl
theorem dX5_next_109 : decode cX5_next 109 = .ok (.iadd, 1) := dc_at dkX5_next_b5 4 rfl
theorem dX5_next_110 : decode cX5_next 110 = .ok (.putfield 88, 3) := dc_at dkX5_next_b5 5 rfl
theorem dX5_next_113 : decode cX5_next 113 = .ok (.goto (-31), 3) := dc_at dkX5_next_b5 6 rfl
theorem dX5_next_116 : decode cX5_next 116 = .ok (.iload_n 1, 1) := dc_at dkX5_next_b5 7 rfl
theorem dX5_next_117 : decode cX5_next 117 = .ok (.i2l, 1) := dc_at dkX5_next_b5 8 rfl
theorem dX5_next_118 : decode cX5_next 118 = .ok (.ldc2_w 106, 3) := dc_at dkX5_next_b5 9 rfl
def drX5_next_b6 : List (Nat × (Instr × Nat)) := [(121, (.ldc2_w 108, 3)), (124, (.invokestatic 75, 3)), (127, (.ifCond .eq 116, 3)), (130, (.aload_n 0, 1)), (131, (.iconst 2, 1)), (132, (.putfield 99, 3)), (135, (.aload_n 0, 1)), (136, (.iconst 0, 1)), (137, (.putfield 110, 3)), (140, (.aload_n 0, 1))]
theorem dkX5_next_b6 : ((drX5_next_b6).all fun r => decide (decode cX5_next r.1 = .ok r.2)) = true := by decide +kernel
theorem dX5_next_121 : decode cX5_next 121 = .ok (.ldc2_w 108, 3) := dc_at dkX5_next_b6 0 rfl
theorem dX5_next_124 : decode cX5_next 124 = .ok (.invokestatic 75, 3) := dc_at dkX5_next_b6 1 rfl
theorem dX5_next_127 : decode cX5_next 127 = .ok (.ifCond .eq 116, 3) := dc_at dkX5_next_b6 2 rfl
theorem dX5_next_130 : decode cX5_next 130 = .ok (.aload_n 0, 1) := dc_at dkX5_next_b6 3 rfl
theorem dX5_next_131 : decode cX5_next 131 = .ok (.iconst 2, 1) := dc_at dkX5_next_b6 4 rfl
theorem dX5_next_132 : decode cX5_next 132 = .ok (.putfield 99, 3) := dc_at dkX5_next_b6 5 rfl
theorem dX5_next_135 : decode cX5_next 135 = .ok (.aload_n 0, 1) := dc_at dkX5_next_b6 6 rfl
theorem dX5_next_136 : decode cX5_next 136 = .ok (.iconst 0, 1) := dc_at dkX5_next_b6 7 rfl
theorem dX5_next_137 : decode cX5_next 137 = .ok (.putfield 110, 3) := dc_at dkX5_next_b6 8 rfl
theorem dX5_next_140 : decode cX5_next 140 = .ok (.aload_n 0, 1) := dc_at dkX5_next_b6 9 rfl
def drX5_next_b7 : List (Nat × (Instr × Nat)) := [(141, (.aload_n 0, 1)), (142, (.getfield 88, 3)), (145, (.invokevirtual 91, 3)), (148, (.i2l, 1)), (149, (.ldc2_w 106, 3)), (152, (.ldc2_w 108, 3)), (155, (.invokestatic 75, 3)), (158, (.ifCond .eq 59, 3)), (161, (.aload_n 0, 1)), (162, (.aload_n 0, 1))]
theorem dkX5_next_b7 : ((drX5_next_b7).all fun r => decide (decode cX5_next r.1 = .ok r.2)) = true := by decide +kernel
theorem dX5_next_141 : decode cX5_next 141 = .ok (.aload_n 0, 1) := dc_at dkX5_next_b7 0 rfl
theorem dX5_next_142 : decode cX5_next 142 = .ok (.getfield 88, 3) := dc_at dkX5_next_b7 1 rfl
theorem dX5_next_145 : decode cX5_next 145 = .ok (.invokevirtual 91, 3) := dc_at dkX5_next_b7 2 rfl
theorem dX5_next_148 : decode cX5_next 148 = .ok (.i2l, 1) := dc_at dkX5_next_b7 3 rfl
theorem dX5_next_149 : decode cX5_next 149 = .ok (.ldc2_w 106, 3) := dc_at dkX5_next_b7 4 rfl
theorem dX5_next_152 : decode cX5_next 152 = .ok (.ldc2_w 108, 3) := dc_at dkX5_next_b7 5 rfl
theorem dX5_next_155 : decode cX5_next 155 = .ok (.invokestatic 75, 3) := dc_at dkX5_next_b7 6 rfl
theorem dX5_next_158 : decode cX5_next 158 = .ok (.ifCond .eq 59, 3) := dc_at dkX5_next_b7 7 rfl
theorem dX5_next_161 : decode cX5_next 161 = .ok (.aload_n 0, 1) := dc_at dkX5_next_b7 8 rfl
theorem dX5_next_162 : decode cX5_next 162 = .ok (.aload_n 0, 1) := dc_at dkX5_next_b7 9 rfl
def drX5_next_b8 : List (Nat × (Instr × Nat)) := [(163, (.getfield 88, 3)), (166, (.aload_n 0, 1)), (167, (.getfield 82, 3)), (170, (.isub, 1)), (171, (.iconst 4, 1)), (172, (.if_icmp .ge 25, 3)), (175, (.bipush 10, 2)), (177, (.aload_n 0, 1)), (178, (.getfield 110, 3)), (181, (.imul, 1))]
theorem dkX5_next_b8 : ((drX5_next_b8).all fun r => decide (decode cX5_next r.1 = .ok r.2)) = true := by decide +kernel
theorem dX5_next_163 : decode cX5_next 163 = .ok (.getfield 88, 3) := dc_at dkX5_next_b8 0 rfl
theorem dX5_next_166 : decode cX5_next 166 = .ok (.aload_n 0, 1) := dc_at dkX5_next_b8 1 rfl
theorem dX5_next_167 : decode cX5_next 167 = .ok (.getfield 82, 3) := dc_at dkX5_next_b8 2 rfl
theorem dX5_next_170 : decode cX5_next 170 = .ok (.isub, 1) := dc_at dkX5_next_b8 3 rfl
theorem dX5_next_171 : decode cX5_next 171 = .ok (.iconst 4, 1) := dc_at dkX5_next_b8 4 rfl
theorem dX5_next_172 : decode cX5_next 172 = .ok (.if_icmp .ge 25, 3) := dc_at dkX5_next_b8 5 rfl
theorem dX5_next_175 : decode cX5_next 175 = .ok (.bipush 10, 2) := dc_at dkX5_next_b8 6 rfl
theorem dX5_next_177 : decode cX5_next 177 = .ok (.aload_n 0, 1) := dc_at dkX5_next_b8 7 rfl
theorem dX5_next_178 : decode cX5_next 178 = .ok (.getfield 110, 3) := dc_at dkX5_next_b8 8 rfl
theorem dX5_next_181 : decode cX5_next 181 = .ok (.imul, 1) := dc_at dkX5_next_b8 9 rfl
def drX5_next_b9 : List (Nat × (Instr × Nat)) := [(182, (.aload_n 0, 1)), (183, (.aload_n 0, 1)), (184, (.getfield 88, 3)), (187, (.invokevirtual 91, 3)), (190, (.iadd, 1)), (191, (.bipush 48, 2)), (193, (.isub, 1)), (194, (.goto 7, 3)), (197, (.aload_n 0, 1)), (198, (.getfield 110, 3))]
theorem dkX5_next_b9 : ((drX5_next_b9).all fun r => decide (decode cX5_next r.1 = .ok r.2)) = true := by decide +kernel
theorem dX5_next_182 : decode cX5_next 182 = .ok (.aload_n 0, 1) := dc_at dkX5_next_b9 0 rfl
theorem dX5_next_183 : decode cX5_next 183 = .ok (.aload_n 0, 1) := dc_at dkX5_next_b9 1 rfl
theorem dX5_next_184 : decode cX5_next 184 = .ok (.getfield 88, 3) := dc_at dkX5_next_b9 2 rfl
theorem dX5_next_187 : decode cX5_next 187 = .ok (.invokevirtual 91, 3) := dc_at dkX5_next_b9 3 rfl
theorem dX5_next_190 : decode cX5_next 190 = .ok (.iadd, 1) := dc_at dkX5_next_b9 4 rfl
theorem dX5_next_191 : decode cX5_next 191 = .ok (.bipush 48, 2) := dc_at dkX5_next_b9 5 rfl
theorem dX5_next_193 : decode cX5_next 193 = .ok (.isub, 1) := dc_at dkX5_next_b9 6 rfl
theorem dX5_next_194 : decode cX5_next 194 = .ok (.goto 7, 3) := dc_at dkX5_next_b9 7 rfl
theorem dX5_next_197 : decode cX5_next 197 = .ok (.aload_n 0, 1) := dc_at dkX5_next_b9 8 rfl
theorem dX5_next_198 : decode cX5_next 198 = .ok (.getfield 110, 3) := dc_at dkX5_next_b9 9 rfl
def drX5_next_b10 : List (Nat × (Instr × Nat)) := [(201, (.putfield 110, 3)), (204, (.aload_n 0, 1)), (205, (.dup, 1)), (206, (.getfield 88, 3)), (209, (.iconst 1, 1)), (210, (.iadd, 1)), (211, (.putfield 88, 3)), (214, (.goto (-74), 3)), (217, (.aload_n 0, 1)), (218, (.aload_n 0, 1))]
theorem dkX5_next_b10 : ((drX5_next_b10).all fun r => decide (decode cX5_next r.1 = .ok r.2)) = true := by decide +kernel
theorem dX5_next_201 : decode cX5_next 201 = .ok (.putfield 110, 3) := dc_at dkX5_next_b10 0 rfl
theorem dX5_next_204 : decode cX5_next 204 = .ok (.aload_n 0, 1) := dc_at dkX5_next_b10 1 rfl
theorem dX5_next_205 : decode cX5_next 205 = .ok (.dup, 1) := dc_at dkX5_next_b10 2 rfl
theorem dX5_next_206 : decode cX5_next 206 = .ok (.getfield 88, 3) := dc_at dkX5_next_b10 3 rfl
theorem dX5_next_209 : decode cX5_next 209 = .ok (.iconst 1, 1) := dc_at dkX5_next_b10 4 rfl
theorem dX5_next_210 : decode cX5_next 210 = .ok (.iadd, 1) := dc_at dkX5_next_b10 5 rfl
theorem dX5_next_211 : decode cX5_next 211 = .ok (.putfield 88, 3) := dc_at dkX5_next_b10 6 rfl
theorem dX5_next_214 : decode cX5_next 214 = .ok (.goto (-74), 3) := dc_at dkX5_next_b10 7 rfl
theorem dX5_next_217 : decode cX5_next 217 = .ok (.aload_n 0, 1) := dc_at dkX5_next_b10 8 rfl
theorem dX5_next_218 : decode cX5_next 218 = .ok (.aload_n 0, 1) := dc_at dkX5_next_b10 9 rfl
def drX5_next_b11 : List (Nat × (Instr × Nat)) := [(219, (.getfield 88, 3)), (222, (.aload_n 0, 1)), (223, (.getfield 82, 3)), (226, (.isub, 1)), (227, (.iconst 4, 1)), (228, (.if_icmp .gt 7, 3)), (231, (.iconst 1, 1)), (232, (.goto 4, 3)), (235, (.iconst 0, 1)), (236, (.iconst 1, 1))]
theorem dkX5_next_b11 : ((drX5_next_b11).all fun r => decide (decode cX5_next r.1 = .ok r.2)) = true := by decide +kernel
theorem dX5_next_219 : decode cX5_next 219 = .ok (.getfield 88, 3) := dc_at dkX5_next_b11 0 rfl
theorem dX5_next_222 : decode cX5_next 222 = .ok (.aload_n 0, 1) := dc_at dkX5_next_b11 1 rfl
theorem dX5_next_223 : decode cX5_next 223 = .ok (.getfield 82, 3) := dc_at dkX5_next_b11 2 rfl
theorem dX5_next_226 : decode cX5_next 226 = .ok (.isub, 1) := dc_at dkX5_next_b11 3 rfl
theorem dX5_next_227 : decode cX5_next 227 = .ok (.iconst 4, 1) := dc_at dkX5_next_b11 4 rfl
theorem dX5_next_228 : decode cX5_next 228 = .ok (.if_icmp .gt 7, 3) := dc_at dkX5_next_b11 5 rfl
theorem dX5_next_231 : decode cX5_next 231 = .ok (.iconst 1, 1) := dc_at dkX5_next_b11 6 rfl
theorem dX5_next_232 : decode cX5_next 232 = .ok (.goto 4, 3) := dc_at dkX5_next_b11 7 rfl
theorem dX5_next_235 : decode cX5_next 235 = .ok (.iconst 0, 1) := dc_at dkX5_next_b11 8 rfl
theorem dX5_next_236 : decode cX5_next 236 = .ok (.iconst 1, 1) := dc_at dkX5_next_b11 9 rfl
def drX5_next_b12 : List (Nat × (Instr × Nat)) := [(237, (.invokevirtual 113, 3)), (240, (.goto 34, 3)), (243, (.aload_n 0, 1)), (244, (.iconst 3, 1)), (245, (.putfield 99, 3)), (248, (.aload_n 0, 1)), (249, (.iload_n 1, 1)), (250, (.bipush 59, 2)), (252, (.if_icmp .ne 7, 3)), (255, (.iconst 1, 1))]
theorem dkX5_next_b12 : ((drX5_next_b12).all fun r => decide (decode cX5_next r.1 = .ok r.2)) = true := by decide +kernel
theorem dX5_next_237 : decode cX5_next 237 = .ok (.invokevirtual 113, 3) := dc_at dkX5_next_b12 0 rfl
theorem dX5_next_240 : decode cX5_next 240 = .ok (.goto 34, 3) := dc_at dkX5_next_b12 1 rfl
theorem dX5_next_243 : decode cX5_next 243 = .ok (.aload_n 0, 1) := dc_at dkX5_next_b12 2 rfl
theorem dX5_next_244 : decode cX5_next 244 = .ok (.iconst 3, 1) := dc_at dkX5_next_b12 3 rfl
theorem dX5_next_245 : decode cX5_next 245 = .ok (.putfield 99, 3) := dc_at dkX5_next_b12 4 rfl
theorem dX5_next_248 : decode cX5_next 248 = .ok (.aload_n 0, 1) := dc_at dkX5_next_b12 5 rfl
theorem dX5_next_249 : decode cX5_next 249 = .ok (.iload_n 1, 1) := dc_at dkX5_next_b12 6 rfl
theorem dX5_next_250 : decode cX5_next 250 = .ok (.bipush 59, 2) := dc_at dkX5_next_b12 7 rfl
theorem dX5_next_252 : decode cX5_next 252 = .ok (.if_icmp .ne 7, 3) := dc_at dkX5_next_b12 8 rfl
theorem dX5_next_255 : decode cX5_next 255 = .ok (.iconst 1, 1) := dc_at dkX5_next_b12 9 rfl
def drX5_next_b13 : List (Nat × (Instr × Nat)) := [(256, (.goto 4, 3)), (259, (.iconst 0, 1)), (260, (.iconst 1, 1)), (261, (.invokevirtual 113, 3)), (264, (.aload_n 0, 1)), (265, (.dup, 1)), (266, (.getfield 88, 3)), (269, (.iconst 1, 1)), (270, (.iadd, 1)), (271, (.putfield 88, 3))]
theorem dkX5_next_b13 : ((drX5_next_b13).all fun r => decide (decode cX5_next r.1 = .ok r.2)) = true := by decide +kernel
theorem dX5_next_256 : decode cX5_next 256 = .ok (.goto 4, 3) := dc_at dkX5_next_b13 0 rfl
theorem dX5_next_259 : decode cX5_next 259 = .ok (.iconst 0, 1) := dc_at dkX5_next_b13 1 rfl
theorem dX5_next_260 : decode cX5_next 260 = .ok (.iconst 1, 1) := dc_at dkX5_next_b13 2 rfl
theorem dX5_next_261 : decode cX5_next 261 = .ok (.invokevirtual 113, 3) := dc_at dkX5_next_b13 3 rfl
theorem dX5_next_264 : decode cX5_next 264 = .ok (.aload_n 0, 1) := dc_at dkX5_next_b13 4 rfl
theorem dX5_next_265 : decode cX5_next 265 = .ok (.dup, 1) := dc_at dkX5_next_b13 5 rfl
theorem dX5_next_266 : decode cX5_next 266 = .ok (.getfield 88, 3) := dc_at dkX5_next_b13 6 rfl
theorem dX5_next_269 : decode cX5_next 269 = .ok (.iconst 1, 1) := dc_at dkX5_next_b13 7 rfl
theorem dX5_next_270 : decode cX5_next 270 = .ok (.iadd, 1) := dc_at dkX5_next_b13 8 rfl
theorem dX5_next_271 : decode cX5_next 271 = .ok (.putfield 88, 3) := dc_at dkX5_next_b13 9 rfl
def drX5_next_b14 : List (Nat × (Instr × Nat)) := [(274, (.return_, 1))]
theorem dkX5_next_b14 : ((drX5_next_b14).all fun r => decide (decode cX5_next r.1 = .ok r.2)) = true := by decide +kernel
theorem dX5_next_274 : decode cX5_next 274 = .ok (.return_, 1) := dc_at dkX5_next_b14 0 rfl
def drX5_readNumber_b0 : List (Nat × (Instr × Nat)) := [(0, (.aload_n 0, 1)), (1, (.getfield 79, 3)), (4, (.ifCond .ne 21, 3)), (7, (.aload_n 0, 1)), (8, (.aload_n 0, 1)), (9, (.getfield 99, 3)), (12, (.iconst 2, 1)), (13, (.if_icmp .ne 7, 3)), (16, (.iconst 1, 1)), (17, (.goto 4, 3))]
theorem dkX5_readNumber_b0 : ((drX5_readNumber_b0).all fun r => decide (decode cX5_readNumber r.1 = .ok r.2)) = true := by decide +kernel
theorem dX5_readNumber_0 : decode cX5_readNumber 0 = .ok (.aload_n 0, 1) := dc_at dkX5_readNumber_b0 0 rfl
theorem dX5_readNumber_1 : decode cX5_readNumber 1 = .ok (.getfield 79, 3) := dc_at dkX5_readNumber_b0 1 rfl
theorem dX5_readNumber_4 : decode cX5_readNumber 4 = .ok (.ifCond .ne 21, 3) := dc_at dkX5_readNumber_b0 2 rfl
theorem dX5_readNumber_7 : decode cX5_readNumber 7 = .ok (.aload_n 0, 1) := dc_at dkX5_readNumber_b0 3 rfl
theorem dX5_readNumber_8 : decode cX5_readNumber 8 = .ok (.aload_n 0, 1) := dc_at dkX5_readNumber_b0 4 rfl
theorem dX5_readNumber_9 : decode cX5_readNumber 9 = .ok (.getfield 99, 3) := dc_at dkX5_readNumber_b0 5 rfl
theorem dX5_readNumber_12 : decode cX5_readNumber 12 = .ok (.iconst 2, 1) := dc_at dkX5_readNumber_b0 6 rfl
theorem dX5_readNumber_13 : decode cX5_readNumber 13 = .ok (.if_icmp .ne 7, 3) := dc_at dkX5_readNumber_b0 7 rfl
theorem dX5_readNumber_16 : decode cX5_readNumber 16 = .ok (.iconst 1, 1) := dc_at dkX5_readNumber_b0 8 rfl
theorem dX5_readNumber_17 : decode cX5_readNumber 17 = .ok (.goto 4, 3) := dc_at dkX5_readNumber_b0 9 rfl
def drX5_readNumber_b1 : List (Nat × (Instr × Nat)) := [(20, (.iconst 0, 1)), (21, (.iconst 2, 1)), (22, (.invokevirtual 113, 3)), (25, (.aload_n 0, 1)), (26, (.getfield 79, 3)), (29, (.ifCond .ne 20, 3)), (32, (.aload_n 0, 1)), (33, (.aload_n 0, 1)), (34, (.getfield 110, 3)), (37, (.i2l, 1))]
theorem dkX5_readNumber_b1 : ((drX5_readNumber_b1).all fun r => decide (decode cX5_readNumber r.1 = .ok r.2)) = true := by decide +kernel
theorem dX5_readNumber_20 : decode cX5_readNumber 20 = .ok (.iconst 0, 1) := dc_at dkX5_readNumber_b1 0 rfl
theorem dX5_readNumber_21 : decode cX5_readNumber 21 = .ok (.iconst 2, 1) := dc_at dkX5_readNumber_b1 1 rfl
theorem dX5_readNumber_22 : decode cX5_readNumber 22 = .ok (.invokevirtual 113, 3) := dc_at dkX5_readNumber_b1 2 rfl
theorem dX5_readNumber_25 : decode cX5_readNumber 25 = .ok (.aload_n 0, 1) := dc_at dkX5_readNumber_b1 3 rfl
theorem dX5_readNumber_26 : decode cX5_readNumber 26 = .ok (.getfield 79, 3) := dc_at dkX5_readNumber_b1 4 rfl
theorem dX5_readNumber_29 : decode cX5_readNumber 29 = .ok (.ifCond .ne 20, 3) := dc_at dkX5_readNumber_b1 5 rfl
theorem dX5_readNumber_32 : decode cX5_readNumber 32 = .ok (.aload_n 0, 1) := dc_at dkX5_readNumber_b1 6 rfl
theorem dX5_readNumber_33 : decode cX5_readNumber 33 = .ok (.aload_n 0, 1) := dc_at dkX5_readNumber_b1 7 rfl
theorem dX5_readNumber_34 : decode cX5_readNumber 34 = .ok (.getfield 110, 3) := dc_at dkX5_readNumber_b1 8 rfl
theorem dX5_readNumber_37 : decode cX5_readNumber 37 = .ok (.i2l, 1) := dc_at dkX5_readNumber_b1 9 rfl
def drX5_readNumber_b2 : List (Nat × (Instr × Nat)) := [(38, (.iload_n 1, 1)), (39, (.i2l, 1)), (40, (.iload_n 2, 1)), (41, (.i2l, 1)), (42, (.invokestatic 75, 3)), (45, (.iconst 3, 1)), (46, (.invokevirtual 113, 3)), (49, (.aload_n 0, 1)), (50, (.getfield 110, 3)), (53, (.istore_n 3, 1))]
theorem dkX5_readNumber_b2 : ((drX5_readNumber_b2).all fun r => decide (decode cX5_readNumber r.1 = .ok r.2)) = true := by decide +kernel
theorem dX5_readNumber_38 : decode cX5_readNumber 38 = .ok (.iload_n 1, 1) := dc_at dkX5_readNumber_b2 0 rfl
theorem dX5_readNumber_39 : decode cX5_readNumber 39 = .ok (.i2l, 1) := dc_at dkX5_readNumber_b2 1 rfl
theorem dX5_readNumber_40 : decode cX5_readNumber 40 = .ok (.iload_n 2, 1) := dc_at dkX5_readNumber_b2 2 rfl
theorem dX5_readNumber_41 : decode cX5_readNumber 41 = .ok (.i2l, 1) := dc_at dkX5_readNumber_b2 3 rfl
theorem dX5_readNumber_42 : decode cX5_readNumber 42 = .ok (.invokestatic 75, 3) := dc_at dkX5_readNumber_b2 4 rfl
theorem dX5_readNumber_45 : decode cX5_readNumber 45 = .ok (.iconst 3, 1) := dc_at dkX5_readNumber_b2 5 rfl
theorem dX5_readNumber_46 : decode cX5_readNumber 46 = .ok (.invokevirtual 113, 3) := dc_at dkX5_readNumber_b2 6 rfl
theorem dX5_readNumber_49 : decode cX5_readNumber 49 = .ok (.aload_n 0, 1) := dc_at dkX5_readNumber_b2 7 rfl
theorem dX5_readNumber_50 : decode cX5_readNumber 50 = .ok (.getfield 110, 3) := dc_at dkX5_readNumber_b2 8 rfl
theorem dX5_readNumber_53 : decode cX5_readNumber 53 = .ok (.istore_n 3, 1) := dc_at dkX5_readNumber_b2 9 rfl
def drX5_readNumber_b3 : List (Nat × (Instr × Nat)) := [(54, (.aload_n 0, 1)), (55, (.invokevirtual 117, 3)), (58, (.iload_n 3, 1)), (59, (.ireturn, 1))]
theorem dkX5_readNumber_b3 : ((drX5_readNumber_b3).all fun r => decide (decode cX5_readNumber r.1 = .ok r.2)) = true := by decide +kernel
theorem dX5_readNumber_54 : decode cX5_readNumber 54 = .ok (.aload_n 0, 1) := dc_at dkX5_readNumber_b3 0 rfl
theorem dX5_readNumber_55 : decode cX5_readNumber 55 = .ok (.invokevirtual 117, 3) := dc_at dkX5_readNumber_b3 1 rfl
theorem dX5_readNumber_58 : decode cX5_readNumber 58 = .ok (.iload_n 3, 1) := dc_at dkX5_readNumber_b3 2 rfl
theorem dX5_readNumber_59 : decode cX5_readNumber 59 = .ok (.ireturn, 1) := dc_at dkX5_readNumber_b3 3 rfl
def drX5_readBlock_b0 : List (Nat × (Instr × Nat)) := [(0, (.iconst 0, 1)), (1, (.istore_n 1, 1)), (2, (.iconst 1, 1)), (3, (.istore_n 2, 1)), (4, (.aload_n 0, 1)), (5, (.getfield 79, 3)), (8, (.ifCond .ne 74, 3)), (11, (.iload_n 2, 1)), (12, (.ifCond .eq 70, 3)), (15, (.aload_n 0, 1))]
theorem dkX5_readBlock_b0 : ((drX5_readBlock_b0).all fun r => decide (decode cX5_readBlock r.1 = .ok r.2)) = true := by decide +kernel
theorem dX5_readBlock_0 : decode cX5_readBlock 0 = .ok (.iconst 0, 1) := dc_at dkX5_readBlock_b0 0 rfl
theorem dX5_readBlock_1 : decode cX5_readBlock 1 = .ok (.istore_n 1, 1) := dc_at dkX5_readBlock_b0 1 rfl
theorem dX5_readBlock_2 : decode cX5_readBlock 2 = .ok (.iconst 1, 1) := dc_at dkX5_readBlock_b0 2 rfl
theorem dX5_readBlock_3 : decode cX5_readBlock 3 = .ok (.istore_n 2, 1) := dc_at dkX5_readBlock_b0 3 rfl
theorem dX5_readBlock_4 : decode cX5_readBlock 4 = .ok (.aload_n 0, 1) := dc_at dkX5_readBlock_b0 4 rfl
theorem dX5_readBlock_5 : decode cX5_readBlock 5 = .ok (.getfield 79, 3) := dc_at dkX5_readBlock_b0 5 rfl
theorem dX5_readBlock_8 : decode cX5_readBlock 8 = .ok (.ifCond .ne 74, 3) := dc_at dkX5_readBlock_b0 6 rfl
theorem dX5_readBlock_11 : decode cX5_readBlock 11 = .ok (.iload_n 2, 1) := dc_at dkX5_readBlock_b0 7 rfl
theorem dX5_readBlock_12 : decode cX5_readBlock 12 = .ok (.ifCond .eq 70, 3) := dc_at dkX5_readBlock_b0 8 rfl
theorem dX5_readBlock_15 : decode cX5_readBlock 15 = .ok (.aload_n 0, 1) := dc_at dkX5_readBlock_b0 9 rfl
def drX5_readBlock_b1 : List (Nat × (Instr × Nat)) := [(16, (.iload_n 1, 1)), (17, (.bipush 12, 2)), (19, (.if_icmp .ge 7, 3)), (22, (.iconst 1, 1)), (23, (.goto 4, 3)), (26, (.iconst 0, 1)), (27, (.iconst 5, 1)), (28, (.invokevirtual 113, 3)), (31, (.aload_n 0, 1)), (32, (.iconst 0, 1))]
theorem dkX5_readBlock_b1 : ((drX5_readBlock_b1).all fun r => decide (decode cX5_readBlock r.1 = .ok r.2)) = true := by decide +kernel
theorem dX5_readBlock_16 : decode cX5_readBlock 16 = .ok (.iload_n 1, 1) := dc_at dkX5_readBlock_b1 0 rfl
theorem dX5_readBlock_17 : decode cX5_readBlock 17 = .ok (.bipush 12, 2) := dc_at dkX5_readBlock_b1 1 rfl
theorem dX5_readBlock_19 : decode cX5_readBlock 19 = .ok (.if_icmp .ge 7, 3) := dc_at dkX5_readBlock_b1 2 rfl
theorem dX5_readBlock_22 : decode cX5_readBlock 22 = .ok (.iconst 1, 1) := dc_at dkX5_readBlock_b1 3 rfl
theorem dX5_readBlock_23 : decode cX5_readBlock 23 = .ok (.goto 4, 3) := dc_at dkX5_readBlock_b1 4 rfl
theorem dX5_readBlock_26 : decode cX5_readBlock 26 = .ok (.iconst 0, 1) := dc_at dkX5_readBlock_b1 5 rfl
theorem dX5_readBlock_27 : decode cX5_readBlock 27 = .ok (.iconst 5, 1) := dc_at dkX5_readBlock_b1 6 rfl
theorem dX5_readBlock_28 : decode cX5_readBlock 28 = .ok (.invokevirtual 113, 3) := dc_at dkX5_readBlock_b1 7 rfl
theorem dX5_readBlock_31 : decode cX5_readBlock 31 = .ok (.aload_n 0, 1) := dc_at dkX5_readBlock_b1 8 rfl
theorem dX5_readBlock_32 : decode cX5_readBlock 32 = .ok (.iconst 0, 1) := dc_at dkX5_readBlock_b1 9 rfl
def drX5_readBlock_b2 : List (Nat × (Instr × Nat)) := [(33, (.sipush 255, 3)), (36, (.invokevirtual 120, 3)), (39, (.istore_n 3, 1)), (40, (.aload_n 0, 1)), (41, (.getfield 79, 3)), (44, (.ifCond .ne 21, 3)), (47, (.aload_n 0, 1)), (48, (.getfield 26, 3)), (51, (.bipush 12, 2)), (53, (.aload_n 0, 1))]
theorem dkX5_readBlock_b2 : ((drX5_readBlock_b2).all fun r => decide (decode cX5_readBlock r.1 = .ok r.2)) = true := by decide +kernel
theorem dX5_readBlock_33 : decode cX5_readBlock 33 = .ok (.sipush 255, 3) := dc_at dkX5_readBlock_b2 0 rfl
theorem dX5_readBlock_36 : decode cX5_readBlock 36 = .ok (.invokevirtual 120, 3) := dc_at dkX5_readBlock_b2 1 rfl
theorem dX5_readBlock_39 : decode cX5_readBlock 39 = .ok (.istore_n 3, 1) := dc_at dkX5_readBlock_b2 2 rfl
theorem dX5_readBlock_40 : decode cX5_readBlock 40 = .ok (.aload_n 0, 1) := dc_at dkX5_readBlock_b2 3 rfl
theorem dX5_readBlock_41 : decode cX5_readBlock 41 = .ok (.getfield 79, 3) := dc_at dkX5_readBlock_b2 4 rfl
theorem dX5_readBlock_44 : decode cX5_readBlock 44 = .ok (.ifCond .ne 21, 3) := dc_at dkX5_readBlock_b2 5 rfl
theorem dX5_readBlock_47 : decode cX5_readBlock 47 = .ok (.aload_n 0, 1) := dc_at dkX5_readBlock_b2 6 rfl
theorem dX5_readBlock_48 : decode cX5_readBlock 48 = .ok (.getfield 26, 3) := dc_at dkX5_readBlock_b2 7 rfl
theorem dX5_readBlock_51 : decode cX5_readBlock 51 = .ok (.bipush 12, 2) := dc_at dkX5_readBlock_b2 8 rfl
theorem dX5_readBlock_53 : decode cX5_readBlock 53 = .ok (.aload_n 0, 1) := dc_at dkX5_readBlock_b2 9 rfl
def drX5_readBlock_b3 : List (Nat × (Instr × Nat)) := [(54, (.getfield 59, 3)), (57, (.imul, 1)), (58, (.iload_n 1, 1)), (59, (.iadd, 1)), (60, (.iload_n 3, 1)), (61, (.iastore, 1)), (62, (.iinc 1 1, 3)), (65, (.aload_n 0, 1)), (66, (.getfield 99, 3)), (69, (.iconst 2, 1))]
theorem dkX5_readBlock_b3 : ((drX5_readBlock_b3).all fun r => decide (decode cX5_readBlock r.1 = .ok r.2)) = true := by decide +kernel
theorem dX5_readBlock_54 : decode cX5_readBlock 54 = .ok (.getfield 59, 3) := dc_at dkX5_readBlock_b3 0 rfl
theorem dX5_readBlock_57 : decode cX5_readBlock 57 = .ok (.imul, 1) := dc_at dkX5_readBlock_b3 1 rfl
theorem dX5_readBlock_58 : decode cX5_readBlock 58 = .ok (.iload_n 1, 1) := dc_at dkX5_readBlock_b3 2 rfl
theorem dX5_readBlock_59 : decode cX5_readBlock 59 = .ok (.iadd, 1) := dc_at dkX5_readBlock_b3 3 rfl
theorem dX5_readBlock_60 : decode cX5_readBlock 60 = .ok (.iload_n 3, 1) := dc_at dkX5_readBlock_b3 4 rfl
theorem dX5_readBlock_61 : decode cX5_readBlock 61 = .ok (.iastore, 1) := dc_at dkX5_readBlock_b3 5 rfl
theorem dX5_readBlock_62 : decode cX5_readBlock 62 = .ok (.iinc 1 1, 3) := dc_at dkX5_readBlock_b3 6 rfl
theorem dX5_readBlock_65 : decode cX5_readBlock 65 = .ok (.aload_n 0, 1) := dc_at dkX5_readBlock_b3 7 rfl
theorem dX5_readBlock_66 : decode cX5_readBlock 66 = .ok (.getfield 99, 3) := dc_at dkX5_readBlock_b3 8 rfl
theorem dX5_readBlock_69 : decode cX5_readBlock 69 = .ok (.iconst 2, 1) := dc_at dkX5_readBlock_b3 9 rfl
def drX5_readBlock_b4 : List (Nat × (Instr × Nat)) := [(70, (.if_icmp .ne 7, 3)), (73, (.iconst 1, 1)), (74, (.goto 4, 3)), (77, (.iconst 0, 1)), (78, (.istore_n 2, 1)), (79, (.goto (-75), 3)), (82, (.aload_n 0, 1)), (83, (.getfield 79, 3)), (86, (.ifCond .ne 23, 3)), (89, (.aload_n 0, 1))]
theorem dkX5_readBlock_b4 : ((drX5_readBlock_b4).all fun r => decide (decode cX5_readBlock r.1 = .ok r.2)) = true := by decide +kernel
theorem dX5_readBlock_70 : decode cX5_readBlock 70 = .ok (.if_icmp .ne 7, 3) := dc_at dkX5_readBlock_b4 0 rfl
theorem dX5_readBlock_73 : decode cX5_readBlock 73 = .ok (.iconst 1, 1) := dc_at dkX5_readBlock_b4 1 rfl
theorem dX5_readBlock_74 : decode cX5_readBlock 74 = .ok (.goto 4, 3) := dc_at dkX5_readBlock_b4 2 rfl
theorem dX5_readBlock_77 : decode cX5_readBlock 77 = .ok (.iconst 0, 1) := dc_at dkX5_readBlock_b4 3 rfl
theorem dX5_readBlock_78 : decode cX5_readBlock 78 = .ok (.istore_n 2, 1) := dc_at dkX5_readBlock_b4 4 rfl
theorem dX5_readBlock_79 : decode cX5_readBlock 79 = .ok (.goto (-75), 3) := dc_at dkX5_readBlock_b4 5 rfl
theorem dX5_readBlock_82 : decode cX5_readBlock 82 = .ok (.aload_n 0, 1) := dc_at dkX5_readBlock_b4 6 rfl
theorem dX5_readBlock_83 : decode cX5_readBlock 83 = .ok (.getfield 79, 3) := dc_at dkX5_readBlock_b4 7 rfl
theorem dX5_readBlock_86 : decode cX5_readBlock 86 = .ok (.ifCond .ne 23, 3) := dc_at dkX5_readBlock_b4 8 rfl
theorem dX5_readBlock_89 : decode cX5_readBlock 89 = .ok (.aload_n 0, 1) := dc_at dkX5_readBlock_b4 9 rfl
def drX5_readBlock_b5 : List (Nat × (Instr × Nat)) := [(90, (.getfield 23, 3)), (93, (.aload_n 0, 1)), (94, (.getfield 59, 3)), (97, (.iload_n 1, 1)), (98, (.iastore, 1)), (99, (.aload_n 0, 1)), (100, (.dup, 1)), (101, (.getfield 59, 3)), (104, (.iconst 1, 1)), (105, (.iadd, 1))]
theorem dkX5_readBlock_b5 : ((drX5_readBlock_b5).all fun r => decide (decode cX5_readBlock r.1 = .ok r.2)) = true := by decide +kernel
theorem dX5_readBlock_90 : decode cX5_readBlock 90 = .ok (.getfield 23, 3) := dc_at dkX5_readBlock_b5 0 rfl
theorem dX5_readBlock_93 : decode cX5_readBlock 93 = .ok (.aload_n 0, 1) := dc_at dkX5_readBlock_b5 1 rfl
theorem dX5_readBlock_94 : decode cX5_readBlock 94 = .ok (.getfield 59, 3) := dc_at dkX5_readBlock_b5 2 rfl
theorem dX5_readBlock_97 : decode cX5_readBlock 97 = .ok (.iload_n 1, 1) := dc_at dkX5_readBlock_b5 3 rfl
theorem dX5_readBlock_98 : decode cX5_readBlock 98 = .ok (.iastore, 1) := dc_at dkX5_readBlock_b5 4 rfl
theorem dX5_readBlock_99 : decode cX5_readBlock 99 = .ok (.aload_n 0, 1) := dc_at dkX5_readBlock_b5 5 rfl
theorem dX5_readBlock_100 : decode cX5_readBlock 100 = .ok (.dup, 1) := dc_at dkX5_readBlock_b5 6 rfl
theorem dX5_readBlock_101 : decode cX5_readBlock 101 = .ok (.getfield 59, 3) := dc_at dkX5_readBlock_b5 7 rfl
theorem dX5_readBlock_104 : decode cX5_readBlock 104 = .ok (.iconst 1, 1) := dc_at dkX5_readBlock_b5 8 rfl
theorem dX5_readBlock_105 : decode cX5_readBlock 105 = .ok (.iadd, 1) := dc_at dkX5_readBlock_b5 9 rfl
def drX5_readBlock_b6 : List (Nat × (Instr × Nat)) := [(106, (.putfield 59, 3)), (109, (.return_, 1))]
theorem dkX5_readBlock_b6 : ((drX5_readBlock_b6).all fun r => decide (decode cX5_readBlock r.1 = .ok r.2)) = true := by decide +kernel
theorem dX5_readBlock_106 : decode cX5_readBlock 106 = .ok (.putfield 59, 3) := dc_at dkX5_readBlock_b6 0 rfl
theorem dX5_readBlock_109 : decode cX5_readBlock 109 = .ok (.return_, 1) := dc_at dkX5_readBlock_b6 1 rfl
def drX5_lowest_b0 : List (Nat × (Instr × Nat)) := [(0, (.iload_n 0, 1)), (1, (.ifCond .ne 8, 3)), (4, (.bipush 20, 2)), (6, (.goto 34, 3)), (9, (.iload_n 0, 1)), (10, (.iconst 1, 1)), (11, (.if_icmp .ne 7, 3)), (14, (.iconst 5, 1)), (15, (.goto 25, 3)), (18, (.iload_n 0, 1))]
theorem dkX5_lowest_b0 : ((drX5_lowest_b0).all fun r => decide (decode cX5_lowest r.1 = .ok r.2)) = true := by decide +kernel
theorem dX5_lowest_0 : decode cX5_lowest 0 = .ok (.iload_n 0, 1) := dc_at dkX5_lowest_b0 0 rfl
theorem dX5_lowest_1 : decode cX5_lowest 1 = .ok (.ifCond .ne 8, 3) := dc_at dkX5_lowest_b0 1 rfl
theorem dX5_lowest_4 : decode cX5_lowest 4 = .ok (.bipush 20, 2) := dc_at dkX5_lowest_b0 2 rfl
theorem dX5_lowest_6 : decode cX5_lowest 6 = .ok (.goto 34, 3) := dc_at dkX5_lowest_b0 3 rfl
theorem dX5_lowest_9 : decode cX5_lowest 9 = .ok (.iload_n 0, 1) := dc_at dkX5_lowest_b0 4 rfl
theorem dX5_lowest_10 : decode cX5_lowest 10 = .ok (.iconst 1, 1) := dc_at dkX5_lowest_b0 5 rfl
theorem dX5_lowest_11 : decode cX5_lowest 11 = .ok (.if_icmp .ne 7, 3) := dc_at dkX5_lowest_b0 6 rfl
theorem dX5_lowest_14 : decode cX5_lowest 14 = .ok (.iconst 5, 1) := dc_at dkX5_lowest_b0 7 rfl
theorem dX5_lowest_15 : decode cX5_lowest 15 = .ok (.goto 25, 3) := dc_at dkX5_lowest_b0 8 rfl
theorem dX5_lowest_18 : decode cX5_lowest 18 = .ok (.iload_n 0, 1) := dc_at dkX5_lowest_b0 9 rfl
def drX5_lowest_b1 : List (Nat × (Instr × Nat)) := [(19, (.iconst 5, 1)), (20, (.if_icmp .eq 15, 3)), (23, (.iload_n 0, 1)), (24, (.bipush 6, 2)), (26, (.if_icmp .eq 9, 3)), (29, (.iload_n 0, 1)), (30, (.bipush 8, 2)), (32, (.if_icmp .ne 7, 3)), (35, (.iconst 0, 1)), (36, (.goto 4, 3))]
theorem dkX5_lowest_b1 : ((drX5_lowest_b1).all fun r => decide (decode cX5_lowest r.1 = .ok r.2)) = true := by decide +kernel
theorem dX5_lowest_19 : decode cX5_lowest 19 = .ok (.iconst 5, 1) := dc_at dkX5_lowest_b1 0 rfl
theorem dX5_lowest_20 : decode cX5_lowest 20 = .ok (.if_icmp .eq 15, 3) := dc_at dkX5_lowest_b1 1 rfl
theorem dX5_lowest_23 : decode cX5_lowest 23 = .ok (.iload_n 0, 1) := dc_at dkX5_lowest_b1 2 rfl
theorem dX5_lowest_24 : decode cX5_lowest 24 = .ok (.bipush 6, 2) := dc_at dkX5_lowest_b1 3 rfl
theorem dX5_lowest_26 : decode cX5_lowest 26 = .ok (.if_icmp .eq 9, 3) := dc_at dkX5_lowest_b1 4 rfl
theorem dX5_lowest_29 : decode cX5_lowest 29 = .ok (.iload_n 0, 1) := dc_at dkX5_lowest_b1 5 rfl
theorem dX5_lowest_30 : decode cX5_lowest 30 = .ok (.bipush 8, 2) := dc_at dkX5_lowest_b1 6 rfl
theorem dX5_lowest_32 : decode cX5_lowest 32 = .ok (.if_icmp .ne 7, 3) := dc_at dkX5_lowest_b1 7 rfl
theorem dX5_lowest_35 : decode cX5_lowest 35 = .ok (.iconst 0, 1) := dc_at dkX5_lowest_b1 8 rfl
theorem dX5_lowest_36 : decode cX5_lowest 36 = .ok (.goto 4, 3) := dc_at dkX5_lowest_b1 9 rfl
def drX5_lowest_b2 : List (Nat × (Instr × Nat)) := [(39, (.iconst 1, 1)), (40, (.ireturn, 1))]
theorem dkX5_lowest_b2 : ((drX5_lowest_b2).all fun r => decide (decode cX5_lowest r.1 = .ok r.2)) = true := by decide +kernel
theorem dX5_lowest_39 : decode cX5_lowest 39 = .ok (.iconst 1, 1) := dc_at dkX5_lowest_b2 0 rfl
theorem dX5_lowest_40 : decode cX5_lowest 40 = .ok (.ireturn, 1) := dc_at dkX5_lowest_b2 1 rfl
def drX5_highest_b0 : List (Nat × (Instr × Nat)) := [(0, (.iload_n 0, 1)), (1, (.ifCond .ne 9, 3)), (4, (.sipush 9999, 3)), (7, (.goto 33, 3)), (10, (.iload_n 0, 1)), (11, (.iconst 2, 1)), (12, (.if_icmp .eq 9, 3)), (15, (.iload_n 0, 1)), (16, (.bipush 7, 2)), (18, (.if_icmp .ne 8, 3))]
theorem dkX5_highest_b0 : ((drX5_highest_b0).all fun r => decide (decode cX5_highest r.1 = .ok r.2)) = true := by decide +kernel
theorem dX5_highest_0 : decode cX5_highest 0 = .ok (.iload_n 0, 1) := dc_at dkX5_highest_b0 0 rfl
theorem dX5_highest_1 : decode cX5_highest 1 = .ok (.ifCond .ne 9, 3) := dc_at dkX5_highest_b0 1 rfl
theorem dX5_highest_4 : decode cX5_highest 4 = .ok (.sipush 9999, 3) := dc_at dkX5_highest_b0 2 rfl
theorem dX5_highest_7 : decode cX5_highest 7 = .ok (.goto 33, 3) := dc_at dkX5_highest_b0 3 rfl
theorem dX5_highest_10 : decode cX5_highest 10 = .ok (.iload_n 0, 1) := dc_at dkX5_highest_b0 4 rfl
theorem dX5_highest_11 : decode cX5_highest 11 = .ok (.iconst 2, 1) := dc_at dkX5_highest_b0 5 rfl
theorem dX5_highest_12 : decode cX5_highest 12 = .ok (.if_icmp .eq 9, 3) := dc_at dkX5_highest_b0 6 rfl
theorem dX5_highest_15 : decode cX5_highest 15 = .ok (.iload_n 0, 1) := dc_at dkX5_highest_b0 7 rfl
theorem dX5_highest_16 : decode cX5_highest 16 = .ok (.bipush 7, 2) := dc_at dkX5_highest_b0 8 rfl
theorem dX5_highest_18 : decode cX5_highest 18 = .ok (.if_icmp .ne 8, 3) := dc_at dkX5_highest_b0 9 rfl
def drX5_highest_b1 : List (Nat × (Instr × Nat)) := [(21, (.bipush 9, 2)), (23, (.goto 17, 3)), (26, (.iload_n 0, 1)), (27, (.bipush 8, 2)), (29, (.if_icmp .ne 9, 3)), (32, (.sipush 999, 3)), (35, (.goto 5, 3)), (38, (.bipush 99, 2)), (40, (.ireturn, 1))]
theorem dkX5_highest_b1 : ((drX5_highest_b1).all fun r => decide (decode cX5_highest r.1 = .ok r.2)) = true := by decide +kernel
theorem dX5_highest_21 : decode cX5_highest 21 = .ok (.bipush 9, 2) := dc_at dkX5_highest_b1 0 rfl
theorem dX5_highest_23 : decode cX5_highest 23 = .ok (.goto 17, 3) := dc_at dkX5_highest_b1 1 rfl
theorem dX5_highest_26 : decode cX5_highest 26 = .ok (.iload_n 0, 1) := dc_at dkX5_highest_b1 2 rfl
theorem dX5_highest_27 : decode cX5_highest 27 = .ok (.bipush 8, 2) := dc_at dkX5_highest_b1 3 rfl
theorem dX5_highest_29 : decode cX5_highest 29 = .ok (.if_icmp .ne 9, 3) := dc_at dkX5_highest_b1 4 rfl
theorem dX5_highest_32 : decode cX5_highest 32 = .ok (.sipush 999, 3) := dc_at dkX5_highest_b1 5 rfl
theorem dX5_highest_35 : decode cX5_highest 35 = .ok (.goto 5, 3) := dc_at dkX5_highest_b1 6 rfl
theorem dX5_highest_38 : decode cX5_highest 38 = .ok (.bipush 99, 2) := dc_at dkX5_highest_b1 7 rfl
theorem dX5_highest_40 : decode cX5_highest 40 = .ok (.ireturn, 1) := dc_at dkX5_highest_b1 8 rfl
def drX5_readLine_b0 : List (Nat × (Instr × Nat)) := [(0, (.aload_n 0, 1)), (1, (.getfield 99, 3)), (4, (.iconst 1, 1)), (5, (.if_icmp .ne 10, 3)), (8, (.aload_n 0, 1)), (9, (.invokevirtual 124, 3)), (12, (.goto 5, 3)), (15, (.bipush (-4), 2)), (17, (.istore_n 1, 1)), (18, (.aload_n 0, 1))]
theorem dkX5_readLine_b0 : ((drX5_readLine_b0).all fun r => decide (decode cX5_readLine r.1 = .ok r.2)) = true := by decide +kernel
theorem dX5_readLine_0 : decode cX5_readLine 0 = .ok (.aload_n 0, 1) := dc_at dkX5_readLine_b0 0 rfl
theorem dX5_readLine_1 : decode cX5_readLine 1 = .ok (.getfield 99, 3) := dc_at dkX5_readLine_b0 1 rfl
theorem dX5_readLine_4 : decode cX5_readLine 4 = .ok (.iconst 1, 1) := dc_at dkX5_readLine_b0 2 rfl
theorem dX5_readLine_5 : decode cX5_readLine 5 = .ok (.if_icmp .ne 10, 3) := dc_at dkX5_readLine_b0 3 rfl
theorem dX5_readLine_8 : decode cX5_readLine 8 = .ok (.aload_n 0, 1) := dc_at dkX5_readLine_b0 4 rfl
theorem dX5_readLine_9 : decode cX5_readLine 9 = .ok (.invokevirtual 124, 3) := dc_at dkX5_readLine_b0 5 rfl
theorem dX5_readLine_12 : decode cX5_readLine 12 = .ok (.goto 5, 3) := dc_at dkX5_readLine_b0 6 rfl
theorem dX5_readLine_15 : decode cX5_readLine 15 = .ok (.bipush (-4), 2) := dc_at dkX5_readLine_b0 7 rfl
theorem dX5_readLine_17 : decode cX5_readLine 17 = .ok (.istore_n 1, 1) := dc_at dkX5_readLine_b0 8 rfl
theorem dX5_readLine_18 : decode cX5_readLine 18 = .ok (.aload_n 0, 1) := dc_at dkX5_readLine_b0 9 rfl
def drX5_readLine_b1 : List (Nat × (Instr × Nat)) := [(19, (.iload_n 1, 1)), (20, (.bipush (-4), 2)), (22, (.if_icmp .eq 7, 3)), (25, (.iconst 1, 1)), (26, (.goto 4, 3)), (29, (.iconst 0, 1)), (30, (.iconst 2, 1)), (31, (.invokevirtual 113, 3)), (34, (.aload_n 0, 1)), (35, (.iload_n 1, 1))]
theorem dkX5_readLine_b1 : ((drX5_readLine_b1).all fun r => decide (decode cX5_readLine r.1 = .ok r.2)) = true := by decide +kernel
theorem dX5_readLine_19 : decode cX5_readLine 19 = .ok (.iload_n 1, 1) := dc_at dkX5_readLine_b1 0 rfl
theorem dX5_readLine_20 : decode cX5_readLine 20 = .ok (.bipush (-4), 2) := dc_at dkX5_readLine_b1 1 rfl
theorem dX5_readLine_22 : decode cX5_readLine 22 = .ok (.if_icmp .eq 7, 3) := dc_at dkX5_readLine_b1 2 rfl
theorem dX5_readLine_25 : decode cX5_readLine 25 = .ok (.iconst 1, 1) := dc_at dkX5_readLine_b1 3 rfl
theorem dX5_readLine_26 : decode cX5_readLine 26 = .ok (.goto 4, 3) := dc_at dkX5_readLine_b1 4 rfl
theorem dX5_readLine_29 : decode cX5_readLine 29 = .ok (.iconst 0, 1) := dc_at dkX5_readLine_b1 5 rfl
theorem dX5_readLine_30 : decode cX5_readLine 30 = .ok (.iconst 2, 1) := dc_at dkX5_readLine_b1 6 rfl
theorem dX5_readLine_31 : decode cX5_readLine 31 = .ok (.invokevirtual 113, 3) := dc_at dkX5_readLine_b1 7 rfl
theorem dX5_readLine_34 : decode cX5_readLine 34 = .ok (.aload_n 0, 1) := dc_at dkX5_readLine_b1 8 rfl
theorem dX5_readLine_35 : decode cX5_readLine 35 = .ok (.iload_n 1, 1) := dc_at dkX5_readLine_b1 9 rfl
def drX5_readLine_b2 : List (Nat × (Instr × Nat)) := [(36, (.bipush 10, 2)), (38, (.if_icmp .lt 12, 3)), (41, (.aload_n 0, 1)), (42, (.getfield 59, 3)), (45, (.bipush 12, 2)), (47, (.if_icmp .ge 7, 3)), (50, (.iconst 1, 1)), (51, (.goto 4, 3)), (54, (.iconst 0, 1)), (55, (.iconst 5, 1))]
theorem dkX5_readLine_b2 : ((drX5_readLine_b2).all fun r => decide (decode cX5_readLine r.1 = .ok r.2)) = true := by decide +kernel
theorem dX5_readLine_36 : decode cX5_readLine 36 = .ok (.bipush 10, 2) := dc_at dkX5_readLine_b2 0 rfl
theorem dX5_readLine_38 : decode cX5_readLine 38 = .ok (.if_icmp .lt 12, 3) := dc_at dkX5_readLine_b2 1 rfl
theorem dX5_readLine_41 : decode cX5_readLine 41 = .ok (.aload_n 0, 1) := dc_at dkX5_readLine_b2 2 rfl
theorem dX5_readLine_42 : decode cX5_readLine 42 = .ok (.getfield 59, 3) := dc_at dkX5_readLine_b2 3 rfl
theorem dX5_readLine_45 : decode cX5_readLine 45 = .ok (.bipush 12, 2) := dc_at dkX5_readLine_b2 4 rfl
theorem dX5_readLine_47 : decode cX5_readLine 47 = .ok (.if_icmp .ge 7, 3) := dc_at dkX5_readLine_b2 5 rfl
theorem dX5_readLine_50 : decode cX5_readLine 50 = .ok (.iconst 1, 1) := dc_at dkX5_readLine_b2 6 rfl
theorem dX5_readLine_51 : decode cX5_readLine 51 = .ok (.goto 4, 3) := dc_at dkX5_readLine_b2 7 rfl
theorem dX5_readLine_54 : decode cX5_readLine 54 = .ok (.iconst 0, 1) := dc_at dkX5_readLine_b2 8 rfl
theorem dX5_readLine_55 : decode cX5_readLine 55 = .ok (.iconst 5, 1) := dc_at dkX5_readLine_b2 9 rfl
def drX5_readLine_b3 : List (Nat × (Instr × Nat)) := [(56, (.invokevirtual 113, 3)), (59, (.aload_n 0, 1)), (60, (.getfield 79, 3)), (63, (.ifCond .ne 42, 3)), (66, (.iload_n 1, 1)), (67, (.bipush 10, 2)), (69, (.if_icmp .ge 36, 3)), (72, (.aload_n 0, 1)), (73, (.aload_n 0, 1)), (74, (.getfield 63, 3))]
theorem dkX5_readLine_b3 : ((drX5_readLine_b3).all fun r => decide (decode cX5_readLine r.1 = .ok r.2)) = true := by decide +kernel
theorem dX5_readLine_56 : decode cX5_readLine 56 = .ok (.invokevirtual 113, 3) := dc_at dkX5_readLine_b3 0 rfl
theorem dX5_readLine_59 : decode cX5_readLine 59 = .ok (.aload_n 0, 1) := dc_at dkX5_readLine_b3 1 rfl
theorem dX5_readLine_60 : decode cX5_readLine 60 = .ok (.getfield 79, 3) := dc_at dkX5_readLine_b3 2 rfl
theorem dX5_readLine_63 : decode cX5_readLine 63 = .ok (.ifCond .ne 42, 3) := dc_at dkX5_readLine_b3 3 rfl
theorem dX5_readLine_66 : decode cX5_readLine 66 = .ok (.iload_n 1, 1) := dc_at dkX5_readLine_b3 4 rfl
theorem dX5_readLine_67 : decode cX5_readLine 67 = .ok (.bipush 10, 2) := dc_at dkX5_readLine_b3 5 rfl
theorem dX5_readLine_69 : decode cX5_readLine 69 = .ok (.if_icmp .ge 36, 3) := dc_at dkX5_readLine_b3 6 rfl
theorem dX5_readLine_72 : decode cX5_readLine 72 = .ok (.aload_n 0, 1) := dc_at dkX5_readLine_b3 7 rfl
theorem dX5_readLine_73 : decode cX5_readLine 73 = .ok (.aload_n 0, 1) := dc_at dkX5_readLine_b3 8 rfl
theorem dX5_readLine_74 : decode cX5_readLine 74 = .ok (.getfield 63, 3) := dc_at dkX5_readLine_b3 9 rfl
def drX5_readLine_b4 : List (Nat × (Instr × Nat)) := [(77, (.iload_n 1, 1)), (78, (.ishr, 1)), (79, (.iconst 1, 1)), (80, (.iand, 1)), (81, (.ifCond .ne 7, 3)), (84, (.iconst 1, 1)), (85, (.goto 4, 3)), (88, (.iconst 0, 1)), (89, (.iconst 4, 1)), (90, (.invokevirtual 113, 3))]
theorem dkX5_readLine_b4 : ((drX5_readLine_b4).all fun r => decide (decode cX5_readLine r.1 = .ok r.2)) = true := by decide +kernel
theorem dX5_readLine_77 : decode cX5_readLine 77 = .ok (.iload_n 1, 1) := dc_at dkX5_readLine_b4 0 rfl
theorem dX5_readLine_78 : decode cX5_readLine 78 = .ok (.ishr, 1) := dc_at dkX5_readLine_b4 1 rfl
theorem dX5_readLine_79 : decode cX5_readLine 79 = .ok (.iconst 1, 1) := dc_at dkX5_readLine_b4 2 rfl
theorem dX5_readLine_80 : decode cX5_readLine 80 = .ok (.iand, 1) := dc_at dkX5_readLine_b4 3 rfl
theorem dX5_readLine_81 : decode cX5_readLine 81 = .ok (.ifCond .ne 7, 3) := dc_at dkX5_readLine_b4 4 rfl
theorem dX5_readLine_84 : decode cX5_readLine 84 = .ok (.iconst 1, 1) := dc_at dkX5_readLine_b4 5 rfl
theorem dX5_readLine_85 : decode cX5_readLine 85 = .ok (.goto 4, 3) := dc_at dkX5_readLine_b4 6 rfl
theorem dX5_readLine_88 : decode cX5_readLine 88 = .ok (.iconst 0, 1) := dc_at dkX5_readLine_b4 7 rfl
theorem dX5_readLine_89 : decode cX5_readLine 89 = .ok (.iconst 4, 1) := dc_at dkX5_readLine_b4 8 rfl
theorem dX5_readLine_90 : decode cX5_readLine 90 = .ok (.invokevirtual 113, 3) := dc_at dkX5_readLine_b4 9 rfl
def drX5_readLine_b5 : List (Nat × (Instr × Nat)) := [(93, (.aload_n 0, 1)), (94, (.dup, 1)), (95, (.getfield 63, 3)), (98, (.iconst 1, 1)), (99, (.iload_n 1, 1)), (100, (.ishl, 1)), (101, (.ior, 1)), (102, (.putfield 63, 3)), (105, (.aload_n 0, 1)), (106, (.invokevirtual 117, 3))]
theorem dkX5_readLine_b5 : ((drX5_readLine_b5).all fun r => decide (decode cX5_readLine r.1 = .ok r.2)) = true := by decide +kernel
theorem dX5_readLine_93 : decode cX5_readLine 93 = .ok (.aload_n 0, 1) := dc_at dkX5_readLine_b5 0 rfl
theorem dX5_readLine_94 : decode cX5_readLine 94 = .ok (.dup, 1) := dc_at dkX5_readLine_b5 1 rfl
theorem dX5_readLine_95 : decode cX5_readLine 95 = .ok (.getfield 63, 3) := dc_at dkX5_readLine_b5 2 rfl
theorem dX5_readLine_98 : decode cX5_readLine 98 = .ok (.iconst 1, 1) := dc_at dkX5_readLine_b5 3 rfl
theorem dX5_readLine_99 : decode cX5_readLine 99 = .ok (.iload_n 1, 1) := dc_at dkX5_readLine_b5 4 rfl
theorem dX5_readLine_100 : decode cX5_readLine 100 = .ok (.ishl, 1) := dc_at dkX5_readLine_b5 5 rfl
theorem dX5_readLine_101 : decode cX5_readLine 101 = .ok (.ior, 1) := dc_at dkX5_readLine_b5 6 rfl
theorem dX5_readLine_102 : decode cX5_readLine 102 = .ok (.putfield 63, 3) := dc_at dkX5_readLine_b5 7 rfl
theorem dX5_readLine_105 : decode cX5_readLine 105 = .ok (.aload_n 0, 1) := dc_at dkX5_readLine_b5 8 rfl
theorem dX5_readLine_106 : decode cX5_readLine 106 = .ok (.invokevirtual 117, 3) := dc_at dkX5_readLine_b5 9 rfl
def drX5_readLine_b6 : List (Nat × (Instr × Nat)) := [(109, (.aload_n 0, 1)), (110, (.getfield 79, 3)), (113, (.ifCond .le 4, 3)), (116, (.return_, 1)), (117, (.iload_n 1, 1)), (118, (.bipush 10, 2)), (120, (.if_icmp .ne 10, 3)), (123, (.aload_n 0, 1)), (124, (.invokevirtual 128, 3)), (127, (.goto 50, 3))]
theorem dkX5_readLine_b6 : ((drX5_readLine_b6).all fun r => decide (decode cX5_readLine r.1 = .ok r.2)) = true := by decide +kernel
theorem dX5_readLine_109 : decode cX5_readLine 109 = .ok (.aload_n 0, 1) := dc_at dkX5_readLine_b6 0 rfl
theorem dX5_readLine_110 : decode cX5_readLine 110 = .ok (.getfield 79, 3) := dc_at dkX5_readLine_b6 1 rfl
theorem dX5_readLine_113 : decode cX5_readLine 113 = .ok (.ifCond .le 4, 3) := dc_at dkX5_readLine_b6 2 rfl
theorem dX5_readLine_116 : decode cX5_readLine 116 = .ok (.return_, 1) := dc_at dkX5_readLine_b6 3 rfl
theorem dX5_readLine_117 : decode cX5_readLine 117 = .ok (.iload_n 1, 1) := dc_at dkX5_readLine_b6 4 rfl
theorem dX5_readLine_118 : decode cX5_readLine 118 = .ok (.bipush 10, 2) := dc_at dkX5_readLine_b6 5 rfl
theorem dX5_readLine_120 : decode cX5_readLine 120 = .ok (.if_icmp .ne 10, 3) := dc_at dkX5_readLine_b6 6 rfl
theorem dX5_readLine_123 : decode cX5_readLine 123 = .ok (.aload_n 0, 1) := dc_at dkX5_readLine_b6 7 rfl
theorem dX5_readLine_124 : decode cX5_readLine 124 = .ok (.invokevirtual 128, 3) := dc_at dkX5_readLine_b6 8 rfl
theorem dX5_readLine_127 : decode cX5_readLine 127 = .ok (.goto 50, 3) := dc_at dkX5_readLine_b6 9 rfl
def drX5_readLine_b7 : List (Nat × (Instr × Nat)) := [(130, (.iload_n 1, 1)), (131, (.bipush 11, 2)), (133, (.if_icmp .ne 26, 3)), (136, (.aload_n 0, 1)), (137, (.getfield 23, 3)), (140, (.aload_n 0, 1)), (141, (.getfield 59, 3)), (144, (.iconst 0, 1)), (145, (.iastore, 1)), (146, (.aload_n 0, 1))]
theorem dkX5_readLine_b7 : ((drX5_readLine_b7).all fun r => decide (decode cX5_readLine r.1 = .ok r.2)) = true := by decide +kernel
theorem dX5_readLine_130 : decode cX5_readLine 130 = .ok (.iload_n 1, 1) := dc_at dkX5_readLine_b7 0 rfl
theorem dX5_readLine_131 : decode cX5_readLine 131 = .ok (.bipush 11, 2) := dc_at dkX5_readLine_b7 1 rfl
theorem dX5_readLine_133 : decode cX5_readLine 133 = .ok (.if_icmp .ne 26, 3) := dc_at dkX5_readLine_b7 2 rfl
theorem dX5_readLine_136 : decode cX5_readLine 136 = .ok (.aload_n 0, 1) := dc_at dkX5_readLine_b7 3 rfl
theorem dX5_readLine_137 : decode cX5_readLine 137 = .ok (.getfield 23, 3) := dc_at dkX5_readLine_b7 4 rfl
theorem dX5_readLine_140 : decode cX5_readLine 140 = .ok (.aload_n 0, 1) := dc_at dkX5_readLine_b7 5 rfl
theorem dX5_readLine_141 : decode cX5_readLine 141 = .ok (.getfield 59, 3) := dc_at dkX5_readLine_b7 6 rfl
theorem dX5_readLine_144 : decode cX5_readLine 144 = .ok (.iconst 0, 1) := dc_at dkX5_readLine_b7 7 rfl
theorem dX5_readLine_145 : decode cX5_readLine 145 = .ok (.iastore, 1) := dc_at dkX5_readLine_b7 8 rfl
theorem dX5_readLine_146 : decode cX5_readLine 146 = .ok (.aload_n 0, 1) := dc_at dkX5_readLine_b7 9 rfl
def drX5_readLine_b8 : List (Nat × (Instr × Nat)) := [(147, (.dup, 1)), (148, (.getfield 59, 3)), (151, (.iconst 1, 1)), (152, (.iadd, 1)), (153, (.putfield 59, 3)), (156, (.goto 21, 3)), (159, (.aload_n 0, 1)), (160, (.getfield 20, 3)), (163, (.iload_n 1, 1)), (164, (.aload_n 0, 1))]
theorem dkX5_readLine_b8 : ((drX5_readLine_b8).all fun r => decide (decode cX5_readLine r.1 = .ok r.2)) = true := by decide +kernel
theorem dX5_readLine_147 : decode cX5_readLine 147 = .ok (.dup, 1) := dc_at dkX5_readLine_b8 0 rfl
theorem dX5_readLine_148 : decode cX5_readLine 148 = .ok (.getfield 59, 3) := dc_at dkX5_readLine_b8 1 rfl
theorem dX5_readLine_151 : decode cX5_readLine 151 = .ok (.iconst 1, 1) := dc_at dkX5_readLine_b8 2 rfl
theorem dX5_readLine_152 : decode cX5_readLine 152 = .ok (.iadd, 1) := dc_at dkX5_readLine_b8 3 rfl
theorem dX5_readLine_153 : decode cX5_readLine 153 = .ok (.putfield 59, 3) := dc_at dkX5_readLine_b8 4 rfl
theorem dX5_readLine_156 : decode cX5_readLine 156 = .ok (.goto 21, 3) := dc_at dkX5_readLine_b8 5 rfl
theorem dX5_readLine_159 : decode cX5_readLine 159 = .ok (.aload_n 0, 1) := dc_at dkX5_readLine_b8 6 rfl
theorem dX5_readLine_160 : decode cX5_readLine 160 = .ok (.getfield 20, 3) := dc_at dkX5_readLine_b8 7 rfl
theorem dX5_readLine_163 : decode cX5_readLine 163 = .ok (.iload_n 1, 1) := dc_at dkX5_readLine_b8 8 rfl
theorem dX5_readLine_164 : decode cX5_readLine 164 = .ok (.aload_n 0, 1) := dc_at dkX5_readLine_b8 9 rfl
def drX5_readLine_b9 : List (Nat × (Instr × Nat)) := [(165, (.iload_n 1, 1)), (166, (.invokestatic 131, 3)), (169, (.iload_n 1, 1)), (170, (.invokestatic 134, 3)), (173, (.invokevirtual 120, 3)), (176, (.iastore, 1)), (177, (.aload_n 0, 1)), (178, (.getfield 79, 3)), (181, (.ifCond .ne 21, 3)), (184, (.aload_n 0, 1))]
theorem dkX5_readLine_b9 : ((drX5_readLine_b9).all fun r => decide (decode cX5_readLine r.1 = .ok r.2)) = true := by decide +kernel
theorem dX5_readLine_165 : decode cX5_readLine 165 = .ok (.iload_n 1, 1) := dc_at dkX5_readLine_b9 0 rfl
theorem dX5_readLine_166 : decode cX5_readLine 166 = .ok (.invokestatic 131, 3) := dc_at dkX5_readLine_b9 1 rfl
theorem dX5_readLine_169 : decode cX5_readLine 169 = .ok (.iload_n 1, 1) := dc_at dkX5_readLine_b9 2 rfl
theorem dX5_readLine_170 : decode cX5_readLine 170 = .ok (.invokestatic 134, 3) := dc_at dkX5_readLine_b9 3 rfl
theorem dX5_readLine_173 : decode cX5_readLine 173 = .ok (.invokevirtual 120, 3) := dc_at dkX5_readLine_b9 4 rfl
theorem dX5_readLine_176 : decode cX5_readLine 176 = .ok (.iastore, 1) := dc_at dkX5_readLine_b9 5 rfl
theorem dX5_readLine_177 : decode cX5_readLine 177 = .ok (.aload_n 0, 1) := dc_at dkX5_readLine_b9 6 rfl
theorem dX5_readLine_178 : decode cX5_readLine 178 = .ok (.getfield 79, 3) := dc_at dkX5_readLine_b9 7 rfl
theorem dX5_readLine_181 : decode cX5_readLine 181 = .ok (.ifCond .ne 21, 3) := dc_at dkX5_readLine_b9 8 rfl
theorem dX5_readLine_184 : decode cX5_readLine 184 = .ok (.aload_n 0, 1) := dc_at dkX5_readLine_b9 9 rfl
def drX5_readLine_b10 : List (Nat × (Instr × Nat)) := [(185, (.aload_n 0, 1)), (186, (.getfield 99, 3)), (189, (.iconst 3, 1)), (190, (.if_icmp .ne 7, 3)), (193, (.iconst 1, 1)), (194, (.goto 4, 3)), (197, (.iconst 0, 1)), (198, (.iconst 2, 1)), (199, (.invokevirtual 113, 3)), (202, (.aload_n 0, 1))]
theorem dkX5_readLine_b10 : ((drX5_readLine_b10).all fun r => decide (decode cX5_readLine r.1 = .ok r.2)) = true := by decide +kernel
theorem dX5_readLine_185 : decode cX5_readLine 185 = .ok (.aload_n 0, 1) := dc_at dkX5_readLine_b10 0 rfl
theorem dX5_readLine_186 : decode cX5_readLine 186 = .ok (.getfield 99, 3) := dc_at dkX5_readLine_b10 1 rfl
theorem dX5_readLine_189 : decode cX5_readLine 189 = .ok (.iconst 3, 1) := dc_at dkX5_readLine_b10 2 rfl
theorem dX5_readLine_190 : decode cX5_readLine 190 = .ok (.if_icmp .ne 7, 3) := dc_at dkX5_readLine_b10 3 rfl
theorem dX5_readLine_193 : decode cX5_readLine 193 = .ok (.iconst 1, 1) := dc_at dkX5_readLine_b10 4 rfl
theorem dX5_readLine_194 : decode cX5_readLine 194 = .ok (.goto 4, 3) := dc_at dkX5_readLine_b10 5 rfl
theorem dX5_readLine_197 : decode cX5_readLine 197 = .ok (.iconst 0, 1) := dc_at dkX5_readLine_b10 6 rfl
theorem dX5_readLine_198 : decode cX5_readLine 198 = .ok (.iconst 2, 1) := dc_at dkX5_readLine_b10 7 rfl
theorem dX5_readLine_199 : decode cX5_readLine 199 = .ok (.invokevirtual 113, 3) := dc_at dkX5_readLine_b10 8 rfl
theorem dX5_readLine_202 : decode cX5_readLine 202 = .ok (.aload_n 0, 1) := dc_at dkX5_readLine_b10 9 rfl
def drX5_readLine_b11 : List (Nat × (Instr × Nat)) := [(203, (.invokevirtual 117, 3)), (206, (.return_, 1))]
theorem dkX5_readLine_b11 : ((drX5_readLine_b11).all fun r => decide (decode cX5_readLine r.1 = .ok r.2)) = true := by decide +kernel
theorem dX5_readLine_203 : decode cX5_readLine 203 = .ok (.invokevirtual 117, 3) := dc_at dkX5_readLine_b11 0 rfl
theorem dX5_readLine_206 : decode cX5_readLine 206 = .ok (.return_, 1) := dc_at dkX5_readLine_b11 1 rfl
