theorem hdL_X4_feed : yX4_feed.cls = RX4 ∧ yX4_feed.cls ≠ "java/lang/invoke/MethodHandle" ∧ yX4_feed.cls ≠ "java/lang/invoke/VarHandle" ∧ (parseMethodDescriptor yX4_feed.desc).map (fun d => d.parameters.length) = some 1 := by decide +kernel
theorem hdL_X5_feed : yX5_feed.cls = RX5 ∧ yX5_feed.cls ≠ "java/lang/invoke/MethodHandle" ∧ yX5_feed.cls ≠ "java/lang/invoke/VarHandle" ∧ (parseMethodDescriptor yX5_feed.desc).map (fun d => d.parameters.length) = some 1 := by decide +kernel
theorem hdL_X4_end : yX4_end.cls = RX4 ∧ yX4_end.cls ≠ "java/lang/invoke/MethodHandle" ∧ yX4_end.cls ≠ "java/lang/invoke/VarHandle" ∧ (parseMethodDescriptor yX4_end.desc).map (fun d => d.parameters.length) = some 1 := by decide +kernel
theorem hdL_X5_end : yX5_end.cls = RX5 ∧ yX5_end.cls ≠ "java/lang/invoke/MethodHandle" ∧ yX5_end.cls ≠ "java/lang/invoke/VarHandle" ∧ (parseMethodDescriptor yX5_end.desc).map (fun d => d.parameters.length) = some 1 := by decide +kernel
theorem hdL_X4_text : yX4_text.cls = RX4 ∧ yX4_text.cls ≠ "java/lang/invoke/MethodHandle" ∧ yX4_text.cls ≠ "java/lang/invoke/VarHandle" ∧ (parseMethodDescriptor yX4_text.desc).map (fun d => d.parameters.length) = some 0 := by decide +kernel
theorem hdL_X5_text : yX5_text.cls = RX5 ∧ yX5_text.cls ≠ "java/lang/invoke/MethodHandle" ∧ yX5_text.cls ≠ "java/lang/invoke/VarHandle" ∧ (parseMethodDescriptor yX5_text.desc).map (fun d => d.parameters.length) = some 0 := by decide +kernel
theorem hdL_X4_fault : yX4_fault.cls = RX4 ∧ yX4_fault.cls ≠ "java/lang/invoke/MethodHandle" ∧ yX4_fault.cls ≠ "java/lang/invoke/VarHandle" ∧ (parseMethodDescriptor yX4_fault.desc).map (fun d => d.parameters.length) = some 0 := by decide +kernel
theorem hdL_X5_fault : yX5_fault.cls = RX5 ∧ yX5_fault.cls ≠ "java/lang/invoke/MethodHandle" ∧ yX5_fault.cls ≠ "java/lang/invoke/VarHandle" ∧ (parseMethodDescriptor yX5_fault.desc).map (fun d => d.parameters.length) = some 0 := by decide +kernel
theorem hdL_X4_rule : yX4_rule.cls = RX4 ∧ yX4_rule.cls ≠ "java/lang/invoke/MethodHandle" ∧ yX4_rule.cls ≠ "java/lang/invoke/VarHandle" ∧ (parseMethodDescriptor yX4_rule.desc).map (fun d => d.parameters.length) = some 1 := by decide +kernel
theorem hdL_X5_rule : yX5_rule.cls = RX5 ∧ yX5_rule.cls ≠ "java/lang/invoke/MethodHandle" ∧ yX5_rule.cls ≠ "java/lang/invoke/VarHandle" ∧ (parseMethodDescriptor yX5_rule.desc).map (fun d => d.parameters.length) = some 1 := by decide +kernel
theorem hdL_X4_turns : yX4_turns.cls = RX4 ∧ yX4_turns.cls ≠ "java/lang/invoke/MethodHandle" ∧ yX4_turns.cls ≠ "java/lang/invoke/VarHandle" ∧ (parseMethodDescriptor yX4_turns.desc).map (fun d => d.parameters.length) = some 2 := by decide +kernel
theorem hdL_X5_turns : yX5_turns.cls = RX5 ∧ yX5_turns.cls ≠ "java/lang/invoke/MethodHandle" ∧ yX5_turns.cls ≠ "java/lang/invoke/VarHandle" ∧ (parseMethodDescriptor yX5_turns.desc).map (fun d => d.parameters.length) = some 2 := by decide +kernel
theorem hdL_X4_shows : yX4_shows.cls = RX4 ∧ yX4_shows.cls ≠ "java/lang/invoke/MethodHandle" ∧ yX4_shows.cls ≠ "java/lang/invoke/VarHandle" ∧ (parseMethodDescriptor yX4_shows.desc).map (fun d => d.parameters.length) = some 2 := by decide +kernel
theorem hdL_X5_shows : yX5_shows.cls = RX5 ∧ yX5_shows.cls ≠ "java/lang/invoke/MethodHandle" ∧ yX5_shows.cls ≠ "java/lang/invoke/VarHandle" ∧ (parseMethodDescriptor yX5_shows.desc).map (fun d => d.parameters.length) = some 2 := by decide +kernel
theorem hdL_X4_meet : yX4_meet.cls = RX4 ∧ yX4_meet.cls ≠ "java/lang/invoke/MethodHandle" ∧ yX4_meet.cls ≠ "java/lang/invoke/VarHandle" ∧ (parseMethodDescriptor yX4_meet.desc).map (fun d => d.parameters.length) = some 0 := by decide +kernel
theorem hdL_X5_meet : yX5_meet.cls = RX5 ∧ yX5_meet.cls ≠ "java/lang/invoke/MethodHandle" ∧ yX5_meet.cls ≠ "java/lang/invoke/VarHandle" ∧ (parseMethodDescriptor yX5_meet.desc).map (fun d => d.parameters.length) = some 0 := by decide +kernel
theorem hdL_X4_ticks : yX4_ticks.cls = RX4 ∧ yX4_ticks.cls ≠ "java/lang/invoke/MethodHandle" ∧ yX4_ticks.cls ≠ "java/lang/invoke/VarHandle" ∧ (parseMethodDescriptor yX4_ticks.desc).map (fun d => d.parameters.length) = some 3 := by decide +kernel
theorem hdL_X5_ticks : yX5_ticks.cls = RX5 ∧ yX5_ticks.cls ≠ "java/lang/invoke/MethodHandle" ∧ yX5_ticks.cls ≠ "java/lang/invoke/VarHandle" ∧ (parseMethodDescriptor yX5_ticks.desc).map (fun d => d.parameters.length) = some 3 := by decide +kernel
theorem hdL_X4_go : yX4_go.cls = RX4 ∧ yX4_go.cls ≠ "java/lang/invoke/MethodHandle" ∧ yX4_go.cls ≠ "java/lang/invoke/VarHandle" ∧ (parseMethodDescriptor yX4_go.desc).map (fun d => d.parameters.length) = some 1 := by decide +kernel
theorem hdL_X5_go : yX5_go.cls = RX5 ∧ yX5_go.cls ≠ "java/lang/invoke/MethodHandle" ∧ yX5_go.cls ≠ "java/lang/invoke/VarHandle" ∧ (parseMethodDescriptor yX5_go.desc).map (fun d => d.parameters.length) = some 1 := by decide +kernel
theorem hdL_X4_now : yX4_now.cls = RX4 ∧ yX4_now.cls ≠ "java/lang/invoke/MethodHandle" ∧ yX4_now.cls ≠ "java/lang/invoke/VarHandle" ∧ (parseMethodDescriptor yX4_now.desc).map (fun d => d.parameters.length) = some 1 := by decide +kernel
theorem hdL_X5_now : yX5_now.cls = RX5 ∧ yX5_now.cls ≠ "java/lang/invoke/MethodHandle" ∧ yX5_now.cls ≠ "java/lang/invoke/VarHandle" ∧ (parseMethodDescriptor yX5_now.desc).map (fun d => d.parameters.length) = some 1 := by decide +kernel
theorem hdL_X4_within : yX4_within.cls = RX4 ∧ yX4_within.cls ≠ "java/lang/invoke/MethodHandle" ∧ yX4_within.cls ≠ "java/lang/invoke/VarHandle" ∧ (parseMethodDescriptor yX4_within.desc).map (fun d => d.parameters.length) = some 2 := by decide +kernel
theorem hdL_X5_within : yX5_within.cls = RX5 ∧ yX5_within.cls ≠ "java/lang/invoke/MethodHandle" ∧ yX5_within.cls ≠ "java/lang/invoke/VarHandle" ∧ (parseMethodDescriptor yX5_within.desc).map (fun d => d.parameters.length) = some 2 := by decide +kernel
theorem hdL_X4_block : yX4_block.cls = RX4 ∧ yX4_block.cls ≠ "java/lang/invoke/MethodHandle" ∧ yX4_block.cls ≠ "java/lang/invoke/VarHandle" ∧ (parseMethodDescriptor yX4_block.desc).map (fun d => d.parameters.length) = some 2 := by decide +kernel
theorem hdL_X5_block : yX5_block.cls = RX5 ∧ yX5_block.cls ≠ "java/lang/invoke/MethodHandle" ∧ yX5_block.cls ≠ "java/lang/invoke/VarHandle" ∧ (parseMethodDescriptor yX5_block.desc).map (fun d => d.parameters.length) = some 2 := by decide +kernel
theorem hdL_X4_blockAt : yX4_blockAt.cls = RX4 ∧ yX4_blockAt.cls ≠ "java/lang/invoke/MethodHandle" ∧ yX4_blockAt.cls ≠ "java/lang/invoke/VarHandle" ∧ (parseMethodDescriptor yX4_blockAt.desc).map (fun d => d.parameters.length) = some 1 := by decide +kernel
theorem hdL_X5_blockAt : yX5_blockAt.cls = RX5 ∧ yX5_blockAt.cls ≠ "java/lang/invoke/MethodHandle" ∧ yX5_blockAt.cls ≠ "java/lang/invoke/VarHandle" ∧ (parseMethodDescriptor yX5_blockAt.desc).map (fun d => d.parameters.length) = some 1 := by decide +kernel
theorem hdL_X4_type : yX4_type.cls = RX4 ∧ yX4_type.cls ≠ "java/lang/invoke/MethodHandle" ∧ yX4_type.cls ≠ "java/lang/invoke/VarHandle" ∧ (parseMethodDescriptor yX4_type.desc).map (fun d => d.parameters.length) = some 1 := by decide +kernel
theorem hdL_X5_type : yX5_type.cls = RX5 ∧ yX5_type.cls ≠ "java/lang/invoke/MethodHandle" ∧ yX5_type.cls ≠ "java/lang/invoke/VarHandle" ∧ (parseMethodDescriptor yX5_type.desc).map (fun d => d.parameters.length) = some 1 := by decide +kernel
theorem hdL_X4_write : yX4_write.cls = RX4 ∧ yX4_write.cls ≠ "java/lang/invoke/MethodHandle" ∧ yX4_write.cls ≠ "java/lang/invoke/VarHandle" ∧ (parseMethodDescriptor yX4_write.desc).map (fun d => d.parameters.length) = some 1 := by decide +kernel
theorem hdL_X5_write : yX5_write.cls = RX5 ∧ yX5_write.cls ≠ "java/lang/invoke/MethodHandle" ∧ yX5_write.cls ≠ "java/lang/invoke/VarHandle" ∧ (parseMethodDescriptor yX5_write.desc).map (fun d => d.parameters.length) = some 1 := by decide +kernel
theorem hdL_X4_mark : yX4_mark.cls = RX4 ∧ yX4_mark.cls ≠ "java/lang/invoke/MethodHandle" ∧ yX4_mark.cls ≠ "java/lang/invoke/VarHandle" ∧ (parseMethodDescriptor yX4_mark.desc).map (fun d => d.parameters.length) = some 1 := by decide +kernel
theorem hdL_X5_mark : yX5_mark.cls = RX5 ∧ yX5_mark.cls ≠ "java/lang/invoke/MethodHandle" ∧ yX5_mark.cls ≠ "java/lang/invoke/VarHandle" ∧ (parseMethodDescriptor yX5_mark.desc).map (fun d => d.parameters.length) = some 1 := by decide +kernel
theorem hdL_X4_spoil : yX4_spoil.cls = RX4 ∧ yX4_spoil.cls ≠ "java/lang/invoke/MethodHandle" ∧ yX4_spoil.cls ≠ "java/lang/invoke/VarHandle" ∧ (parseMethodDescriptor yX4_spoil.desc).map (fun d => d.parameters.length) = some 3 := by decide +kernel
theorem hdL_X5_spoil : yX5_spoil.cls = RX5 ∧ yX5_spoil.cls ≠ "java/lang/invoke/MethodHandle" ∧ yX5_spoil.cls ≠ "java/lang/invoke/VarHandle" ∧ (parseMethodDescriptor yX5_spoil.desc).map (fun d => d.parameters.length) = some 3 := by decide +kernel
theorem hdL_X4_dead : yX4_dead.cls = RX4 ∧ yX4_dead.cls ≠ "java/lang/invoke/MethodHandle" ∧ yX4_dead.cls ≠ "java/lang/invoke/VarHandle" ∧ (parseMethodDescriptor yX4_dead.desc).map (fun d => d.parameters.length) = some 1 := by decide +kernel
theorem hdL_X5_dead : yX5_dead.cls = RX5 ∧ yX5_dead.cls ≠ "java/lang/invoke/MethodHandle" ∧ yX5_dead.cls ≠ "java/lang/invoke/VarHandle" ∧ (parseMethodDescriptor yX5_dead.desc).map (fun d => d.parameters.length) = some 1 := by decide +kernel
theorem hdL_X4_check : yX4_check.cls = RX4 ∧ yX4_check.cls ≠ "java/lang/invoke/MethodHandle" ∧ yX4_check.cls ≠ "java/lang/invoke/VarHandle" ∧ (parseMethodDescriptor yX4_check.desc).map (fun d => d.parameters.length) = some 1 := by decide +kernel
theorem hdL_X5_check : yX5_check.cls = RX5 ∧ yX5_check.cls ≠ "java/lang/invoke/MethodHandle" ∧ yX5_check.cls ≠ "java/lang/invoke/VarHandle" ∧ (parseMethodDescriptor yX5_check.desc).map (fun d => d.parameters.length) = some 1 := by decide +kernel
theorem hdL_X4_got : yX4_got.cls = RX4 ∧ yX4_got.cls ≠ "java/lang/invoke/MethodHandle" ∧ yX4_got.cls ≠ "java/lang/invoke/VarHandle" ∧ (parseMethodDescriptor yX4_got.desc).map (fun d => d.parameters.length) = some 2 := by decide +kernel
theorem hdL_X5_got : yX5_got.cls = RX5 ∧ yX5_got.cls ≠ "java/lang/invoke/MethodHandle" ∧ yX5_got.cls ≠ "java/lang/invoke/VarHandle" ∧ (parseMethodDescriptor yX5_got.desc).map (fun d => d.parameters.length) = some 2 := by decide +kernel
theorem hdL_X4_column : yX4_column.cls = RX4 ∧ yX4_column.cls ≠ "java/lang/invoke/MethodHandle" ∧ yX4_column.cls ≠ "java/lang/invoke/VarHandle" ∧ (parseMethodDescriptor yX4_column.desc).map (fun d => d.parameters.length) = some 2 := by decide +kernel
theorem hdL_X5_column : yX5_column.cls = RX5 ∧ yX5_column.cls ≠ "java/lang/invoke/MethodHandle" ∧ yX5_column.cls ≠ "java/lang/invoke/VarHandle" ∧ (parseMethodDescriptor yX5_column.desc).map (fun d => d.parameters.length) = some 2 := by decide +kernel
theorem hdL_X4_state : yX4_state.cls = RX4 ∧ yX4_state.cls ≠ "java/lang/invoke/MethodHandle" ∧ yX4_state.cls ≠ "java/lang/invoke/VarHandle" ∧ (parseMethodDescriptor yX4_state.desc).map (fun d => d.parameters.length) = some 1 := by decide +kernel
theorem hdL_X5_state : yX5_state.cls = RX5 ∧ yX5_state.cls ≠ "java/lang/invoke/MethodHandle" ∧ yX5_state.cls ≠ "java/lang/invoke/VarHandle" ∧ (parseMethodDescriptor yX5_state.desc).map (fun d => d.parameters.length) = some 1 := by decide +kernel
theorem hdL_X4_best : yX4_best.cls = RX4 ∧ yX4_best.cls ≠ "java/lang/invoke/MethodHandle" ∧ yX4_best.cls ≠ "java/lang/invoke/VarHandle" ∧ (parseMethodDescriptor yX4_best.desc).map (fun d => d.parameters.length) = some 1 := by decide +kernel
theorem hdL_X5_best : yX5_best.cls = RX5 ∧ yX5_best.cls ≠ "java/lang/invoke/MethodHandle" ∧ yX5_best.cls ≠ "java/lang/invoke/VarHandle" ∧ (parseMethodDescriptor yX5_best.desc).map (fun d => d.parameters.length) = some 1 := by decide +kernel
theorem hdL_X4_order : yX4_order.cls = RX4 ∧ yX4_order.cls ≠ "java/lang/invoke/MethodHandle" ∧ yX4_order.cls ≠ "java/lang/invoke/VarHandle" ∧ (parseMethodDescriptor yX4_order.desc).map (fun d => d.parameters.length) = some 2 := by decide +kernel
theorem hdL_X5_order : yX5_order.cls = RX5 ∧ yX5_order.cls ≠ "java/lang/invoke/MethodHandle" ∧ yX5_order.cls ≠ "java/lang/invoke/VarHandle" ∧ (parseMethodDescriptor yX5_order.desc).map (fun d => d.parameters.length) = some 2 := by decide +kernel
theorem hdL_X4_reads : yX4_reads.cls = RX4 ∧ yX4_reads.cls ≠ "java/lang/invoke/MethodHandle" ∧ yX4_reads.cls ≠ "java/lang/invoke/VarHandle" ∧ (parseMethodDescriptor yX4_reads.desc).map (fun d => d.parameters.length) = some 1 := by decide +kernel
theorem hdL_X5_reads : yX5_reads.cls = RX5 ∧ yX5_reads.cls ≠ "java/lang/invoke/MethodHandle" ∧ yX5_reads.cls ≠ "java/lang/invoke/VarHandle" ∧ (parseMethodDescriptor yX5_reads.desc).map (fun d => d.parameters.length) = some 1 := by decide +kernel
theorem hdL_X4_cut : yX4_cut.cls = RX4 ∧ yX4_cut.cls ≠ "java/lang/invoke/MethodHandle" ∧ yX4_cut.cls ≠ "java/lang/invoke/VarHandle" ∧ (parseMethodDescriptor yX4_cut.desc).map (fun d => d.parameters.length) = some 2 := by decide +kernel
theorem hdL_X5_cut : yX5_cut.cls = RX5 ∧ yX5_cut.cls ≠ "java/lang/invoke/MethodHandle" ∧ yX5_cut.cls ≠ "java/lang/invoke/VarHandle" ∧ (parseMethodDescriptor yX5_cut.desc).map (fun d => d.parameters.length) = some 2 := by decide +kernel
theorem hdL_X4_holds : yX4_holds.cls = RX4 ∧ yX4_holds.cls ≠ "java/lang/invoke/MethodHandle" ∧ yX4_holds.cls ≠ "java/lang/invoke/VarHandle" ∧ (parseMethodDescriptor yX4_holds.desc).map (fun d => d.parameters.length) = some 1 := by decide +kernel
theorem hdL_X5_holds : yX5_holds.cls = RX5 ∧ yX5_holds.cls ≠ "java/lang/invoke/MethodHandle" ∧ yX5_holds.cls ≠ "java/lang/invoke/VarHandle" ∧ (parseMethodDescriptor yX5_holds.desc).map (fun d => d.parameters.length) = some 1 := by decide +kernel
theorem hdL_X4_most : yX4_most.cls = RX4 ∧ yX4_most.cls ≠ "java/lang/invoke/MethodHandle" ∧ yX4_most.cls ≠ "java/lang/invoke/VarHandle" ∧ (parseMethodDescriptor yX4_most.desc).map (fun d => d.parameters.length) = some 1 := by decide +kernel
theorem hdL_X5_most : yX5_most.cls = RX5 ∧ yX5_most.cls ≠ "java/lang/invoke/MethodHandle" ∧ yX5_most.cls ≠ "java/lang/invoke/VarHandle" ∧ (parseMethodDescriptor yX5_most.desc).map (fun d => d.parameters.length) = some 1 := by decide +kernel
theorem hdL_X4_stream : yX4_stream.cls = RX4 ∧ yX4_stream.cls ≠ "java/lang/invoke/MethodHandle" ∧ yX4_stream.cls ≠ "java/lang/invoke/VarHandle" ∧ (parseMethodDescriptor yX4_stream.desc).map (fun d => d.parameters.length) = some 5 := by decide +kernel
theorem hdL_X5_stream : yX5_stream.cls = RX5 ∧ yX5_stream.cls ≠ "java/lang/invoke/MethodHandle" ∧ yX5_stream.cls ≠ "java/lang/invoke/VarHandle" ∧ (parseMethodDescriptor yX5_stream.desc).map (fun d => d.parameters.length) = some 5 := by decide +kernel
theorem hdL_X4_buffer : yX4_buffer.cls = RX4 ∧ yX4_buffer.cls ≠ "java/lang/invoke/MethodHandle" ∧ yX4_buffer.cls ≠ "java/lang/invoke/VarHandle" ∧ (parseMethodDescriptor yX4_buffer.desc).map (fun d => d.parameters.length) = some 4 := by decide +kernel
theorem hdL_X5_buffer : yX5_buffer.cls = RX5 ∧ yX5_buffer.cls ≠ "java/lang/invoke/MethodHandle" ∧ yX5_buffer.cls ≠ "java/lang/invoke/VarHandle" ∧ (parseMethodDescriptor yX5_buffer.desc).map (fun d => d.parameters.length) = some 4 := by decide +kernel
theorem hdL_X4_saw : yX4_saw.cls = RX4 ∧ yX4_saw.cls ≠ "java/lang/invoke/MethodHandle" ∧ yX4_saw.cls ≠ "java/lang/invoke/VarHandle" ∧ (parseMethodDescriptor yX4_saw.desc).map (fun d => d.parameters.length) = some 2 := by decide +kernel
theorem hdL_X5_saw : yX5_saw.cls = RX5 ∧ yX5_saw.cls ≠ "java/lang/invoke/MethodHandle" ∧ yX5_saw.cls ≠ "java/lang/invoke/VarHandle" ∧ (parseMethodDescriptor yX5_saw.desc).map (fun d => d.parameters.length) = some 2 := by decide +kernel
theorem hdL_X4_forget : yX4_forget.cls = RX4 ∧ yX4_forget.cls ≠ "java/lang/invoke/MethodHandle" ∧ yX4_forget.cls ≠ "java/lang/invoke/VarHandle" ∧ (parseMethodDescriptor yX4_forget.desc).map (fun d => d.parameters.length) = some 0 := by decide +kernel
theorem hdL_X5_forget : yX5_forget.cls = RX5 ∧ yX5_forget.cls ≠ "java/lang/invoke/MethodHandle" ∧ yX5_forget.cls ≠ "java/lang/invoke/VarHandle" ∧ (parseMethodDescriptor yX5_forget.desc).map (fun d => d.parameters.length) = some 0 := by decide +kernel
theorem hdL_X4_fits : yX4_fits.cls = RX4 ∧ yX4_fits.cls ≠ "java/lang/invoke/MethodHandle" ∧ yX4_fits.cls ≠ "java/lang/invoke/VarHandle" ∧ (parseMethodDescriptor yX4_fits.desc).map (fun d => d.parameters.length) = some 1 := by decide +kernel
theorem hdL_X5_fits : yX5_fits.cls = RX5 ∧ yX5_fits.cls ≠ "java/lang/invoke/MethodHandle" ∧ yX5_fits.cls ≠ "java/lang/invoke/VarHandle" ∧ (parseMethodDescriptor yX5_fits.desc).map (fun d => d.parameters.length) = some 1 := by decide +kernel
theorem hdL_X4_keep : yX4_keep.cls = RX4 ∧ yX4_keep.cls ≠ "java/lang/invoke/MethodHandle" ∧ yX4_keep.cls ≠ "java/lang/invoke/VarHandle" ∧ (parseMethodDescriptor yX4_keep.desc).map (fun d => d.parameters.length) = some 1 := by decide +kernel
theorem hdL_X5_keep : yX5_keep.cls = RX5 ∧ yX5_keep.cls ≠ "java/lang/invoke/MethodHandle" ∧ yX5_keep.cls ≠ "java/lang/invoke/VarHandle" ∧ (parseMethodDescriptor yX5_keep.desc).map (fun d => d.parameters.length) = some 1 := by decide +kernel
theorem hdL_X4_back : yX4_back.cls = RX4 ∧ yX4_back.cls ≠ "java/lang/invoke/MethodHandle" ∧ yX4_back.cls ≠ "java/lang/invoke/VarHandle" ∧ (parseMethodDescriptor yX4_back.desc).map (fun d => d.parameters.length) = some 1 := by decide +kernel
theorem hdL_X5_back : yX5_back.cls = RX5 ∧ yX5_back.cls ≠ "java/lang/invoke/MethodHandle" ∧ yX5_back.cls ≠ "java/lang/invoke/VarHandle" ∧ (parseMethodDescriptor yX5_back.desc).map (fun d => d.parameters.length) = some 1 := by decide +kernel
theorem hdL_X4_sheet : yX4_sheet.cls = RX4 ∧ yX4_sheet.cls ≠ "java/lang/invoke/MethodHandle" ∧ yX4_sheet.cls ≠ "java/lang/invoke/VarHandle" ∧ (parseMethodDescriptor yX4_sheet.desc).map (fun d => d.parameters.length) = some 3 := by decide +kernel
theorem hdL_X5_sheet : yX5_sheet.cls = RX5 ∧ yX5_sheet.cls ≠ "java/lang/invoke/MethodHandle" ∧ yX5_sheet.cls ≠ "java/lang/invoke/VarHandle" ∧ (parseMethodDescriptor yX5_sheet.desc).map (fun d => d.parameters.length) = some 3 := by decide +kernel
theorem hdL_X4_lay : yX4_lay.cls = RX4 ∧ yX4_lay.cls ≠ "java/lang/invoke/MethodHandle" ∧ yX4_lay.cls ≠ "java/lang/invoke/VarHandle" ∧ (parseMethodDescriptor yX4_lay.desc).map (fun d => d.parameters.length) = some 3 := by decide +kernel
theorem hdL_X5_lay : yX5_lay.cls = RX5 ∧ yX5_lay.cls ≠ "java/lang/invoke/MethodHandle" ∧ yX5_lay.cls ≠ "java/lang/invoke/VarHandle" ∧ (parseMethodDescriptor yX5_lay.desc).map (fun d => d.parameters.length) = some 3 := by decide +kernel
theorem hdL_X4_read : yX4_read.cls = RX4 ∧ yX4_read.cls ≠ "java/lang/invoke/MethodHandle" ∧ yX4_read.cls ≠ "java/lang/invoke/VarHandle" ∧ (parseMethodDescriptor yX4_read.desc).map (fun d => d.parameters.length) = some 4 := by decide +kernel
theorem hdL_X5_read : yX5_read.cls = RX5 ∧ yX5_read.cls ≠ "java/lang/invoke/MethodHandle" ∧ yX5_read.cls ≠ "java/lang/invoke/VarHandle" ∧ (parseMethodDescriptor yX5_read.desc).map (fun d => d.parameters.length) = some 4 := by decide +kernel
theorem hdL_X4_torn : yX4_torn.cls = RX4 ∧ yX4_torn.cls ≠ "java/lang/invoke/MethodHandle" ∧ yX4_torn.cls ≠ "java/lang/invoke/VarHandle" ∧ (parseMethodDescriptor yX4_torn.desc).map (fun d => d.parameters.length) = some 0 := by decide +kernel
theorem hdL_X5_torn : yX5_torn.cls = RX5 ∧ yX5_torn.cls ≠ "java/lang/invoke/MethodHandle" ∧ yX5_torn.cls ≠ "java/lang/invoke/VarHandle" ∧ (parseMethodDescriptor yX5_torn.desc).map (fun d => d.parameters.length) = some 0 := by decide +kernel
theorem hdL_X4_count : yX4_count.cls = RX4 ∧ yX4_count.cls ≠ "java/lang/invoke/MethodHandle" ∧ yX4_count.cls ≠ "java/lang/invoke/VarHandle" ∧ (parseMethodDescriptor yX4_count.desc).map (fun d => d.parameters.length) = some 1 := by decide +kernel
theorem hdL_X5_count : yX5_count.cls = RX5 ∧ yX5_count.cls ≠ "java/lang/invoke/MethodHandle" ∧ yX5_count.cls ≠ "java/lang/invoke/VarHandle" ∧ (parseMethodDescriptor yX5_count.desc).map (fun d => d.parameters.length) = some 1 := by decide +kernel
set_option maxHeartbeats 4000000 in
theorem law_c0 {z : ZZ} {g : GG} {Qf : State → Prop} {M : MM} {b Ln : Nat} {xs : Nat → Int32} {v3 : Int32} (hC : CX z g cL_law 4 wsL_law RL room_1) (hF : full g) (hX : SX z g b Ln xs) (hB : inS v3 Ln) (hR : Rel M) (kk : ∀ M2, Rel M2 → XX z g Qf 4 1437 [(0, .ref b), (1, .ref (gA g 0)), (2, .ref (gA g 52)), (3, .int v3)] [] M2) : XX z g Qf 4 212 [(0, .ref b), (1, .ref (gA g 0)), (2, .ref (gA g 52)), (3, .int v3)] [] M := by
  refine q_aload_n hC dL_law_212 1 rfl 213 rfl ?_
  refine q_aload_n hC dL_law_213 0 rfl 214 rfl ?_
  refine q_iload_n hC dL_law_214 3 rfl 215 rfl ?_
  refine q_iconst (v := 1) hC dL_law_215 (by decide) 216 rfl ?_
  refine q_iadd hC dL_law_216 217 rfl ?_
  refine q_sld hC hX hB.2.1 dL_law_217 218 rfl ?_
  refine q_i2l hC dL_law_218 219 rfl ?_
  refine q_bipush (v := 32) hC dL_law_219 (by decide) 221 rfl ?_
  refine q_lshl hC dL_law_221 222 rfl ?_
  refine q_aload_n hC dL_law_222 0 rfl 223 rfl ?_
  refine q_iload_n hC dL_law_223 3 rfl 224 rfl ?_
  refine q_iconst (v := 2) hC dL_law_224 (by decide) 225 rfl ?_
  refine q_iadd hC dL_law_225 226 rfl ?_
  refine q_sld hC hX hB.2.2.1 dL_law_226 227 rfl ?_
  refine q_i2l hC dL_law_227 228 rfl ?_
  refine q_ldc2 (v := 4294967295) hC (uL_law__o _ (List.mem_of_getElem? (l := owL_law) (i := 4) rfl)) dL_law_228 231 rfl ?_
  refine q_land hC dL_law_231 232 rfl ?_
  refine q_lor hC dL_law_232 233 rfl ?_
  refine r_callI hC (go_V (q := (RX4, TX4, 12)) (As := [.long (((xs (v3 + 1).toNatClampNeg).toInt64 <<< ((32 : Int32).toInt64 &&& 63)) ||| ((xs (v3 + 2).toNatClampNeg).toInt64 &&& (4294967295 : Int64)))]) (rest := []) hC (ctX4_feed (zl z) g M (((xs (v3 + 1).toNatClampNeg).toInt64 <<< ((32 : Int32).toInt64 &&& 63)) ||| ((xs (v3 + 2).toNatClampNeg).toInt64 &&& (4294967295 : Int64))) _ hF (L_feed hR (((xs (v3 + 1).toNatClampNeg).toInt64 <<< ((32 : Int32).toInt64 &&& 63)) ||| ((xs (v3 + 2).toNatClampNeg).toInt64 &&& (4294967295 : Int64))))) 1 gL_law_X4_feed rfl ⟨rfl, rfl⟩ hdL_X4_feed ⟨Nat.le_of_ble_eq_true rfl, Nat.le_of_ble_eq_true rfl⟩ (obF0 hF) rfl rfl rfl (Nat.le_of_ble_eq_true rfl) dL_law_233) 236 rfl (fun r1 M1 hw => ?_)
  refine q_aload_n hC dL_law_236 2 rfl 237 rfl ?_
  refine q_aload_n hC dL_law_237 0 rfl 238 rfl ?_
  refine q_iload_n hC dL_law_238 3 rfl 239 rfl ?_
  refine q_iconst (v := 1) hC dL_law_239 (by decide) 240 rfl ?_
  refine q_iadd hC dL_law_240 241 rfl ?_
  refine q_sld hC hX hB.2.1 dL_law_241 242 rfl ?_
  refine q_i2l hC dL_law_242 243 rfl ?_
  refine q_bipush (v := 32) hC dL_law_243 (by decide) 245 rfl ?_
  refine q_lshl hC dL_law_245 246 rfl ?_
  refine q_aload_n hC dL_law_246 0 rfl 247 rfl ?_
  refine q_iload_n hC dL_law_247 3 rfl 248 rfl ?_
  refine q_iconst (v := 2) hC dL_law_248 (by decide) 249 rfl ?_
  refine q_iadd hC dL_law_249 250 rfl ?_
  refine q_sld hC hX hB.2.2.1 dL_law_250 251 rfl ?_
  refine q_i2l hC dL_law_251 252 rfl ?_
  refine q_ldc2 (v := 4294967295) hC (uL_law__o _ (List.mem_of_getElem? (l := owL_law) (i := 4) rfl)) dL_law_252 255 rfl ?_
  refine q_land hC dL_law_255 256 rfl ?_
  refine q_lor hC dL_law_256 257 rfl ?_
  refine r_callI hC (go_V (q := (RX5, TX5, 26)) (As := [.long (((xs (v3 + 1).toNatClampNeg).toInt64 <<< ((32 : Int32).toInt64 &&& 63)) ||| ((xs (v3 + 2).toNatClampNeg).toInt64 &&& (4294967295 : Int64)))]) (rest := [.int r1]) hC (ctX5_feed (zl z) g M1 (((xs (v3 + 1).toNatClampNeg).toInt64 <<< ((32 : Int32).toInt64 &&& 63)) ||| ((xs (v3 + 2).toNatClampNeg).toInt64 &&& (4294967295 : Int64))) _ hF.f5 hw) 1 gL_law_X5_feed rfl ⟨rfl, rfl⟩ hdL_X5_feed ⟨Nat.le_of_ble_eq_true rfl, Nat.le_of_ble_eq_true rfl⟩ (obF52 hF.f5) rfl rfl rfl (Nat.le_of_ble_eq_true rfl) dL_law_257) 260 rfl (fun r2 M2 hw => ?_)
  have hw3 := hw.2
  refine q_icmp_eq (A := True) (B := False) hC 1437 dL_law_260 (by decide) 263 rfl ⟨fun _ => trivial, fun q => absurd hw.1 q⟩ (fun _ => ?_) (fun q => q.elim)
  exact kk _ hw3
set_option maxHeartbeats 4000000 in
theorem law_c1 {z : ZZ} {g : GG} {Qf : State → Prop} {M : MM} {b Ln : Nat} {xs : Nat → Int32} {v3 : Int32} (hC : CX z g cL_law 4 wsL_law RL room_1) (hF : full g) (hX : SX z g b Ln xs) (hB : inS v3 Ln) (hR : Rel M) (kk : ∀ M2, Rel M2 → XX z g Qf 4 1437 [(0, .ref b), (1, .ref (gA g 0)), (2, .ref (gA g 52)), (3, .int v3)] [] M2) : XX z g Qf 4 265 [(0, .ref b), (1, .ref (gA g 0)), (2, .ref (gA g 52)), (3, .int v3)] [] M := by
  refine q_aload_n hC dL_law_265 1 rfl 266 rfl ?_
  refine q_aload_n hC dL_law_266 0 rfl 267 rfl ?_
  refine q_iload_n hC dL_law_267 3 rfl 268 rfl ?_
  refine q_iconst (v := 1) hC dL_law_268 (by decide) 269 rfl ?_
  refine q_iadd hC dL_law_269 270 rfl ?_
  refine q_sld hC hX hB.2.1 dL_law_270 271 rfl ?_
  refine r_callI hC (go_V (q := (RX4, TX4, 12)) (As := [.int (xs (v3 + 1).toNatClampNeg)]) (rest := []) hC (ctX4_end (zl z) g M (xs (v3 + 1).toNatClampNeg) _ hF (L_end hR (xs (v3 + 1).toNatClampNeg))) 1 gL_law_X4_end rfl ⟨rfl, rfl⟩ hdL_X4_end ⟨Nat.le_of_ble_eq_true rfl, Nat.le_of_ble_eq_true rfl⟩ (obF0 hF) rfl rfl rfl (Nat.le_of_ble_eq_true rfl) dL_law_271) 274 rfl (fun r1 M1 hw => ?_)
  refine q_pop hC dL_law_274 rfl 275 rfl ?_
  refine q_aload_n hC dL_law_275 2 rfl 276 rfl ?_
  refine q_aload_n hC dL_law_276 0 rfl 277 rfl ?_
  refine q_iload_n hC dL_law_277 3 rfl 278 rfl ?_
  refine q_iconst (v := 1) hC dL_law_278 (by decide) 279 rfl ?_
  refine q_iadd hC dL_law_279 280 rfl ?_
  refine q_sld hC hX hB.2.1 dL_law_280 281 rfl ?_
  refine r_callI hC (go_V (q := (RX5, TX5, 26)) (As := [.int (xs (v3 + 1).toNatClampNeg)]) (rest := []) hC (ctX5_end (zl z) g M1 (xs (v3 + 1).toNatClampNeg) _ hF.f5 hw) 1 gL_law_X5_end rfl ⟨rfl, rfl⟩ hdL_X5_end ⟨Nat.le_of_ble_eq_true rfl, Nat.le_of_ble_eq_true rfl⟩ (obF52 hF.f5) rfl rfl rfl (Nat.le_of_ble_eq_true rfl) dL_law_281) 284 rfl (fun r2 M2 hw => ?_)
  have hw3 := hw.2
  refine q_pop hC dL_law_284 rfl 285 rfl ?_
  refine q_goto hC 1437 dL_law_285 (by decide) ?_
  exact kk _ hw3
set_option maxHeartbeats 4000000 in
theorem law_c2 {z : ZZ} {g : GG} {Qf : State → Prop} {M : MM} {b Ln : Nat} {xs : Nat → Int32} {v3 : Int32} (hC : CX z g cL_law 4 wsL_law RL room_1) (hF : full g) (hX : SX z g b Ln xs) (hB : inS v3 Ln) (hR : Rel M) (kk : ∀ M2, Rel M2 → XX z g Qf 4 1437 [(0, .ref b), (1, .ref (gA g 0)), (2, .ref (gA g 52)), (3, .int v3)] [] M2) : XX z g Qf 4 288 [(0, .ref b), (1, .ref (gA g 0)), (2, .ref (gA g 52)), (3, .int v3)] [] M := by
  refine q_aload_n hC dL_law_288 1 rfl 289 rfl ?_
  refine r_callI hC (go_V (q := (RX4, TX4, 12)) (As := []) (rest := []) hC (ctX4_text (zl z) g M _ hF (L_text hR)) 0 gL_law_X4_text rfl ⟨rfl, rfl⟩ hdL_X4_text ⟨Nat.le_of_ble_eq_true rfl, Nat.le_of_ble_eq_true rfl⟩ (obF0 hF) rfl rfl rfl (Nat.le_of_ble_eq_true rfl) dL_law_289) 292 rfl (fun r1 M1 hw => ?_)
  refine q_pop hC dL_law_292 rfl 293 rfl ?_
  refine q_aload_n hC dL_law_293 2 rfl 294 rfl ?_
  refine r_callI hC (go_V (q := (RX5, TX5, 26)) (As := []) (rest := []) hC (ctX5_text (zl z) g M1 _ hF.f5 hw) 0 gL_law_X5_text rfl ⟨rfl, rfl⟩ hdL_X5_text ⟨Nat.le_of_ble_eq_true rfl, Nat.le_of_ble_eq_true rfl⟩ (obF52 hF.f5) rfl rfl rfl (Nat.le_of_ble_eq_true rfl) dL_law_294) 297 rfl (fun r2 M2 hw => ?_)
  have hw3 := hw.2
  refine q_pop hC dL_law_297 rfl 298 rfl ?_
  refine q_goto hC 1437 dL_law_298 (by decide) ?_
  exact kk _ hw3
set_option maxHeartbeats 4000000 in
theorem law_c3 {z : ZZ} {g : GG} {Qf : State → Prop} {M : MM} {b Ln : Nat} {xs : Nat → Int32} {v3 : Int32} (hC : CX z g cL_law 4 wsL_law RL room_1) (hF : full g) (hX : SX z g b Ln xs) (hB : inS v3 Ln) (hR : Rel M) (kk : ∀ M2, Rel M2 → XX z g Qf 4 1437 [(0, .ref b), (1, .ref (gA g 0)), (2, .ref (gA g 52)), (3, .int v3)] [] M2) : XX z g Qf 4 301 [(0, .ref b), (1, .ref (gA g 0)), (2, .ref (gA g 52)), (3, .int v3)] [] M := by
  refine q_aload_n hC dL_law_301 1 rfl 302 rfl ?_
  refine r_callI hC (go_V (q := (RX4, TX4, 12)) (As := []) (rest := []) hC (ctX4_fault (zl z) g M _ hF (L_fault hR)) 0 gL_law_X4_fault rfl ⟨rfl, rfl⟩ hdL_X4_fault ⟨Nat.le_of_ble_eq_true rfl, Nat.le_of_ble_eq_true rfl⟩ (obF0 hF) rfl rfl rfl (Nat.le_of_ble_eq_true rfl) dL_law_302) 305 rfl (fun r1 M1 hw => ?_)
  refine q_pop hC dL_law_305 rfl 306 rfl ?_
  refine q_aload_n hC dL_law_306 2 rfl 307 rfl ?_
  refine r_callI hC (go_V (q := (RX5, TX5, 26)) (As := []) (rest := []) hC (ctX5_fault (zl z) g M1 _ hF.f5 hw) 0 gL_law_X5_fault rfl ⟨rfl, rfl⟩ hdL_X5_fault ⟨Nat.le_of_ble_eq_true rfl, Nat.le_of_ble_eq_true rfl⟩ (obF52 hF.f5) rfl rfl rfl (Nat.le_of_ble_eq_true rfl) dL_law_307) 310 rfl (fun r2 M2 hw => ?_)
  refine q_pop hC dL_law_310 rfl 311 rfl ?_
  refine q_goto hC 1437 dL_law_311 (by decide) ?_
  exact kk _ hw
set_option maxHeartbeats 4000000 in
theorem law_c4 {z : ZZ} {g : GG} {Qf : State → Prop} {M : MM} {b Ln : Nat} {xs : Nat → Int32} {v3 : Int32} (hC : CX z g cL_law 4 wsL_law RL room_1) (hF : full g) (hX : SX z g b Ln xs) (hB : inS v3 Ln) (hR : Rel M) (kk : ∀ M2, Rel M2 → XX z g Qf 4 1437 [(0, .ref b), (1, .ref (gA g 0)), (2, .ref (gA g 52)), (3, .int v3)] [] M2) : XX z g Qf 4 314 [(0, .ref b), (1, .ref (gA g 0)), (2, .ref (gA g 52)), (3, .int v3)] [] M := by
  refine q_aload_n hC dL_law_314 1 rfl 315 rfl ?_
  refine q_aload_n hC dL_law_315 0 rfl 316 rfl ?_
  refine q_iload_n hC dL_law_316 3 rfl 317 rfl ?_
  refine q_iconst (v := 1) hC dL_law_317 (by decide) 318 rfl ?_
  refine q_iadd hC dL_law_318 319 rfl ?_
  refine q_sld hC hX hB.2.1 dL_law_319 320 rfl ?_
  refine r_callI hC (go_V (q := (RX4, TX4, 12)) (As := [.int (xs (v3 + 1).toNatClampNeg)]) (rest := []) hC (ctX4_rule (zl z) g M (xs (v3 + 1).toNatClampNeg) _ hF (L_rule hR (xs (v3 + 1).toNatClampNeg))) 1 gL_law_X4_rule rfl ⟨rfl, rfl⟩ hdL_X4_rule ⟨Nat.le_of_ble_eq_true rfl, Nat.le_of_ble_eq_true rfl⟩ (obF0 hF) rfl rfl rfl (Nat.le_of_ble_eq_true rfl) dL_law_320) 323 rfl (fun r1 M1 hw => ?_)
  refine q_pop hC dL_law_323 rfl 324 rfl ?_
  refine q_aload_n hC dL_law_324 2 rfl 325 rfl ?_
  refine q_aload_n hC dL_law_325 0 rfl 326 rfl ?_
  refine q_iload_n hC dL_law_326 3 rfl 327 rfl ?_
  refine q_iconst (v := 1) hC dL_law_327 (by decide) 328 rfl ?_
  refine q_iadd hC dL_law_328 329 rfl ?_
  refine q_sld hC hX hB.2.1 dL_law_329 330 rfl ?_
  refine r_callI hC (go_V (q := (RX5, TX5, 26)) (As := [.int (xs (v3 + 1).toNatClampNeg)]) (rest := []) hC (ctX5_rule (zl z) g M1 (xs (v3 + 1).toNatClampNeg) _ hF.f5 hw) 1 gL_law_X5_rule rfl ⟨rfl, rfl⟩ hdL_X5_rule ⟨Nat.le_of_ble_eq_true rfl, Nat.le_of_ble_eq_true rfl⟩ (obF52 hF.f5) rfl rfl rfl (Nat.le_of_ble_eq_true rfl) dL_law_330) 333 rfl (fun r2 M2 hw => ?_)
  have hw3 := hw.2
  refine q_pop hC dL_law_333 rfl 334 rfl ?_
  refine q_goto hC 1437 dL_law_334 (by decide) ?_
  exact kk _ hw3
set_option maxHeartbeats 4000000 in
theorem law_c5 {z : ZZ} {g : GG} {Qf : State → Prop} {M : MM} {b Ln : Nat} {xs : Nat → Int32} {v3 : Int32} (hC : CX z g cL_law 4 wsL_law RL room_1) (hF : full g) (hX : SX z g b Ln xs) (hB : inS v3 Ln) (hR : Rel M) (kk : ∀ M2, Rel M2 → XX z g Qf 4 1437 [(0, .ref b), (1, .ref (gA g 0)), (2, .ref (gA g 52)), (3, .int v3)] [] M2) : XX z g Qf 4 337 [(0, .ref b), (1, .ref (gA g 0)), (2, .ref (gA g 52)), (3, .int v3)] [] M := by
  by_cases hz : xs (v3 + 2).toNatClampNeg = 0
  · refine q_aload_n hC dL_law_337 1 rfl 338 rfl ?_
    refine q_aload_n hC dL_law_338 0 rfl 339 rfl ?_
    refine q_iload_n hC dL_law_339 3 rfl 340 rfl ?_
    refine q_iconst (v := 1) hC dL_law_340 (by decide) 341 rfl ?_
    refine q_iadd hC dL_law_341 342 rfl ?_
    refine q_sld hC hX hB.2.1 dL_law_342 343 rfl ?_
    refine q_aload_n hC dL_law_343 0 rfl 344 rfl ?_
    refine q_iload_n hC dL_law_344 3 rfl 345 rfl ?_
    refine q_iconst (v := 2) hC dL_law_345 (by decide) 346 rfl ?_
    refine q_iadd hC dL_law_346 347 rfl ?_
    refine q_sld hC hX hB.2.2.1 dL_law_347 348 rfl ?_
    refine q_if_eq (A := True) (B := False) hC 355 dL_law_348 (by decide) 351 rfl ⟨fun _ => trivial, fun q => absurd hz q⟩ (fun _ => ?_) (fun q => q.elim)
    refine q_iconst (v := 0) hC dL_law_355 (by decide) 356 rfl ?_
    refine r_callI hC (go_V (q := (RX4, TX4, 12)) (As := [.int (xs (v3 + 1).toNatClampNeg), .int 0]) (rest := []) hC (ctX4_turns (zl z) g M (xs (v3 + 1).toNatClampNeg) 0 _ hF (L_turns hR (xs (v3 + 1).toNatClampNeg) 0)) 2 gL_law_X4_turns rfl ⟨rfl, rfl⟩ hdL_X4_turns ⟨Nat.le_of_ble_eq_true rfl, Nat.le_of_ble_eq_true rfl⟩ (obF0 hF) rfl rfl rfl (Nat.le_of_ble_eq_true rfl) dL_law_356) 359 rfl (fun r1 M1 hw => ?_)
    refine q_pop hC dL_law_359 rfl 360 rfl ?_
    refine q_aload_n hC dL_law_360 2 rfl 361 rfl ?_
    refine q_aload_n hC dL_law_361 0 rfl 362 rfl ?_
    refine q_iload_n hC dL_law_362 3 rfl 363 rfl ?_
    refine q_iconst (v := 1) hC dL_law_363 (by decide) 364 rfl ?_
    refine q_iadd hC dL_law_364 365 rfl ?_
    refine q_sld hC hX hB.2.1 dL_law_365 366 rfl ?_
    refine q_aload_n hC dL_law_366 0 rfl 367 rfl ?_
    refine q_iload_n hC dL_law_367 3 rfl 368 rfl ?_
    refine q_iconst (v := 2) hC dL_law_368 (by decide) 369 rfl ?_
    refine q_iadd hC dL_law_369 370 rfl ?_
    refine q_sld hC hX hB.2.2.1 dL_law_370 371 rfl ?_
    refine q_if_eq (A := True) (B := False) hC 378 dL_law_371 (by decide) 374 rfl ⟨fun _ => trivial, fun q => absurd hz q⟩ (fun _ => ?_) (fun q => q.elim)
    refine q_iconst (v := 0) hC dL_law_378 (by decide) 379 rfl ?_
    refine r_callI hC (go_V (q := (RX5, TX5, 26)) (As := [.int (xs (v3 + 1).toNatClampNeg), .int 0]) (rest := []) hC (ctX5_turns (zl z) g M1 (xs (v3 + 1).toNatClampNeg) 0 _ hF.f5 hw) 2 gL_law_X5_turns rfl ⟨rfl, rfl⟩ hdL_X5_turns ⟨Nat.le_of_ble_eq_true rfl, Nat.le_of_ble_eq_true rfl⟩ (obF52 hF.f5) rfl rfl rfl (Nat.le_of_ble_eq_true rfl) dL_law_379) 382 rfl (fun r2 M2 hw => ?_)
    have hw3 := hw.2
    refine q_pop hC dL_law_382 rfl 383 rfl ?_
    refine q_goto hC 1437 dL_law_383 (by decide) ?_
    exact kk _ hw3
  · refine q_aload_n hC dL_law_337 1 rfl 338 rfl ?_
    refine q_aload_n hC dL_law_338 0 rfl 339 rfl ?_
    refine q_iload_n hC dL_law_339 3 rfl 340 rfl ?_
    refine q_iconst (v := 1) hC dL_law_340 (by decide) 341 rfl ?_
    refine q_iadd hC dL_law_341 342 rfl ?_
    refine q_sld hC hX hB.2.1 dL_law_342 343 rfl ?_
    refine q_aload_n hC dL_law_343 0 rfl 344 rfl ?_
    refine q_iload_n hC dL_law_344 3 rfl 345 rfl ?_
    refine q_iconst (v := 2) hC dL_law_345 (by decide) 346 rfl ?_
    refine q_iadd hC dL_law_346 347 rfl ?_
    refine q_sld hC hX hB.2.2.1 dL_law_347 348 rfl ?_
    refine q_if_eq (A := False) (B := True) hC 355 dL_law_348 (by decide) 351 rfl ⟨fun q => absurd q hz, fun _ => trivial⟩ (fun q => q.elim) (fun _ => ?_)
    refine q_iconst (v := 1) hC dL_law_351 (by decide) 352 rfl ?_
    refine q_goto hC 356 dL_law_352 (by decide) ?_
    refine r_callI hC (go_V (q := (RX4, TX4, 12)) (As := [.int (xs (v3 + 1).toNatClampNeg), .int 1]) (rest := []) hC (ctX4_turns (zl z) g M (xs (v3 + 1).toNatClampNeg) 1 _ hF (L_turns hR (xs (v3 + 1).toNatClampNeg) 1)) 2 gL_law_X4_turns rfl ⟨rfl, rfl⟩ hdL_X4_turns ⟨Nat.le_of_ble_eq_true rfl, Nat.le_of_ble_eq_true rfl⟩ (obF0 hF) rfl rfl rfl (Nat.le_of_ble_eq_true rfl) dL_law_356) 359 rfl (fun r1 M1 hw => ?_)
    refine q_pop hC dL_law_359 rfl 360 rfl ?_
    refine q_aload_n hC dL_law_360 2 rfl 361 rfl ?_
    refine q_aload_n hC dL_law_361 0 rfl 362 rfl ?_
    refine q_iload_n hC dL_law_362 3 rfl 363 rfl ?_
    refine q_iconst (v := 1) hC dL_law_363 (by decide) 364 rfl ?_
    refine q_iadd hC dL_law_364 365 rfl ?_
    refine q_sld hC hX hB.2.1 dL_law_365 366 rfl ?_
    refine q_aload_n hC dL_law_366 0 rfl 367 rfl ?_
    refine q_iload_n hC dL_law_367 3 rfl 368 rfl ?_
    refine q_iconst (v := 2) hC dL_law_368 (by decide) 369 rfl ?_
    refine q_iadd hC dL_law_369 370 rfl ?_
    refine q_sld hC hX hB.2.2.1 dL_law_370 371 rfl ?_
    refine q_if_eq (A := False) (B := True) hC 378 dL_law_371 (by decide) 374 rfl ⟨fun q => absurd q hz, fun _ => trivial⟩ (fun q => q.elim) (fun _ => ?_)
    refine q_iconst (v := 1) hC dL_law_374 (by decide) 375 rfl ?_
    refine q_goto hC 379 dL_law_375 (by decide) ?_
    refine r_callI hC (go_V (q := (RX5, TX5, 26)) (As := [.int (xs (v3 + 1).toNatClampNeg), .int 1]) (rest := []) hC (ctX5_turns (zl z) g M1 (xs (v3 + 1).toNatClampNeg) 1 _ hF.f5 hw) 2 gL_law_X5_turns rfl ⟨rfl, rfl⟩ hdL_X5_turns ⟨Nat.le_of_ble_eq_true rfl, Nat.le_of_ble_eq_true rfl⟩ (obF52 hF.f5) rfl rfl rfl (Nat.le_of_ble_eq_true rfl) dL_law_379) 382 rfl (fun r2 M2 hw => ?_)
    have hw3 := hw.2
    refine q_pop hC dL_law_382 rfl 383 rfl ?_
    refine q_goto hC 1437 dL_law_383 (by decide) ?_
    exact kk _ hw3
set_option maxHeartbeats 4000000 in
theorem law_c6 {z : ZZ} {g : GG} {Qf : State → Prop} {M : MM} {b Ln : Nat} {xs : Nat → Int32} {v3 : Int32} (hC : CX z g cL_law 4 wsL_law RL room_1) (hF : full g) (hX : SX z g b Ln xs) (hB : inS v3 Ln) (hR : Rel M) (kk : ∀ M2, Rel M2 → XX z g Qf 4 1437 [(0, .ref b), (1, .ref (gA g 0)), (2, .ref (gA g 52)), (3, .int v3)] [] M2) : XX z g Qf 4 386 [(0, .ref b), (1, .ref (gA g 0)), (2, .ref (gA g 52)), (3, .int v3)] [] M := by
  refine q_aload_n hC dL_law_386 1 rfl 387 rfl ?_
  refine q_aload_n hC dL_law_387 0 rfl 388 rfl ?_
  refine q_iload_n hC dL_law_388 3 rfl 389 rfl ?_
  refine q_iconst (v := 1) hC dL_law_389 (by decide) 390 rfl ?_
  refine q_iadd hC dL_law_390 391 rfl ?_
  refine q_sld hC hX hB.2.1 dL_law_391 392 rfl ?_
  refine q_aload_n hC dL_law_392 0 rfl 393 rfl ?_
  refine q_iload_n hC dL_law_393 3 rfl 394 rfl ?_
  refine q_iconst (v := 2) hC dL_law_394 (by decide) 395 rfl ?_
  refine q_iadd hC dL_law_395 396 rfl ?_
  refine q_sld hC hX hB.2.2.1 dL_law_396 397 rfl ?_
  refine r_callI hC (go_V (q := (RX4, TX4, 12)) (As := [.int (xs (v3 + 1).toNatClampNeg), .int (xs (v3 + 2).toNatClampNeg)]) (rest := []) hC (ctX4_shows (zl z) g M (xs (v3 + 1).toNatClampNeg) (xs (v3 + 2).toNatClampNeg) _ hF (L_shows hR (xs (v3 + 1).toNatClampNeg) (xs (v3 + 2).toNatClampNeg))) 2 gL_law_X4_shows rfl ⟨rfl, rfl⟩ hdL_X4_shows ⟨Nat.le_of_ble_eq_true rfl, Nat.le_of_ble_eq_true rfl⟩ (obF0 hF) rfl rfl rfl (Nat.le_of_ble_eq_true rfl) dL_law_397) 400 rfl (fun r1 M1 hw => ?_)
  refine q_pop hC dL_law_400 rfl 401 rfl ?_
  refine q_aload_n hC dL_law_401 2 rfl 402 rfl ?_
  refine q_aload_n hC dL_law_402 0 rfl 403 rfl ?_
  refine q_iload_n hC dL_law_403 3 rfl 404 rfl ?_
  refine q_iconst (v := 1) hC dL_law_404 (by decide) 405 rfl ?_
  refine q_iadd hC dL_law_405 406 rfl ?_
  refine q_sld hC hX hB.2.1 dL_law_406 407 rfl ?_
  refine q_aload_n hC dL_law_407 0 rfl 408 rfl ?_
  refine q_iload_n hC dL_law_408 3 rfl 409 rfl ?_
  refine q_iconst (v := 2) hC dL_law_409 (by decide) 410 rfl ?_
  refine q_iadd hC dL_law_410 411 rfl ?_
  refine q_sld hC hX hB.2.2.1 dL_law_411 412 rfl ?_
  refine r_callI hC (go_V (q := (RX5, TX5, 26)) (As := [.int (xs (v3 + 1).toNatClampNeg), .int (xs (v3 + 2).toNatClampNeg)]) (rest := []) hC (ctX5_shows (zl z) g M1 (xs (v3 + 1).toNatClampNeg) (xs (v3 + 2).toNatClampNeg) _ hF.f5 hw) 2 gL_law_X5_shows rfl ⟨rfl, rfl⟩ hdL_X5_shows ⟨Nat.le_of_ble_eq_true rfl, Nat.le_of_ble_eq_true rfl⟩ (obF52 hF.f5) rfl rfl rfl (Nat.le_of_ble_eq_true rfl) dL_law_412) 415 rfl (fun r2 M2 hw => ?_)
  have hw3 := hw.2
  refine q_pop hC dL_law_415 rfl 416 rfl ?_
  refine q_goto hC 1437 dL_law_416 (by decide) ?_
  exact kk _ hw3
set_option maxHeartbeats 4000000 in
theorem law_c7 {z : ZZ} {g : GG} {Qf : State → Prop} {M : MM} {b Ln : Nat} {xs : Nat → Int32} {v3 : Int32} (hC : CX z g cL_law 4 wsL_law RL room_1) (hF : full g) (hX : SX z g b Ln xs) (hB : inS v3 Ln) (hR : Rel M) (kk : ∀ M2, Rel M2 → XX z g Qf 4 1437 [(0, .ref b), (1, .ref (gA g 0)), (2, .ref (gA g 52)), (3, .int v3)] [] M2) : XX z g Qf 4 419 [(0, .ref b), (1, .ref (gA g 0)), (2, .ref (gA g 52)), (3, .int v3)] [] M := by
  refine q_aload_n hC dL_law_419 1 rfl 420 rfl ?_
  refine r_callI hC (go_V (q := (RX4, TX4, 12)) (As := []) (rest := []) hC (ctX4_meet (zl z) g M _ hF (L_meet hR)) 0 gL_law_X4_meet rfl ⟨rfl, rfl⟩ hdL_X4_meet ⟨Nat.le_of_ble_eq_true rfl, Nat.le_of_ble_eq_true rfl⟩ (obF0 hF) rfl rfl rfl (Nat.le_of_ble_eq_true rfl) dL_law_420) 423 rfl (fun r1 M1 hw => ?_)
  refine q_pop hC dL_law_423 rfl 424 rfl ?_
  refine q_aload_n hC dL_law_424 2 rfl 425 rfl ?_
  refine r_callI hC (go_V (q := (RX5, TX5, 26)) (As := []) (rest := []) hC (ctX5_meet (zl z) g M1 _ hF.f5 hw) 0 gL_law_X5_meet rfl ⟨rfl, rfl⟩ hdL_X5_meet ⟨Nat.le_of_ble_eq_true rfl, Nat.le_of_ble_eq_true rfl⟩ (obF52 hF.f5) rfl rfl rfl (Nat.le_of_ble_eq_true rfl) dL_law_425) 428 rfl (fun r2 M2 hw => ?_)
  have hw3 := hw.2
  refine q_pop hC dL_law_428 rfl 429 rfl ?_
  refine q_goto hC 1437 dL_law_429 (by decide) ?_
  exact kk _ hw3
set_option maxHeartbeats 4000000 in
theorem law_c8 {z : ZZ} {g : GG} {Qf : State → Prop} {M : MM} {b Ln : Nat} {xs : Nat → Int32} {v3 : Int32} (hC : CX z g cL_law 4 wsL_law RL room_1) (hF : full g) (hX : SX z g b Ln xs) (hB : inS v3 Ln) (hR : Rel M) (kk : ∀ M2, Rel M2 → XX z g Qf 4 1437 [(0, .ref b), (1, .ref (gA g 0)), (2, .ref (gA g 52)), (3, .int v3)] [] M2) : XX z g Qf 4 432 [(0, .ref b), (1, .ref (gA g 0)), (2, .ref (gA g 52)), (3, .int v3)] [] M := by
  refine q_aload_n hC dL_law_432 1 rfl 433 rfl ?_
  refine q_aload_n hC dL_law_433 0 rfl 434 rfl ?_
  refine q_iload_n hC dL_law_434 3 rfl 435 rfl ?_
  refine q_iconst (v := 1) hC dL_law_435 (by decide) 436 rfl ?_
  refine q_iadd hC dL_law_436 437 rfl ?_
  refine q_sld hC hX hB.2.1 dL_law_437 438 rfl ?_
  refine q_aload_n hC dL_law_438 0 rfl 439 rfl ?_
  refine q_iload_n hC dL_law_439 3 rfl 440 rfl ?_
  refine q_iconst (v := 2) hC dL_law_440 (by decide) 441 rfl ?_
  refine q_iadd hC dL_law_441 442 rfl ?_
  refine q_sld hC hX hB.2.2.1 dL_law_442 443 rfl ?_
  refine q_aload_n hC dL_law_443 0 rfl 444 rfl ?_
  refine q_iload_n hC dL_law_444 3 rfl 445 rfl ?_
  refine q_iconst (v := 3) hC dL_law_445 (by decide) 446 rfl ?_
  refine q_iadd hC dL_law_446 447 rfl ?_
  refine q_sld hC hX hB.2.2.2.1 dL_law_447 448 rfl ?_
  refine r_callI hC (go_V (q := (RX4, TX4, 12)) (As := [.int (xs (v3 + 1).toNatClampNeg), .int (xs (v3 + 2).toNatClampNeg), .int (xs (v3 + 3).toNatClampNeg)]) (rest := []) hC (ctX4_ticks (zl z) g M (xs (v3 + 1).toNatClampNeg) (xs (v3 + 2).toNatClampNeg) (xs (v3 + 3).toNatClampNeg) _ hF (L_ticks hR (xs (v3 + 1).toNatClampNeg) (xs (v3 + 2).toNatClampNeg) (xs (v3 + 3).toNatClampNeg))) 3 gL_law_X4_ticks rfl ⟨rfl, rfl⟩ hdL_X4_ticks ⟨Nat.le_of_ble_eq_true rfl, Nat.le_of_ble_eq_true rfl⟩ (obF0 hF) rfl rfl rfl (Nat.le_of_ble_eq_true rfl) dL_law_448) 451 rfl (fun r1 M1 hw => ?_)
  refine q_pop hC dL_law_451 rfl 452 rfl ?_
  refine q_aload_n hC dL_law_452 2 rfl 453 rfl ?_
  refine q_aload_n hC dL_law_453 0 rfl 454 rfl ?_
  refine q_iload_n hC dL_law_454 3 rfl 455 rfl ?_
  refine q_iconst (v := 1) hC dL_law_455 (by decide) 456 rfl ?_
  refine q_iadd hC dL_law_456 457 rfl ?_
  refine q_sld hC hX hB.2.1 dL_law_457 458 rfl ?_
  refine q_aload_n hC dL_law_458 0 rfl 459 rfl ?_
  refine q_iload_n hC dL_law_459 3 rfl 460 rfl ?_
  refine q_iconst (v := 2) hC dL_law_460 (by decide) 461 rfl ?_
  refine q_iadd hC dL_law_461 462 rfl ?_
  refine q_sld hC hX hB.2.2.1 dL_law_462 463 rfl ?_
  refine q_aload_n hC dL_law_463 0 rfl 464 rfl ?_
  refine q_iload_n hC dL_law_464 3 rfl 465 rfl ?_
  refine q_iconst (v := 3) hC dL_law_465 (by decide) 466 rfl ?_
  refine q_iadd hC dL_law_466 467 rfl ?_
  refine q_sld hC hX hB.2.2.2.1 dL_law_467 468 rfl ?_
  refine r_callI hC (go_V (q := (RX5, TX5, 26)) (As := [.int (xs (v3 + 1).toNatClampNeg), .int (xs (v3 + 2).toNatClampNeg), .int (xs (v3 + 3).toNatClampNeg)]) (rest := []) hC (ctX5_ticks (zl z) g M1 (xs (v3 + 1).toNatClampNeg) (xs (v3 + 2).toNatClampNeg) (xs (v3 + 3).toNatClampNeg) _ hF.f5 hw) 3 gL_law_X5_ticks rfl ⟨rfl, rfl⟩ hdL_X5_ticks ⟨Nat.le_of_ble_eq_true rfl, Nat.le_of_ble_eq_true rfl⟩ (obF52 hF.f5) rfl rfl rfl (Nat.le_of_ble_eq_true rfl) dL_law_468) 471 rfl (fun r2 M2 hw => ?_)
  have hw3 := hw.2
  refine q_pop hC dL_law_471 rfl 472 rfl ?_
  refine q_goto hC 1437 dL_law_472 (by decide) ?_
  exact kk _ hw3
set_option maxHeartbeats 4000000 in
theorem law_c9 {z : ZZ} {g : GG} {Qf : State → Prop} {M : MM} {b Ln : Nat} {xs : Nat → Int32} {v3 : Int32} (hC : CX z g cL_law 4 wsL_law RL room_1) (hF : full g) (hX : SX z g b Ln xs) (hB : inS v3 Ln) (hR : Rel M) (kk : ∀ M2, Rel M2 → XX z g Qf 4 1437 [(0, .ref b), (1, .ref (gA g 0)), (2, .ref (gA g 52)), (3, .int v3)] [] M2) : XX z g Qf 4 475 [(0, .ref b), (1, .ref (gA g 0)), (2, .ref (gA g 52)), (3, .int v3)] [] M := by
  refine q_aload_n hC dL_law_475 1 rfl 476 rfl ?_
  refine q_aload_n hC dL_law_476 0 rfl 477 rfl ?_
  refine q_iload_n hC dL_law_477 3 rfl 478 rfl ?_
  refine q_iconst (v := 1) hC dL_law_478 (by decide) 479 rfl ?_
  refine q_iadd hC dL_law_479 480 rfl ?_
  refine q_sld hC hX hB.2.1 dL_law_480 481 rfl ?_
  refine r_callI hC (go_V (q := (RX4, TX4, 12)) (As := [.int (xs (v3 + 1).toNatClampNeg)]) (rest := []) hC (ctX4_go (zl z) g M (xs (v3 + 1).toNatClampNeg) _ hF (L_go hR (xs (v3 + 1).toNatClampNeg))) 1 gL_law_X4_go rfl ⟨rfl, rfl⟩ hdL_X4_go ⟨Nat.le_of_ble_eq_true rfl, Nat.le_of_ble_eq_true rfl⟩ (obF0 hF) rfl rfl rfl (Nat.le_of_ble_eq_true rfl) dL_law_481) 484 rfl (fun r1 M1 hw => ?_)
  refine q_pop hC dL_law_484 rfl 485 rfl ?_
  refine q_aload_n hC dL_law_485 2 rfl 486 rfl ?_
  refine q_aload_n hC dL_law_486 0 rfl 487 rfl ?_
  refine q_iload_n hC dL_law_487 3 rfl 488 rfl ?_
  refine q_iconst (v := 1) hC dL_law_488 (by decide) 489 rfl ?_
  refine q_iadd hC dL_law_489 490 rfl ?_
  refine q_sld hC hX hB.2.1 dL_law_490 491 rfl ?_
  refine r_callI hC (go_V (q := (RX5, TX5, 26)) (As := [.int (xs (v3 + 1).toNatClampNeg)]) (rest := []) hC (ctX5_go (zl z) g M1 (xs (v3 + 1).toNatClampNeg) _ hF.f5 hw) 1 gL_law_X5_go rfl ⟨rfl, rfl⟩ hdL_X5_go ⟨Nat.le_of_ble_eq_true rfl, Nat.le_of_ble_eq_true rfl⟩ (obF52 hF.f5) rfl rfl rfl (Nat.le_of_ble_eq_true rfl) dL_law_491) 494 rfl (fun r2 M2 hw => ?_)
  have hw3 := hw.2
  refine q_pop hC dL_law_494 rfl 495 rfl ?_
  refine q_goto hC 1437 dL_law_495 (by decide) ?_
  exact kk _ hw3
set_option maxHeartbeats 4000000 in
theorem law_c10 {z : ZZ} {g : GG} {Qf : State → Prop} {M : MM} {b Ln : Nat} {xs : Nat → Int32} {v3 : Int32} (hC : CX z g cL_law 4 wsL_law RL room_1) (hF : full g) (hX : SX z g b Ln xs) (hB : inS v3 Ln) (hR : Rel M) (kk : ∀ M2, Rel M2 → XX z g Qf 4 1437 [(0, .ref b), (1, .ref (gA g 0)), (2, .ref (gA g 52)), (3, .int v3)] [] M2) : XX z g Qf 4 498 [(0, .ref b), (1, .ref (gA g 0)), (2, .ref (gA g 52)), (3, .int v3)] [] M := by
  refine q_aload_n hC dL_law_498 1 rfl 499 rfl ?_
  refine q_aload_n hC dL_law_499 0 rfl 500 rfl ?_
  refine q_iload_n hC dL_law_500 3 rfl 501 rfl ?_
  refine q_iconst (v := 1) hC dL_law_501 (by decide) 502 rfl ?_
  refine q_iadd hC dL_law_502 503 rfl ?_
  refine q_sld hC hX hB.2.1 dL_law_503 504 rfl ?_
  refine r_callI hC (go_V (q := (RX4, TX4, 12)) (As := [.int (xs (v3 + 1).toNatClampNeg)]) (rest := []) hC (ctX4_now (zl z) g M (xs (v3 + 1).toNatClampNeg) _ hF (L_now hR (xs (v3 + 1).toNatClampNeg))) 1 gL_law_X4_now rfl ⟨rfl, rfl⟩ hdL_X4_now ⟨Nat.le_of_ble_eq_true rfl, Nat.le_of_ble_eq_true rfl⟩ (obF0 hF) rfl rfl rfl (Nat.le_of_ble_eq_true rfl) dL_law_504) 507 rfl (fun r1 M1 hw => ?_)
  refine q_pop hC dL_law_507 rfl 508 rfl ?_
  refine q_aload_n hC dL_law_508 2 rfl 509 rfl ?_
  refine q_aload_n hC dL_law_509 0 rfl 510 rfl ?_
  refine q_iload_n hC dL_law_510 3 rfl 511 rfl ?_
  refine q_iconst (v := 1) hC dL_law_511 (by decide) 512 rfl ?_
  refine q_iadd hC dL_law_512 513 rfl ?_
  refine q_sld hC hX hB.2.1 dL_law_513 514 rfl ?_
  refine r_callI hC (go_V (q := (RX5, TX5, 26)) (As := [.int (xs (v3 + 1).toNatClampNeg)]) (rest := []) hC (ctX5_now (zl z) g M1 (xs (v3 + 1).toNatClampNeg) _ hF.f5 hw) 1 gL_law_X5_now rfl ⟨rfl, rfl⟩ hdL_X5_now ⟨Nat.le_of_ble_eq_true rfl, Nat.le_of_ble_eq_true rfl⟩ (obF52 hF.f5) rfl rfl rfl (Nat.le_of_ble_eq_true rfl) dL_law_514) 517 rfl (fun r2 M2 hw => ?_)
  have hw3 := hw.2
  refine q_pop hC dL_law_517 rfl 518 rfl ?_
  refine q_goto hC 1437 dL_law_518 (by decide) ?_
  exact kk _ hw3
set_option maxHeartbeats 4000000 in
theorem law_c11 {z : ZZ} {g : GG} {Qf : State → Prop} {M : MM} {b Ln : Nat} {xs : Nat → Int32} {v3 : Int32} (hC : CX z g cL_law 4 wsL_law RL room_1) (hF : full g) (hX : SX z g b Ln xs) (hB : inS v3 Ln) (hR : Rel M) (kk : ∀ M2, Rel M2 → XX z g Qf 4 1437 [(0, .ref b), (1, .ref (gA g 0)), (2, .ref (gA g 52)), (3, .int v3)] [] M2) : XX z g Qf 4 521 [(0, .ref b), (1, .ref (gA g 0)), (2, .ref (gA g 52)), (3, .int v3)] [] M := by
  by_cases hz : xs (v3 + 2).toNatClampNeg = 0
  · refine q_aload_n hC dL_law_521 1 rfl 522 rfl ?_
    refine q_aload_n hC dL_law_522 0 rfl 523 rfl ?_
    refine q_iload_n hC dL_law_523 3 rfl 524 rfl ?_
    refine q_iconst (v := 1) hC dL_law_524 (by decide) 525 rfl ?_
    refine q_iadd hC dL_law_525 526 rfl ?_
    refine q_sld hC hX hB.2.1 dL_law_526 527 rfl ?_
    refine q_aload_n hC dL_law_527 0 rfl 528 rfl ?_
    refine q_iload_n hC dL_law_528 3 rfl 529 rfl ?_
    refine q_iconst (v := 2) hC dL_law_529 (by decide) 530 rfl ?_
    refine q_iadd hC dL_law_530 531 rfl ?_
    refine q_sld hC hX hB.2.2.1 dL_law_531 532 rfl ?_
    refine q_if_eq (A := True) (B := False) hC 539 dL_law_532 (by decide) 535 rfl ⟨fun _ => trivial, fun q => absurd hz q⟩ (fun _ => ?_) (fun q => q.elim)
    refine q_iconst (v := 0) hC dL_law_539 (by decide) 540 rfl ?_
    refine r_callI hC (go_V (q := (RX4, TX4, 12)) (As := [.int (xs (v3 + 1).toNatClampNeg), .int 0]) (rest := []) hC (ctX4_within (zl z) g M (xs (v3 + 1).toNatClampNeg) 0 _ hF (L_within hR (xs (v3 + 1).toNatClampNeg) 0)) 2 gL_law_X4_within rfl ⟨rfl, rfl⟩ hdL_X4_within ⟨Nat.le_of_ble_eq_true rfl, Nat.le_of_ble_eq_true rfl⟩ (obF0 hF) rfl rfl rfl (Nat.le_of_ble_eq_true rfl) dL_law_540) 543 rfl (fun r1 M1 hw => ?_)
    refine q_pop hC dL_law_543 rfl 544 rfl ?_
    refine q_aload_n hC dL_law_544 2 rfl 545 rfl ?_
    refine q_aload_n hC dL_law_545 0 rfl 546 rfl ?_
    refine q_iload_n hC dL_law_546 3 rfl 547 rfl ?_
    refine q_iconst (v := 1) hC dL_law_547 (by decide) 548 rfl ?_
    refine q_iadd hC dL_law_548 549 rfl ?_
    refine q_sld hC hX hB.2.1 dL_law_549 550 rfl ?_
    refine q_aload_n hC dL_law_550 0 rfl 551 rfl ?_
    refine q_iload_n hC dL_law_551 3 rfl 552 rfl ?_
    refine q_iconst (v := 2) hC dL_law_552 (by decide) 553 rfl ?_
    refine q_iadd hC dL_law_553 554 rfl ?_
    refine q_sld hC hX hB.2.2.1 dL_law_554 555 rfl ?_
    refine q_if_eq (A := True) (B := False) hC 562 dL_law_555 (by decide) 558 rfl ⟨fun _ => trivial, fun q => absurd hz q⟩ (fun _ => ?_) (fun q => q.elim)
    refine q_iconst (v := 0) hC dL_law_562 (by decide) 563 rfl ?_
    refine r_callI hC (go_V (q := (RX5, TX5, 26)) (As := [.int (xs (v3 + 1).toNatClampNeg), .int 0]) (rest := []) hC (ctX5_within (zl z) g M1 (xs (v3 + 1).toNatClampNeg) 0 _ hF.f5 hw) 2 gL_law_X5_within rfl ⟨rfl, rfl⟩ hdL_X5_within ⟨Nat.le_of_ble_eq_true rfl, Nat.le_of_ble_eq_true rfl⟩ (obF52 hF.f5) rfl rfl rfl (Nat.le_of_ble_eq_true rfl) dL_law_563) 566 rfl (fun r2 M2 hw => ?_)
    have hw3 := hw.2
    refine q_pop hC dL_law_566 rfl 567 rfl ?_
    refine q_goto hC 1437 dL_law_567 (by decide) ?_
    exact kk _ hw3
  · refine q_aload_n hC dL_law_521 1 rfl 522 rfl ?_
    refine q_aload_n hC dL_law_522 0 rfl 523 rfl ?_
    refine q_iload_n hC dL_law_523 3 rfl 524 rfl ?_
    refine q_iconst (v := 1) hC dL_law_524 (by decide) 525 rfl ?_
    refine q_iadd hC dL_law_525 526 rfl ?_
    refine q_sld hC hX hB.2.1 dL_law_526 527 rfl ?_
    refine q_aload_n hC dL_law_527 0 rfl 528 rfl ?_
    refine q_iload_n hC dL_law_528 3 rfl 529 rfl ?_
    refine q_iconst (v := 2) hC dL_law_529 (by decide) 530 rfl ?_
    refine q_iadd hC dL_law_530 531 rfl ?_
    refine q_sld hC hX hB.2.2.1 dL_law_531 532 rfl ?_
    refine q_if_eq (A := False) (B := True) hC 539 dL_law_532 (by decide) 535 rfl ⟨fun q => absurd q hz, fun _ => trivial⟩ (fun q => q.elim) (fun _ => ?_)
    refine q_iconst (v := 1) hC dL_law_535 (by decide) 536 rfl ?_
    refine q_goto hC 540 dL_law_536 (by decide) ?_
    refine r_callI hC (go_V (q := (RX4, TX4, 12)) (As := [.int (xs (v3 + 1).toNatClampNeg), .int 1]) (rest := []) hC (ctX4_within (zl z) g M (xs (v3 + 1).toNatClampNeg) 1 _ hF (L_within hR (xs (v3 + 1).toNatClampNeg) 1)) 2 gL_law_X4_within rfl ⟨rfl, rfl⟩ hdL_X4_within ⟨Nat.le_of_ble_eq_true rfl, Nat.le_of_ble_eq_true rfl⟩ (obF0 hF) rfl rfl rfl (Nat.le_of_ble_eq_true rfl) dL_law_540) 543 rfl (fun r1 M1 hw => ?_)
    refine q_pop hC dL_law_543 rfl 544 rfl ?_
    refine q_aload_n hC dL_law_544 2 rfl 545 rfl ?_
    refine q_aload_n hC dL_law_545 0 rfl 546 rfl ?_
    refine q_iload_n hC dL_law_546 3 rfl 547 rfl ?_
    refine q_iconst (v := 1) hC dL_law_547 (by decide) 548 rfl ?_
    refine q_iadd hC dL_law_548 549 rfl ?_
    refine q_sld hC hX hB.2.1 dL_law_549 550 rfl ?_
    refine q_aload_n hC dL_law_550 0 rfl 551 rfl ?_
    refine q_iload_n hC dL_law_551 3 rfl 552 rfl ?_
    refine q_iconst (v := 2) hC dL_law_552 (by decide) 553 rfl ?_
    refine q_iadd hC dL_law_553 554 rfl ?_
    refine q_sld hC hX hB.2.2.1 dL_law_554 555 rfl ?_
    refine q_if_eq (A := False) (B := True) hC 562 dL_law_555 (by decide) 558 rfl ⟨fun q => absurd q hz, fun _ => trivial⟩ (fun q => q.elim) (fun _ => ?_)
    refine q_iconst (v := 1) hC dL_law_558 (by decide) 559 rfl ?_
    refine q_goto hC 563 dL_law_559 (by decide) ?_
    refine r_callI hC (go_V (q := (RX5, TX5, 26)) (As := [.int (xs (v3 + 1).toNatClampNeg), .int 1]) (rest := []) hC (ctX5_within (zl z) g M1 (xs (v3 + 1).toNatClampNeg) 1 _ hF.f5 hw) 2 gL_law_X5_within rfl ⟨rfl, rfl⟩ hdL_X5_within ⟨Nat.le_of_ble_eq_true rfl, Nat.le_of_ble_eq_true rfl⟩ (obF52 hF.f5) rfl rfl rfl (Nat.le_of_ble_eq_true rfl) dL_law_563) 566 rfl (fun r2 M2 hw => ?_)
    have hw3 := hw.2
    refine q_pop hC dL_law_566 rfl 567 rfl ?_
    refine q_goto hC 1437 dL_law_567 (by decide) ?_
    exact kk _ hw3
