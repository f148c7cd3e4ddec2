theorem hdL_X4_feed : yX4_feed.cls = RX4 ∧ yX4_feed.cls ≠ "java/lang/invoke/MethodHandle" ∧ yX4_feed.cls ≠ "java/lang/invoke/VarHandle" ∧ (parseMethodDescriptor yX4_feed.desc).map (fun d => d.parameters.length) = some 1 := by decide +kernel
theorem hdL_X5_feed : yX5_feed.cls = RX5 ∧ yX5_feed.cls ≠ "java/lang/invoke/MethodHandle" ∧ yX5_feed.cls ≠ "java/lang/invoke/VarHandle" ∧ (parseMethodDescriptor yX5_feed.desc).map (fun d => d.parameters.length) = some 1 := by decide +kernel
theorem hdL_X4_end : yX4_end.cls = RX4 ∧ yX4_end.cls ≠ "java/lang/invoke/MethodHandle" ∧ yX4_end.cls ≠ "java/lang/invoke/VarHandle" ∧ (parseMethodDescriptor yX4_end.desc).map (fun d => d.parameters.length) = some 1 := by decide +kernel
theorem hdL_X5_end : yX5_end.cls = RX5 ∧ yX5_end.cls ≠ "java/lang/invoke/MethodHandle" ∧ yX5_end.cls ≠ "java/lang/invoke/VarHandle" ∧ (parseMethodDescriptor yX5_end.desc).map (fun d => d.parameters.length) = some 1 := by decide +kernel
theorem hdL_X4_text : yX4_text.cls = RX4 ∧ yX4_text.cls ≠ "java/lang/invoke/MethodHandle" ∧ yX4_text.cls ≠ "java/lang/invoke/VarHandle" ∧ (parseMethodDescriptor yX4_text.desc).map (fun d => d.parameters.length) = some 0 := by decide +kernel
theorem hdL_X5_text : yX5_text.cls = RX5 ∧ yX5_text.cls ≠ "java/lang/invoke/MethodHandle" ∧ yX5_text.cls ≠ "java/lang/invoke/VarHandle" ∧ (parseMethodDescriptor yX5_text.desc).map (fun d => d.parameters.length) = some 0 := by decide +kernel
theorem hdL_X4_fault : yX4_fault.cls = RX4 ∧ yX4_fault.cls ≠ "java/lang/invoke/MethodHandle" ∧ yX4_fault.cls ≠ "java/lang/invoke/VarHandle" ∧ (parseMethodDescriptor yX4_fault.desc).map (fun d => d.parameters.length) = some 0 := by decide +kernel
theorem hdL_X5_fault : yX5_fault.cls = RX5 ∧ yX5_fault.cls ≠ "java/lang/invoke/MethodHandle" ∧ yX5_fault.cls ≠ "java/lang/invoke/VarHandle" ∧ (parseMethodDescriptor yX5_fault.desc).map (fun d => d.parameters.length) = some 0 := by decide +kernel
theorem hdL_X4_rule : yX4_rule.cls = RX4 ∧ yX4_rule.cls ≠ "java/lang/invoke/MethodHandle" ∧ yX4_rule.cls ≠ "java/lang/invoke/VarHandle" ∧ (parseMethodDescriptor yX4_rule.desc).map (fun d => d.parameters.length) = some 1 := by decide +kernel
theorem hdL_X5_rule : yX5_rule.cls = RX5 ∧ yX5_rule.cls ≠ "java/lang/invoke/MethodHandle" ∧ yX5_rule.cls ≠ "java/lang/invoke/VarHandle" ∧ (parseMethodDescriptor yX5_rule.desc).map (fun d => d.parameters.length) = some 1 := by decide +kernel
theorem hdL_X4_turns : yX4_turns.cls = RX4 ∧ yX4_turns.cls ≠ "java/lang/invoke/MethodHandle" ∧ yX4_turns.cls ≠ "java/lang/invoke/VarHandle" ∧ (parseMethodDescriptor yX4_turns.desc).map (fun d => d.parameters.length) = some 2 := by decide +kernel
theorem hdL_X5_turns : yX5_turns.cls = RX5 ∧ yX5_turns.cls ≠ "java/lang/invoke/MethodHandle" ∧ yX5_turns.cls ≠ "java/lang/invoke/VarHandle" ∧ (parseMethodDescriptor yX5_turns.desc).map (fun d => d.parameters.length) = some 2 := by decide +kernel
theorem hdL_X4_shows : yX4_shows.cls = RX4 ∧ yX4_shows.cls ≠ "java/lang/invoke/MethodHandle" ∧ yX4_shows.cls ≠ "java/lang/invoke/VarHandle" ∧ (parseMethodDescriptor yX4_shows.desc).map (fun d => d.parameters.length) = some 2 := by decide +kernel
theorem hdL_X5_shows : yX5_shows.cls = RX5 ∧ yX5_shows.cls ≠ "java/lang/invoke/MethodHandle" ∧ yX5_shows.cls ≠ "java/lang/invoke/VarHandle" ∧ (parseMethodDescriptor yX5_shows.desc).map (fun d => d.parameters.length) = some 2 := by decide +kernel
theorem hdL_X4_meet : yX4_meet.cls = RX4 ∧ yX4_meet.cls ≠ "java/lang/invoke/MethodHandle" ∧ yX4_meet.cls ≠ "java/lang/invoke/VarHandle" ∧ (parseMethodDescriptor yX4_meet.desc).map (fun d => d.parameters.length) = some 0 := by decide +kernel
theorem hdL_X5_meet : yX5_meet.cls = RX5 ∧ yX5_meet.cls ≠ "java/lang/invoke/MethodHandle" ∧ yX5_meet.cls ≠ "java/lang/invoke/VarHandle" ∧ (parseMethodDescriptor yX5_meet.desc).map (fun d => d.parameters.length) = some 0 := by decide +kernel
theorem hdL_X4_ticks : yX4_ticks.cls = RX4 ∧ yX4_ticks.cls ≠ "java/lang/invoke/MethodHandle" ∧ yX4_ticks.cls ≠ "java/lang/invoke/VarHandle" ∧ (parseMethodDescriptor yX4_ticks.desc).map (fun d => d.parameters.length) = some 3 := by decide +kernel
theorem hdL_X5_ticks : yX5_ticks.cls = RX5 ∧ yX5_ticks.cls ≠ "java/lang/invoke/MethodHandle" ∧ yX5_ticks.cls ≠ "java/lang/invoke/VarHandle" ∧ (parseMethodDescriptor yX5_ticks.desc).map (fun d => d.parameters.length) = some 3 := by decide +kernel
theorem hdL_X4_go : yX4_go.cls = RX4 ∧ yX4_go.cls ≠ "java/lang/invoke/MethodHandle" ∧ yX4_go.cls ≠ "java/lang/invoke/VarHandle" ∧ (parseMethodDescriptor yX4_go.desc).map (fun d => d.parameters.length) = some 1 := by decide +kernel
theorem hdL_X5_go : yX5_go.cls = RX5 ∧ yX5_go.cls ≠ "java/lang/invoke/MethodHandle" ∧ yX5_go.cls ≠ "java/lang/invoke/VarHandle" ∧ (parseMethodDescriptor yX5_go.desc).map (fun d => d.parameters.length) = some 1 := by decide +kernel
theorem hdL_X4_now : yX4_now.cls = RX4 ∧ yX4_now.cls ≠ "java/lang/invoke/MethodHandle" ∧ yX4_now.cls ≠ "java/lang/invoke/VarHandle" ∧ (parseMethodDescriptor yX4_now.desc).map (fun d => d.parameters.length) = some 1 := by decide +kernel
theorem hdL_X5_now : yX5_now.cls = RX5 ∧ yX5_now.cls ≠ "java/lang/invoke/MethodHandle" ∧ yX5_now.cls ≠ "java/lang/invoke/VarHandle" ∧ (parseMethodDescriptor yX5_now.desc).map (fun d => d.parameters.length) = some 1 := by decide +kernel
theorem hdL_X4_within : yX4_within.cls = RX4 ∧ yX4_within.cls ≠ "java/lang/invoke/MethodHandle" ∧ yX4_within.cls ≠ "java/lang/invoke/VarHandle" ∧ (parseMethodDescriptor yX4_within.desc).map (fun d => d.parameters.length) = some 2 := by decide +kernel
theorem hdL_X5_within : yX5_within.cls = RX5 ∧ yX5_within.cls ≠ "java/lang/invoke/MethodHandle" ∧ yX5_within.cls ≠ "java/lang/invoke/VarHandle" ∧ (parseMethodDescriptor yX5_within.desc).map (fun d => d.parameters.length) = some 2 := by decide +kernel
theorem hdL_X4_block : yX4_block.cls = RX4 ∧ yX4_block.cls ≠ "java/lang/invoke/MethodHandle" ∧ yX4_block.cls ≠ "java/lang/invoke/VarHandle" ∧ (parseMethodDescriptor yX4_block.desc).map (fun d => d.parameters.length) = some 2 := by decide +kernel
theorem hdL_X5_block : yX5_block.cls = RX5 ∧ yX5_block.cls ≠ "java/lang/invoke/MethodHandle" ∧ yX5_block.cls ≠ "java/lang/invoke/VarHandle" ∧ (parseMethodDescriptor yX5_block.desc).map (fun d => d.parameters.length) = some 2 := by decide +kernel
theorem hdL_X4_blockAt : yX4_blockAt.cls = RX4 ∧ yX4_blockAt.cls ≠ "java/lang/invoke/MethodHandle" ∧ yX4_blockAt.cls ≠ "java/lang/invoke/VarHandle" ∧ (parseMethodDescriptor yX4_blockAt.desc).map (fun d => d.parameters.length) = some 1 := by decide +kernel
theorem hdL_X5_blockAt : yX5_blockAt.cls = RX5 ∧ yX5_blockAt.cls ≠ "java/lang/invoke/MethodHandle" ∧ yX5_blockAt.cls ≠ "java/lang/invoke/VarHandle" ∧ (parseMethodDescriptor yX5_blockAt.desc).map (fun d => d.parameters.length) = some 1 := by decide +kernel
theorem hdL_X4_type : yX4_type.cls = RX4 ∧ yX4_type.cls ≠ "java/lang/invoke/MethodHandle" ∧ yX4_type.cls ≠ "java/lang/invoke/VarHandle" ∧ (parseMethodDescriptor yX4_type.desc).map (fun d => d.parameters.length) = some 1 := by decide +kernel
theorem hdL_X5_type : yX5_type.cls = RX5 ∧ yX5_type.cls ≠ "java/lang/invoke/MethodHandle" ∧ yX5_type.cls ≠ "java/lang/invoke/VarHandle" ∧ (parseMethodDescriptor yX5_type.desc).map (fun d => d.parameters.length) = some 1 := by decide +kernel
theorem hdL_X4_write : yX4_write.cls = RX4 ∧ yX4_write.cls ≠ "java/lang/invoke/MethodHandle" ∧ yX4_write.cls ≠ "java/lang/invoke/VarHandle" ∧ (parseMethodDescriptor yX4_write.desc).map (fun d => d.parameters.length) = some 1 := by decide +kernel
theorem hdL_X5_write : yX5_write.cls = RX5 ∧ yX5_write.cls ≠ "java/lang/invoke/MethodHandle" ∧ yX5_write.cls ≠ "java/lang/invoke/VarHandle" ∧ (parseMethodDescriptor yX5_write.desc).map (fun d => d.parameters.length) = some 1 := by decide +kernel
theorem hdL_X4_mark : yX4_mark.cls = RX4 ∧ yX4_mark.cls ≠ "java/lang/invoke/MethodHandle" ∧ yX4_mark.cls ≠ "java/lang/invoke/VarHandle" ∧ (parseMethodDescriptor yX4_mark.desc).map (fun d => d.parameters.length) = some 1 := by decide +kernel
theorem hdL_X5_mark : yX5_mark.cls = RX5 ∧ yX5_mark.cls ≠ "java/lang/invoke/MethodHandle" ∧ yX5_mark.cls ≠ "java/lang/invoke/VarHandle" ∧ (parseMethodDescriptor yX5_mark.desc).map (fun d => d.parameters.length) = some 1 := by decide +kernel
theorem hdL_X4_spoil : yX4_spoil.cls = RX4 ∧ yX4_spoil.cls ≠ "java/lang/invoke/MethodHandle" ∧ yX4_spoil.cls ≠ "java/lang/invoke/VarHandle" ∧ (parseMethodDescriptor yX4_spoil.desc).map (fun d => d.parameters.length) = some 3 := by decide +kernel
theorem hdL_X5_spoil : yX5_spoil.cls = RX5 ∧ yX5_spoil.cls ≠ "java/lang/invoke/MethodHandle" ∧ yX5_spoil.cls ≠ "java/lang/invoke/VarHandle" ∧ (parseMethodDescriptor yX5_spoil.desc).map (fun d => d.parameters.length) = some 3 := by decide +kernel
theorem hdL_X4_dead : yX4_dead.cls = RX4 ∧ yX4_dead.cls ≠ "java/lang/invoke/MethodHandle" ∧ yX4_dead.cls ≠ "java/lang/invoke/VarHandle" ∧ (parseMethodDescriptor yX4_dead.desc).map (fun d => d.parameters.length) = some 1 := by decide +kernel
theorem hdL_X5_dead : yX5_dead.cls = RX5 ∧ yX5_dead.cls ≠ "java/lang/invoke/MethodHandle" ∧ yX5_dead.cls ≠ "java/lang/invoke/VarHandle" ∧ (parseMethodDescriptor yX5_dead.desc).map (fun d => d.parameters.length) = some 1 := by decide +kernel
theorem hdL_X4_check : yX4_check.cls = RX4 ∧ yX4_check.cls ≠ "java/lang/invoke/MethodHandle" ∧ yX4_check.cls ≠ "java/lang/invoke/VarHandle" ∧ (parseMethodDescriptor yX4_check.desc).map (fun d => d.parameters.length) = some 1 := by decide +kernel
theorem hdL_X5_check : yX5_check.cls = RX5 ∧ yX5_check.cls ≠ "java/lang/invoke/MethodHandle" ∧ yX5_check.cls ≠ "java/lang/invoke/VarHandle" ∧ (parseMethodDescriptor yX5_check.desc).map (fun d => d.parameters.length) = some 1 := by decide +kernel
theorem hdL_X4_got : yX4_got.cls = RX4 ∧ yX4_got.cls ≠ "java/lang/invoke/MethodHandle" ∧ yX4_got.cls ≠ "java/lang/invoke/VarHandle" ∧ (parseMethodDescriptor yX4_got.desc).map (fun d => d.parameters.length) = some 2 := by decide +kernel
theorem hdL_X5_got : yX5_got.cls = RX5 ∧ yX5_got.cls ≠ "java/lang/invoke/MethodHandle" ∧ yX5_got.cls ≠ "java/lang/invoke/VarHandle" ∧ (parseMethodDescriptor yX5_got.desc).map (fun d => d.parameters.length) = some 2 := by decide +kernel
theorem hdL_X4_column : yX4_column.cls = RX4 ∧ yX4_column.cls ≠ "java/lang/invoke/MethodHandle" ∧ yX4_column.cls ≠ "java/lang/invoke/VarHandle" ∧ (parseMethodDescriptor yX4_column.desc).map (fun d => d.parameters.length) = some 2 := by decide +kernel
theorem hdL_X5_column : yX5_column.cls = RX5 ∧ yX5_column.cls ≠ "java/lang/invoke/MethodHandle" ∧ yX5_column.cls ≠ "java/lang/invoke/VarHandle" ∧ (parseMethodDescriptor yX5_column.desc).map (fun d => d.parameters.length) = some 2 := by decide +kernel
theorem hdL_X4_state : yX4_state.cls = RX4 ∧ yX4_state.cls ≠ "java/lang/invoke/MethodHandle" ∧ yX4_state.cls ≠ "java/lang/invoke/VarHandle" ∧ (parseMethodDescriptor yX4_state.desc).map (fun d => d.parameters.length) = some 1 := by decide +kernel
theorem hdL_X5_state : yX5_state.cls = RX5 ∧ yX5_state.cls ≠ "java/lang/invoke/MethodHandle" ∧ yX5_state.cls ≠ "java/lang/invoke/VarHandle" ∧ (parseMethodDescriptor yX5_state.desc).map (fun d => d.parameters.length) = some 1 := by decide +kernel
theorem hdL_X4_best : yX4_best.cls = RX4 ∧ yX4_best.cls ≠ "java/lang/invoke/MethodHandle" ∧ yX4_best.cls ≠ "java/lang/invoke/VarHandle" ∧ (parseMethodDescriptor yX4_best.desc).map (fun d => d.parameters.length) = some 1 := by decide +kernel
theorem hdL_X5_best : yX5_best.cls = RX5 ∧ yX5_best.cls ≠ "java/lang/invoke/MethodHandle" ∧ yX5_best.cls ≠ "java/lang/invoke/VarHandle" ∧ (parseMethodDescriptor yX5_best.desc).map (fun d => d.parameters.length) = some 1 := by decide +kernel
theorem hdL_X4_order : yX4_order.cls = RX4 ∧ yX4_order.cls ≠ "java/lang/invoke/MethodHandle" ∧ yX4_order.cls ≠ "java/lang/invoke/VarHandle" ∧ (parseMethodDescriptor yX4_order.desc).map (fun d => d.parameters.length) = some 2 := by decide +kernel
theorem hdL_X5_order : yX5_order.cls = RX5 ∧ yX5_order.cls ≠ "java/lang/invoke/MethodHandle" ∧ yX5_order.cls ≠ "java/lang/invoke/VarHandle" ∧ (parseMethodDescriptor yX5_order.desc).map (fun d => d.parameters.length) = some 2 := by decide +kernel
theorem hdL_X4_reads : yX4_reads.cls = RX4 ∧ yX4_reads.cls ≠ "java/lang/invoke/MethodHandle" ∧ yX4_reads.cls ≠ "java/lang/invoke/VarHandle" ∧ (parseMethodDescriptor yX4_reads.desc).map (fun d => d.parameters.length) = some 1 := by decide +kernel
theorem hdL_X5_reads : yX5_reads.cls = RX5 ∧ yX5_reads.cls ≠ "java/lang/invoke/MethodHandle" ∧ yX5_reads.cls ≠ "java/lang/invoke/VarHandle" ∧ (parseMethodDescriptor yX5_reads.desc).map (fun d => d.parameters.length) = some 1 := by decide +kernel
theorem hdL_X4_cut : yX4_cut.cls = RX4 ∧ yX4_cut.cls ≠ "java/lang/invoke/MethodHandle" ∧ yX4_cut.cls ≠ "java/lang/invoke/VarHandle" ∧ (parseMethodDescriptor yX4_cut.desc).map (fun d => d.parameters.length) = some 2 := by decide +kernel
theorem hdL_X5_cut : yX5_cut.cls = RX5 ∧ yX5_cut.cls ≠ "java/lang/invoke/MethodHandle" ∧ yX5_cut.cls ≠ "java/lang/invoke/VarHandle" ∧ (parseMethodDescriptor yX5_cut.desc).map (fun d => d.parameters.length) = some 2 := by decide +kernel
theorem hdL_X4_holds : yX4_holds.cls = RX4 ∧ yX4_holds.cls ≠ "java/lang/invoke/MethodHandle" ∧ yX4_holds.cls ≠ "java/lang/invoke/VarHandle" ∧ (parseMethodDescriptor yX4_holds.desc).map (fun d => d.parameters.length) = some 1 := by decide +kernel
theorem hdL_X5_holds : yX5_holds.cls = RX5 ∧ yX5_holds.cls ≠ "java/lang/invoke/MethodHandle" ∧ yX5_holds.cls ≠ "java/lang/invoke/VarHandle" ∧ (parseMethodDescriptor yX5_holds.desc).map (fun d => d.parameters.length) = some 1 := by decide +kernel
theorem hdL_X4_most : yX4_most.cls = RX4 ∧ yX4_most.cls ≠ "java/lang/invoke/MethodHandle" ∧ yX4_most.cls ≠ "java/lang/invoke/VarHandle" ∧ (parseMethodDescriptor yX4_most.desc).map (fun d => d.parameters.length) = some 1 := by decide +kernel
theorem hdL_X5_most : yX5_most.cls = RX5 ∧ yX5_most.cls ≠ "java/lang/invoke/MethodHandle" ∧ yX5_most.cls ≠ "java/lang/invoke/VarHandle" ∧ (parseMethodDescriptor yX5_most.desc).map (fun d => d.parameters.length) = some 1 := by decide +kernel
theorem hdL_X4_stream : yX4_stream.cls = RX4 ∧ yX4_stream.cls ≠ "java/lang/invoke/MethodHandle" ∧ yX4_stream.cls ≠ "java/lang/invoke/VarHandle" ∧ (parseMethodDescriptor yX4_stream.desc).map (fun d => d.parameters.length) = some 5 := by decide +kernel
theorem hdL_X5_stream : yX5_stream.cls = RX5 ∧ yX5_stream.cls ≠ "java/lang/invoke/MethodHandle" ∧ yX5_stream.cls ≠ "java/lang/invoke/VarHandle" ∧ (parseMethodDescriptor yX5_stream.desc).map (fun d => d.parameters.length) = some 5 := by decide +kernel
theorem hdL_X4_buffer : yX4_buffer.cls = RX4 ∧ yX4_buffer.cls ≠ "java/lang/invoke/MethodHandle" ∧ yX4_buffer.cls ≠ "java/lang/invoke/VarHandle" ∧ (parseMethodDescriptor yX4_buffer.desc).map (fun d => d.parameters.length) = some 4 := by decide +kernel
theorem hdL_X5_buffer : yX5_buffer.cls = RX5 ∧ yX5_buffer.cls ≠ "java/lang/invoke/MethodHandle" ∧ yX5_buffer.cls ≠ "java/lang/invoke/VarHandle" ∧ (parseMethodDescriptor yX5_buffer.desc).map (fun d => d.parameters.length) = some 4 := by decide +kernel
theorem hdL_X4_saw : yX4_saw.cls = RX4 ∧ yX4_saw.cls ≠ "java/lang/invoke/MethodHandle" ∧ yX4_saw.cls ≠ "java/lang/invoke/VarHandle" ∧ (parseMethodDescriptor yX4_saw.desc).map (fun d => d.parameters.length) = some 2 := by decide +kernel
theorem hdL_X5_saw : yX5_saw.cls = RX5 ∧ yX5_saw.cls ≠ "java/lang/invoke/MethodHandle" ∧ yX5_saw.cls ≠ "java/lang/invoke/VarHandle" ∧ (parseMethodDescriptor yX5_saw.desc).map (fun d => d.parameters.length) = some 2 := by decide +kernel
theorem hdL_X4_forget : yX4_forget.cls = RX4 ∧ yX4_forget.cls ≠ "java/lang/invoke/MethodHandle" ∧ yX4_forget.cls ≠ "java/lang/invoke/VarHandle" ∧ (parseMethodDescriptor yX4_forget.desc).map (fun d => d.parameters.length) = some 0 := by decide +kernel
theorem hdL_X5_forget : yX5_forget.cls = RX5 ∧ yX5_forget.cls ≠ "java/lang/invoke/MethodHandle" ∧ yX5_forget.cls ≠ "java/lang/invoke/VarHandle" ∧ (parseMethodDescriptor yX5_forget.desc).map (fun d => d.parameters.length) = some 0 := by decide +kernel
theorem hdL_X4_fits : yX4_fits.cls = RX4 ∧ yX4_fits.cls ≠ "java/lang/invoke/MethodHandle" ∧ yX4_fits.cls ≠ "java/lang/invoke/VarHandle" ∧ (parseMethodDescriptor yX4_fits.desc).map (fun d => d.parameters.length) = some 1 := by decide +kernel
theorem hdL_X5_fits : yX5_fits.cls = RX5 ∧ yX5_fits.cls ≠ "java/lang/invoke/MethodHandle" ∧ yX5_fits.cls ≠ "java/lang/invoke/VarHandle" ∧ (parseMethodDescriptor yX5_fits.desc).map (fun d => d.parameters.length) = some 1 := by decide +kernel
theorem hdL_X4_keep : yX4_keep.cls = RX4 ∧ yX4_keep.cls ≠ "java/lang/invoke/MethodHandle" ∧ yX4_keep.cls ≠ "java/lang/invoke/VarHandle" ∧ (parseMethodDescriptor yX4_keep.desc).map (fun d => d.parameters.length) = some 1 := by decide +kernel
theorem hdL_X5_keep : yX5_keep.cls = RX5 ∧ yX5_keep.cls ≠ "java/lang/invoke/MethodHandle" ∧ yX5_keep.cls ≠ "java/lang/invoke/VarHandle" ∧ (parseMethodDescriptor yX5_keep.desc).map (fun d => d.parameters.length) = some 1 := by decide +kernel
theorem hdL_X4_back : yX4_back.cls = RX4 ∧ yX4_back.cls ≠ "java/lang/invoke/MethodHandle" ∧ yX4_back.cls ≠ "java/lang/invoke/VarHandle" ∧ (parseMethodDescriptor yX4_back.desc).map (fun d => d.parameters.length) = some 1 := by decide +kernel
theorem hdL_X5_back : yX5_back.cls = RX5 ∧ yX5_back.cls ≠ "java/lang/invoke/MethodHandle" ∧ yX5_back.cls ≠ "java/lang/invoke/VarHandle" ∧ (parseMethodDescriptor yX5_back.desc).map (fun d => d.parameters.length) = some 1 := by decide +kernel
theorem hdL_X4_sheet : yX4_sheet.cls = RX4 ∧ yX4_sheet.cls ≠ "java/lang/invoke/MethodHandle" ∧ yX4_sheet.cls ≠ "java/lang/invoke/VarHandle" ∧ (parseMethodDescriptor yX4_sheet.desc).map (fun d => d.parameters.length) = some 3 := by decide +kernel
theorem hdL_X5_sheet : yX5_sheet.cls = RX5 ∧ yX5_sheet.cls ≠ "java/lang/invoke/MethodHandle" ∧ yX5_sheet.cls ≠ "java/lang/invoke/VarHandle" ∧ (parseMethodDescriptor yX5_sheet.desc).map (fun d => d.parameters.length) = some 3 := by decide +kernel
theorem hdL_X4_lay : yX4_lay.cls = RX4 ∧ yX4_lay.cls ≠ "java/lang/invoke/MethodHandle" ∧ yX4_lay.cls ≠ "java/lang/invoke/VarHandle" ∧ (parseMethodDescriptor yX4_lay.desc).map (fun d => d.parameters.length) = some 3 := by decide +kernel
theorem hdL_X5_lay : yX5_lay.cls = RX5 ∧ yX5_lay.cls ≠ "java/lang/invoke/MethodHandle" ∧ yX5_lay.cls ≠ "java/lang/invoke/VarHandle" ∧ (parseMethodDescriptor yX5_lay.desc).map (fun d => d.parameters.length) = some 3 := by decide +kernel
theorem hdL_X4_read : yX4_read.cls = RX4 ∧ yX4_read.cls ≠ "java/lang/invoke/MethodHandle" ∧ yX4_read.cls ≠ "java/lang/invoke/VarHandle" ∧ (parseMethodDescriptor yX4_read.desc).map (fun d => d.parameters.length) = some 4 := by decide +kernel
theorem hdL_X5_read : yX5_read.cls = RX5 ∧ yX5_read.cls ≠ "java/lang/invoke/MethodHandle" ∧ yX5_read.cls ≠ "java/lang/invoke/VarHandle" ∧ (parseMethodDescriptor yX5_read.desc).map (fun d => d.parameters.length) = some 4 := by decide +kernel
theorem hdL_X4_torn : yX4_torn.cls = RX4 ∧ yX4_torn.cls ≠ "java/lang/invoke/MethodHandle" ∧ yX4_torn.cls ≠ "java/lang/invoke/VarHandle" ∧ (parseMethodDescriptor yX4_torn.desc).map (fun d => d.parameters.length) = some 0 := by decide +kernel
theorem hdL_X5_torn : yX5_torn.cls = RX5 ∧ yX5_torn.cls ≠ "java/lang/invoke/MethodHandle" ∧ yX5_torn.cls ≠ "java/lang/invoke/VarHandle" ∧ (parseMethodDescriptor yX5_torn.desc).map (fun d => d.parameters.length) = some 0 := by decide +kernel
theorem hdL_X4_count : yX4_count.cls = RX4 ∧ yX4_count.cls ≠ "java/lang/invoke/MethodHandle" ∧ yX4_count.cls ≠ "java/lang/invoke/VarHandle" ∧ (parseMethodDescriptor yX4_count.desc).map (fun d => d.parameters.length) = some 1 := by decide +kernel
theorem hdL_X5_count : yX5_count.cls = RX5 ∧ yX5_count.cls ≠ "java/lang/invoke/MethodHandle" ∧ yX5_count.cls ≠ "java/lang/invoke/VarHandle" ∧ (parseMethodDescriptor yX5_count.desc).map (fun d => d.parameters.length) = some 1 := by decide +kernel
set_option maxHeartbeats 4000000 in
theorem law_c0 {z : ZZ} {g : GG} {Qf : State → Prop} {M : MM} {b Ln : Nat} {xs : Nat → Int32} {v3 : Int32} (hC : CX z g cL_law 4 wsL_law RL room_1) (hF : full g) (hX : SX z g b Ln xs) (hB : inS v3 Ln) (hR : Rel M) (kk : ∀ M2, Rel M2 → XX z g Qf 4 1437 [(0, .ref b), (1, .ref (gA g 0)), (2, .ref (gA g 52)), (3, .int v3)] [] M2) : XX z g Qf 4 212 [(0, .ref b), (1, .ref (gA g 0)), (2, .ref (gA g 52)), (3, .int v3)] [] M := by
  refine q_aload_n hC dL_law_212 1 rfl 213 rfl ?_
  refine q_aload_n hC dL_law_213 0 rfl 214 rfl ?_
  refine q_iload_n hC dL_law_214 3 rfl 215 rfl ?_
  refine q_iconst (v := 1) hC dL_law_215 (by decide) 216 rfl ?_
  refine q_iadd hC dL_law_216 217 rfl ?_
  refine q_sld hC hX hB.2.1 dL_law_217 218 rfl ?_
  refine q_i2l hC dL_law_218 219 rfl ?_
  refine q_bipush (v := 32) hC dL_law_219 (by decide) 221 rfl ?_
  refine q_lshl hC dL_law_221 222 rfl ?_
  refine q_aload_n hC dL_law_222 0 rfl 223 rfl ?_
  refine q_iload_n hC dL_law_223 3 rfl 224 rfl ?_
  refine q_iconst (v := 2) hC dL_law_224 (by decide) 225 rfl ?_
  refine q_iadd hC dL_law_225 226 rfl ?_
  refine q_sld hC hX hB.2.2.1 dL_law_226 227 rfl ?_
  refine q_i2l hC dL_law_227 228 rfl ?_
  refine q_ldc2 (v := 4294967295) hC (uL_law__o _ (List.mem_of_getElem? (l := owL_law) (i := 4) rfl)) dL_law_228 231 rfl ?_
  refine q_land hC dL_law_231 232 rfl ?_
  refine q_lor hC dL_law_232 233 rfl ?_
  refine r_callI hC (go_V (q := (RX4, TX4, 12)) (As := [.long (((xs (v3 + 1).toNatClampNeg).toInt64 <<< ((32 : Int32).toInt64 &&& 63)) ||| ((xs (v3 + 2).toNatClampNeg).toInt64 &&& (4294967295 : Int64)))]) (rest := []) hC (ctX4_feed (zl z) g M (((xs (v3 + 1).toNatClampNeg).toInt64 <<< ((32 : Int32).toInt64 &&& 63)) ||| ((xs (v3 + 2).toNatClampNeg).toInt64 &&& (4294967295 : Int64))) _ hF (L_feed hR (((xs (v3 + 1).toNatClampNeg).toInt64 <<< ((32 : Int32).toInt64 &&& 63)) ||| ((xs (v3 + 2).toNatClampNeg).toInt64 &&& (4294967295 : Int64))))) 1 gL_law_X4_feed rfl ⟨rfl, rfl⟩ hdL_X4_feed ⟨Nat.le_of_ble_eq_true rfl, Nat.le_of_ble_eq_true rfl⟩ (obF0 hF) rfl rfl rfl (Nat.le_of_ble_eq_true rfl) dL_law_233) 236 rfl (fun r1 M1 hw => ?_)
  refine q_pop hC dL_law_236 rfl 237 rfl ?_
  refine q_aload_n hC dL_law_237 2 rfl 238 rfl ?_
  refine q_aload_n hC dL_law_238 0 rfl 239 rfl ?_
  refine q_iload_n hC dL_law_239 3 rfl 240 rfl ?_
  refine q_iconst (v := 1) hC dL_law_240 (by decide) 241 rfl ?_
  refine q_iadd hC dL_law_241 242 rfl ?_
  refine q_sld hC hX hB.2.1 dL_law_242 243 rfl ?_
  refine q_i2l hC dL_law_243 244 rfl ?_
  refine q_bipush (v := 32) hC dL_law_244 (by decide) 246 rfl ?_
  refine q_lshl hC dL_law_246 247 rfl ?_
  refine q_aload_n hC dL_law_247 0 rfl 248 rfl ?_
  refine q_iload_n hC dL_law_248 3 rfl 249 rfl ?_
  refine q_iconst (v := 2) hC dL_law_249 (by decide) 250 rfl ?_
  refine q_iadd hC dL_law_250 251 rfl ?_
  refine q_sld hC hX hB.2.2.1 dL_law_251 252 rfl ?_
  refine q_i2l hC dL_law_252 253 rfl ?_
  refine q_ldc2 (v := 4294967295) hC (uL_law__o _ (List.mem_of_getElem? (l := owL_law) (i := 4) rfl)) dL_law_253 256 rfl ?_
  refine q_land hC dL_law_256 257 rfl ?_
  refine q_lor hC dL_law_257 258 rfl ?_
  refine r_callI hC (go_V (q := (RX5, TX5, 26)) (As := [.long (((xs (v3 + 1).toNatClampNeg).toInt64 <<< ((32 : Int32).toInt64 &&& 63)) ||| ((xs (v3 + 2).toNatClampNeg).toInt64 &&& (4294967295 : Int64)))]) (rest := []) hC (ctX5_feed (zl z) g M1 (((xs (v3 + 1).toNatClampNeg).toInt64 <<< ((32 : Int32).toInt64 &&& 63)) ||| ((xs (v3 + 2).toNatClampNeg).toInt64 &&& (4294967295 : Int64))) _ hF.f5 hw) 1 gL_law_X5_feed rfl ⟨rfl, rfl⟩ hdL_X5_feed ⟨Nat.le_of_ble_eq_true rfl, Nat.le_of_ble_eq_true rfl⟩ (obF52 hF.f5) rfl rfl rfl (Nat.le_of_ble_eq_true rfl) dL_law_258) 261 rfl (fun r2 M2 hw => ?_)
  have hw3 := hw.2
  refine q_pop hC dL_law_261 rfl 262 rfl ?_
  refine q_goto hC 1437 dL_law_262 (by decide) ?_
  exact kk _ hw3
set_option maxHeartbeats 4000000 in
theorem law_c1 {z : ZZ} {g : GG} {Qf : State → Prop} {M : MM} {b Ln : Nat} {xs : Nat → Int32} {v3 : Int32} (hC : CX z g cL_law 4 wsL_law RL room_1) (hF : full g) (hX : SX z g b Ln xs) (hB : inS v3 Ln) (hR : Rel M) (kk : ∀ M2, Rel M2 → XX z g Qf 4 1437 [(0, .ref b), (1, .ref (gA g 0)), (2, .ref (gA g 52)), (3, .int v3)] [] M2) : XX z g Qf 4 265 [(0, .ref b), (1, .ref (gA g 0)), (2, .ref (gA g 52)), (3, .int v3)] [] M := by
  refine q_aload_n hC dL_law_265 1 rfl 266 rfl ?_
  refine q_aload_n hC dL_law_266 0 rfl 267 rfl ?_
  refine q_iload_n hC dL_law_267 3 rfl 268 rfl ?_
  refine q_iconst (v := 1) hC dL_law_268 (by decide) 269 rfl ?_
  refine q_iadd hC dL_law_269 270 rfl ?_
  refine q_sld hC hX hB.2.1 dL_law_270 271 rfl ?_
  refine r_callI hC (go_V (q := (RX4, TX4, 12)) (As := [.int (xs (v3 + 1).toNatClampNeg)]) (rest := []) hC (ctX4_end (zl z) g M (xs (v3 + 1).toNatClampNeg) _ hF (L_end hR (xs (v3 + 1).toNatClampNeg))) 1 gL_law_X4_end rfl ⟨rfl, rfl⟩ hdL_X4_end ⟨Nat.le_of_ble_eq_true rfl, Nat.le_of_ble_eq_true rfl⟩ (obF0 hF) rfl rfl rfl (Nat.le_of_ble_eq_true rfl) dL_law_271) 274 rfl (fun r1 M1 hw => ?_)
  refine q_pop hC dL_law_274 rfl 275 rfl ?_
  refine q_aload_n hC dL_law_275 2 rfl 276 rfl ?_
  refine q_aload_n hC dL_law_276 0 rfl 277 rfl ?_
  refine q_iload_n hC dL_law_277 3 rfl 278 rfl ?_
  refine q_iconst (v := 1) hC dL_law_278 (by decide) 279 rfl ?_
  refine q_iadd hC dL_law_279 280 rfl ?_
  refine q_sld hC hX hB.2.1 dL_law_280 281 rfl ?_
  refine r_callI hC (go_V (q := (RX5, TX5, 26)) (As := [.int (xs (v3 + 1).toNatClampNeg)]) (rest := []) hC (ctX5_end (zl z) g M1 (xs (v3 + 1).toNatClampNeg) _ hF.f5 hw) 1 gL_law_X5_end rfl ⟨rfl, rfl⟩ hdL_X5_end ⟨Nat.le_of_ble_eq_true rfl, Nat.le_of_ble_eq_true rfl⟩ (obF52 hF.f5) rfl rfl rfl (Nat.le_of_ble_eq_true rfl) dL_law_281) 284 rfl (fun r2 M2 hw => ?_)
  have hw3 := hw.2
  refine q_pop hC dL_law_284 rfl 285 rfl ?_
  refine q_goto hC 1437 dL_law_285 (by decide) ?_
  exact kk _ hw3
set_option maxHeartbeats 4000000 in
theorem law_c2 {z : ZZ} {g : GG} {Qf : State → Prop} {M : MM} {b Ln : Nat} {xs : Nat → Int32} {v3 : Int32} (hC : CX z g cL_law 4 wsL_law RL room_1) (hF : full g) (hX : SX z g b Ln xs) (hB : inS v3 Ln) (hR : Rel M) (kk : ∀ M2, Rel M2 → XX z g Qf 4 1437 [(0, .ref b), (1, .ref (gA g 0)), (2, .ref (gA g 52)), (3, .int v3)] [] M2) : XX z g Qf 4 288 [(0, .ref b), (1, .ref (gA g 0)), (2, .ref (gA g 52)), (3, .int v3)] [] M := by
  refine q_aload_n hC dL_law_288 1 rfl 289 rfl ?_
  refine r_callI hC (go_V (q := (RX4, TX4, 12)) (As := []) (rest := []) hC (ctX4_text (zl z) g M _ hF (L_text hR)) 0 gL_law_X4_text rfl ⟨rfl, rfl⟩ hdL_X4_text ⟨Nat.le_of_ble_eq_true rfl, Nat.le_of_ble_eq_true rfl⟩ (obF0 hF) rfl rfl rfl (Nat.le_of_ble_eq_true rfl) dL_law_289) 292 rfl (fun r1 M1 hw => ?_)
  refine q_pop hC dL_law_292 rfl 293 rfl ?_
  refine q_aload_n hC dL_law_293 2 rfl 294 rfl ?_
  refine r_callI hC (go_V (q := (RX5, TX5, 26)) (As := []) (rest := []) hC (ctX5_text (zl z) g M1 _ hF.f5 hw) 0 gL_law_X5_text rfl ⟨rfl, rfl⟩ hdL_X5_text ⟨Nat.le_of_ble_eq_true rfl, Nat.le_of_ble_eq_true rfl⟩ (obF52 hF.f5) rfl rfl rfl (Nat.le_of_ble_eq_true rfl) dL_law_294) 297 rfl (fun r2 M2 hw => ?_)
  have hw3 := hw.2
  refine q_pop hC dL_law_297 rfl 298 rfl ?_
  refine q_goto hC 1437 dL_law_298 (by decide) ?_
  exact kk _ hw3
set_option maxHeartbeats 4000000 in
theorem law_c3 {z : ZZ} {g : GG} {Qf : State → Prop} {M : MM} {b Ln : Nat} {xs : Nat → Int32} {v3 : Int32} (hC : CX z g cL_law 4 wsL_law RL room_1) (hF : full g) (hX : SX z g b Ln xs) (hB : inS v3 Ln) (hR : Rel M) (kk : ∀ M2, Rel M2 → XX z g Qf 4 1437 [(0, .ref b), (1, .ref (gA g 0)), (2, .ref (gA g 52)), (3, .int v3)] [] M2) : XX z g Qf 4 301 [(0, .ref b), (1, .ref (gA g 0)), (2, .ref (gA g 52)), (3, .int v3)] [] M := by
  refine q_aload_n hC dL_law_301 1 rfl 302 rfl ?_
  refine r_callI hC (go_V (q := (RX4, TX4, 12)) (As := []) (rest := []) hC (ctX4_fault (zl z) g M _ hF (L_fault hR)) 0 gL_law_X4_fault rfl ⟨rfl, rfl⟩ hdL_X4_fault ⟨Nat.le_of_ble_eq_true rfl, Nat.le_of_ble_eq_true rfl⟩ (obF0 hF) rfl rfl rfl (Nat.le_of_ble_eq_true rfl) dL_law_302) 305 rfl (fun r1 M1 hw => ?_)
  refine q_pop hC dL_law_305 rfl 306 rfl ?_
  refine q_aload_n hC dL_law_306 2 rfl 307 rfl ?_
  refine r_callI hC (go_V (q := (RX5, TX5, 26)) (As := []) (rest := []) hC (ctX5_fault (zl z) g M1 _ hF.f5 hw) 0 gL_law_X5_fault rfl ⟨rfl, rfl⟩ hdL_X5_fault ⟨Nat.le_of_ble_eq_true rfl, Nat.le_of_ble_eq_true rfl⟩ (obF52 hF.f5) rfl rfl rfl (Nat.le_of_ble_eq_true rfl) dL_law_307) 310 rfl (fun r2 M2 hw => ?_)
  refine q_pop hC dL_law_310 rfl 311 rfl ?_
  refine q_goto hC 1437 dL_law_311 (by decide) ?_
  exact kk _ hw
set_option maxHeartbeats 4000000 in
theorem law_c4 {z : ZZ} {g : GG} {Qf : State → Prop} {M : MM} {b Ln : Nat} {xs : Nat → Int32} {v3 : Int32} (hC : CX z g cL_law 4 wsL_law RL room_1) (hF : full g) (hX : SX z g b Ln xs) (hB : inS v3 Ln) (hR : Rel M) (kk : ∀ M2, Rel M2 → XX z g Qf 4 1437 [(0, .ref b), (1, .ref (gA g 0)), (2, .ref (gA g 52)), (3, .int v3)] [] M2) : XX z g Qf 4 314 [(0, .ref b), (1, .ref (gA g 0)), (2, .ref (gA g 52)), (3, .int v3)] [] M := by
  refine q_aload_n hC dL_law_314 1 rfl 315 rfl ?_
  refine q_aload_n hC dL_law_315 0 rfl 316 rfl ?_
  refine q_iload_n hC dL_law_316 3 rfl 317 rfl ?_
  refine q_iconst (v := 1) hC dL_law_317 (by decide) 318 rfl ?_
  refine q_iadd hC dL_law_318 319 rfl ?_
  refine q_sld hC hX hB.2.1 dL_law_319 320 rfl ?_
  refine r_callI hC (go_V (q := (RX4, TX4, 12)) (As := [.int (xs (v3 + 1).toNatClampNeg)]) (rest := []) hC (ctX4_rule (zl z) g M (xs (v3 + 1).toNatClampNeg) _ hF (L_rule hR (xs (v3 + 1).toNatClampNeg))) 1 gL_law_X4_rule rfl ⟨rfl, rfl⟩ hdL_X4_rule ⟨Nat.le_of_ble_eq_true rfl, Nat.le_of_ble_eq_true rfl⟩ (obF0 hF) rfl rfl rfl (Nat.le_of_ble_eq_true rfl) dL_law_320) 323 rfl (fun r1 M1 hw => ?_)
  refine q_pop hC dL_law_323 rfl 324 rfl ?_
  refine q_aload_n hC dL_law_324 2 rfl 325 rfl ?_
  refine q_aload_n hC dL_law_325 0 rfl 326 rfl ?_
  refine q_iload_n hC dL_law_326 3 rfl 327 rfl ?_
  refine q_iconst (v := 1) hC dL_law_327 (by decide) 328 rfl ?_
  refine q_iadd hC dL_law_328 329 rfl ?_
  refine q_sld hC hX hB.2.1 dL_law_329 330 rfl ?_
  refine r_callI hC (go_V (q := (RX5, TX5, 26)) (As := [.int (xs (v3 + 1).toNatClampNeg)]) (rest := []) hC (ctX5_rule (zl z) g M1 (xs (v3 + 1).toNatClampNeg) _ hF.f5 hw) 1 gL_law_X5_rule rfl ⟨rfl, rfl⟩ hdL_X5_rule ⟨Nat.le_of_ble_eq_true rfl, Nat.le_of_ble_eq_true rfl⟩ (obF52 hF.f5) rfl rfl rfl (Nat.le_of_ble_eq_true rfl) dL_law_330) 333 rfl (fun r2 M2 hw => ?_)
  have hw3 := hw.2
  refine q_pop hC dL_law_333 rfl 334 rfl ?_
  refine q_goto hC 1437 dL_law_334 (by decide) ?_
  exact kk _ hw3
set_option maxHeartbeats 4000000 in
theorem law_c5 {z : ZZ} {g : GG} {Qf : State → Prop} {M : MM} {b Ln : Nat} {xs : Nat → Int32} {v3 : Int32} (hC : CX z g cL_law 4 wsL_law RL room_1) (hF : full g) (hX : SX z g b Ln xs) (hB : inS v3 Ln) (hR : Rel M) (kk : ∀ M2, Rel M2 → XX z g Qf 4 1437 [(0, .ref b), (1, .ref (gA g 0)), (2, .ref (gA g 52)), (3, .int v3)] [] M2) : XX z g Qf 4 337 [(0, .ref b), (1, .ref (gA g 0)), (2, .ref (gA g 52)), (3, .int v3)] [] M := by
  by_cases hz : xs (v3 + 2).toNatClampNeg = 0
  · refine q_aload_n hC dL_law_337 1 rfl 338 rfl ?_
    refine q_aload_n hC dL_law_338 0 rfl 339 rfl ?_
    refine q_iload_n hC dL_law_339 3 rfl 340 rfl ?_
    refine q_iconst (v := 1) hC dL_law_340 (by decide) 341 rfl ?_
    refine q_iadd hC dL_law_341 342 rfl ?_
    refine q_sld hC hX hB.2.1 dL_law_342 343 rfl ?_
    refine q_aload_n hC dL_law_343 0 rfl 344 rfl ?_
    refine q_iload_n hC dL_law_344 3 rfl 345 rfl ?_
    refine q_iconst (v := 2) hC dL_law_345 (by decide) 346 rfl ?_
    refine q_iadd hC dL_law_346 347 rfl ?_
    refine q_sld hC hX hB.2.2.1 dL_law_347 348 rfl ?_
    refine q_if_eq (A := True) (B := False) hC 355 dL_law_348 (by decide) 351 rfl ⟨fun _ => trivial, fun q => absurd hz q⟩ (fun _ => ?_) (fun q => q.elim)
    refine q_iconst (v := 0) hC dL_law_355 (by decide) 356 rfl ?_
    refine r_callI hC (go_V (q := (RX4, TX4, 12)) (As := [.int (xs (v3 + 1).toNatClampNeg), .int 0]) (rest := []) hC (ctX4_turns (zl z) g M (xs (v3 + 1).toNatClampNeg) 0 _ hF (L_turns hR (xs (v3 + 1).toNatClampNeg) 0)) 2 gL_law_X4_turns rfl ⟨rfl, rfl⟩ hdL_X4_turns ⟨Nat.le_of_ble_eq_true rfl, Nat.le_of_ble_eq_true rfl⟩ (obF0 hF) rfl rfl rfl (Nat.le_of_ble_eq_true rfl) dL_law_356) 359 rfl (fun r1 M1 hw => ?_)
    refine q_pop hC dL_law_359 rfl 360 rfl ?_
    refine q_aload_n hC dL_law_360 2 rfl 361 rfl ?_
    refine q_aload_n hC dL_law_361 0 rfl 362 rfl ?_
    refine q_iload_n hC dL_law_362 3 rfl 363 rfl ?_
    refine q_iconst (v := 1) hC dL_law_363 (by decide) 364 rfl ?_
    refine q_iadd hC dL_law_364 365 rfl ?_
    refine q_sld hC hX hB.2.1 dL_law_365 366 rfl ?_
    refine q_aload_n hC dL_law_366 0 rfl 367 rfl ?_
    refine q_iload_n hC dL_law_367 3 rfl 368 rfl ?_
    refine q_iconst (v := 2) hC dL_law_368 (by decide) 369 rfl ?_
    refine q_iadd hC dL_law_369 370 rfl ?_
    refine q_sld hC hX hB.2.2.1 dL_law_370 371 rfl ?_
    refine q_if_eq (A := True) (B := False) hC 378 dL_law_371 (by decide) 374 rfl ⟨fun _ => trivial, fun q => absurd hz q⟩ (fun _ => ?_) (fun q => q.elim)
    refine q_iconst (v := 0) hC dL_law_378 (by decide) 379 rfl ?_
    refine r_callI hC (go_V (q := (RX5, TX5, 26)) (As := [.int (xs (v3 + 1).toNatClampNeg), .int 0]) (rest := []) hC (ctX5_turns (zl z) g M1 (xs (v3 + 1).toNatClampNeg) 0 _ hF.f5 hw) 2 gL_law_X5_turns rfl ⟨rfl, rfl⟩ hdL_X5_turns ⟨Nat.le_of_ble_eq_true rfl, Nat.le_of_ble_eq_true rfl⟩ (obF52 hF.f5) rfl rfl rfl (Nat.le_of_ble_eq_true rfl) dL_law_379) 382 rfl (fun r2 M2 hw => ?_)
    have hw3 := hw.2
    refine q_pop hC dL_law_382 rfl 383 rfl ?_
    refine q_goto hC 1437 dL_law_383 (by decide) ?_
    exact kk _ hw3
  · refine q_aload_n hC dL_law_337 1 rfl 338 rfl ?_
    refine q_aload_n hC dL_law_338 0 rfl 339 rfl ?_
    refine q_iload_n hC dL_law_339 3 rfl 340 rfl ?_
    refine q_iconst (v := 1) hC dL_law_340 (by decide) 341 rfl ?_
    refine q_iadd hC dL_law_341 342 rfl ?_
    refine q_sld hC hX hB.2.1 dL_law_342 343 rfl ?_
    refine q_aload_n hC dL_law_343 0 rfl 344 rfl ?_
    refine q_iload_n hC dL_law_344 3 rfl 345 rfl ?_
    refine q_iconst (v := 2) hC dL_law_345 (by decide) 346 rfl ?_
    refine q_iadd hC dL_law_346 347 rfl ?_
    refine q_sld hC hX hB.2.2.1 dL_law_347 348 rfl ?_
    refine q_if_eq (A := False) (B := True) hC 355 dL_law_348 (by decide) 351 rfl ⟨fun q => absurd q hz, fun _ => trivial⟩ (fun q => q.elim) (fun _ => ?_)
    refine q_iconst (v := 1) hC dL_law_351 (by decide) 352 rfl ?_
    refine q_goto hC 356 dL_law_352 (by decide) ?_
    refine r_callI hC (go_V (q := (RX4, TX4, 12)) (As := [.int (xs (v3 + 1).toNatClampNeg), .int 1]) (rest := []) hC (ctX4_turns (zl z) g M (xs (v3 + 1).toNatClampNeg) 1 _ hF (L_turns hR (xs (v3 + 1).toNatClampNeg) 1)) 2 gL_law_X4_turns rfl ⟨rfl, rfl⟩ hdL_X4_turns ⟨Nat.le_of_ble_eq_true rfl, Nat.le_of_ble_eq_true rfl⟩ (obF0 hF) rfl rfl rfl (Nat.le_of_ble_eq_true rfl) dL_law_356) 359 rfl (fun r1 M1 hw => ?_)
    refine q_pop hC dL_law_359 rfl 360 rfl ?_
    refine q_aload_n hC dL_law_360 2 rfl 361 rfl ?_
    refine q_aload_n hC dL_law_361 0 rfl 362 rfl ?_
    refine q_iload_n hC dL_law_362 3 rfl 363 rfl ?_
    refine q_iconst (v := 1) hC dL_law_363 (by decide) 364 rfl ?_
    refine q_iadd hC dL_law_364 365 rfl ?_
    refine q_sld hC hX hB.2.1 dL_law_365 366 rfl ?_
    refine q_aload_n hC dL_law_366 0 rfl 367 rfl ?_
    refine q_iload_n hC dL_law_367 3 rfl 368 rfl ?_
    refine q_iconst (v := 2) hC dL_law_368 (by decide) 369 rfl ?_
    refine q_iadd hC dL_law_369 370 rfl ?_
    refine q_sld hC hX hB.2.2.1 dL_law_370 371 rfl ?_
    refine q_if_eq (A := False) (B := True) hC 378 dL_law_371 (by decide) 374 rfl ⟨fun q => absurd q hz, fun _ => trivial⟩ (fun q => q.elim) (fun _ => ?_)
    refine q_iconst (v := 1) hC dL_law_374 (by decide) 375 rfl ?_
    refine q_goto hC 379 dL_law_375 (by decide) ?_
    refine r_callI hC (go_V (q := (RX5, TX5, 26)) (As := [.int (xs (v3 + 1).toNatClampNeg), .int 1]) (rest := []) hC (ctX5_turns (zl z) g M1 (xs (v3 + 1).toNatClampNeg) 1 _ hF.f5 hw) 2 gL_law_X5_turns rfl ⟨rfl, rfl⟩ hdL_X5_turns ⟨Nat.le_of_ble_eq_true rfl, Nat.le_of_ble_eq_true rfl⟩ (obF52 hF.f5) rfl rfl rfl (Nat.le_of_ble_eq_true rfl) dL_law_379) 382 rfl (fun r2 M2 hw => ?_)
    have hw3 := hw.2
    refine q_pop hC dL_law_382 rfl 383 rfl ?_
    refine q_goto hC 1437 dL_law_383 (by decide) ?_
    exact kk _ hw3
set_option maxHeartbeats 4000000 in
theorem law_c6 {z : ZZ} {g : GG} {Qf : State → Prop} {M : MM} {b Ln : Nat} {xs : Nat → Int32} {v3 : Int32} (hC : CX z g cL_law 4 wsL_law RL room_1) (hF : full g) (hX : SX z g b Ln xs) (hB : inS v3 Ln) (hR : Rel M) (kk : ∀ M2, Rel M2 → XX z g Qf 4 1437 [(0, .ref b), (1, .ref (gA g 0)), (2, .ref (gA g 52)), (3, .int v3)] [] M2) : XX z g Qf 4 386 [(0, .ref b), (1, .ref (gA g 0)), (2, .ref (gA g 52)), (3, .int v3)] [] M := by
  refine q_aload_n hC dL_law_386 1 rfl 387 rfl ?_
  refine q_aload_n hC dL_law_387 0 rfl 388 rfl ?_
  refine q_iload_n hC dL_law_388 3 rfl 389 rfl ?_
  refine q_iconst (v := 1) hC dL_law_389 (by decide) 390 rfl ?_
  refine q_iadd hC dL_law_390 391 rfl ?_
  refine q_sld hC hX hB.2.1 dL_law_391 392 rfl ?_
  refine q_aload_n hC dL_law_392 0 rfl 393 rfl ?_
  refine q_iload_n hC dL_law_393 3 rfl 394 rfl ?_
  refine q_iconst (v := 2) hC dL_law_394 (by decide) 395 rfl ?_
  refine q_iadd hC dL_law_395 396 rfl ?_
  refine q_sld hC hX hB.2.2.1 dL_law_396 397 rfl ?_
  refine r_callI hC (go_V (q := (RX4, TX4, 12)) (As := [.int (xs (v3 + 1).toNatClampNeg), .int (xs (v3 + 2).toNatClampNeg)]) (rest := []) hC (ctX4_shows (zl z) g M (xs (v3 + 1).toNatClampNeg) (xs (v3 + 2).toNatClampNeg) _ hF (L_shows hR (xs (v3 + 1).toNatClampNeg) (xs (v3 + 2).toNatClampNeg))) 2 gL_law_X4_shows rfl ⟨rfl, rfl⟩ hdL_X4_shows ⟨Nat.le_of_ble_eq_true rfl, Nat.le_of_ble_eq_true rfl⟩ (obF0 hF) rfl rfl rfl (Nat.le_of_ble_eq_true rfl) dL_law_397) 400 rfl (fun r1 M1 hw => ?_)
  refine q_pop hC dL_law_400 rfl 401 rfl ?_
  refine q_aload_n hC dL_law_401 2 rfl 402 rfl ?_
  refine q_aload_n hC dL_law_402 0 rfl 403 rfl ?_
  refine q_iload_n hC dL_law_403 3 rfl 404 rfl ?_
  refine q_iconst (v := 1) hC dL_law_404 (by decide) 405 rfl ?_
  refine q_iadd hC dL_law_405 406 rfl ?_
  refine q_sld hC hX hB.2.1 dL_law_406 407 rfl ?_
  refine q_aload_n hC dL_law_407 0 rfl 408 rfl ?_
  refine q_iload_n hC dL_law_408 3 rfl 409 rfl ?_
  refine q_iconst (v := 2) hC dL_law_409 (by decide) 410 rfl ?_
  refine q_iadd hC dL_law_410 411 rfl ?_
  refine q_sld hC hX hB.2.2.1 dL_law_411 412 rfl ?_
  refine r_callI hC (go_V (q := (RX5, TX5, 26)) (As := [.int (xs (v3 + 1).toNatClampNeg), .int (xs (v3 + 2).toNatClampNeg)]) (rest := []) hC (ctX5_shows (zl z) g M1 (xs (v3 + 1).toNatClampNeg) (xs (v3 + 2).toNatClampNeg) _ hF.f5 hw) 2 gL_law_X5_shows rfl ⟨rfl, rfl⟩ hdL_X5_shows ⟨Nat.le_of_ble_eq_true rfl, Nat.le_of_ble_eq_true rfl⟩ (obF52 hF.f5) rfl rfl rfl (Nat.le_of_ble_eq_true rfl) dL_law_412) 415 rfl (fun r2 M2 hw => ?_)
  have hw3 := hw.2
  refine q_pop hC dL_law_415 rfl 416 rfl ?_
  refine q_goto hC 1437 dL_law_416 (by decide) ?_
  exact kk _ hw3
set_option maxHeartbeats 4000000 in
theorem law_c7 {z : ZZ} {g : GG} {Qf : State → Prop} {M : MM} {b Ln : Nat} {xs : Nat → Int32} {v3 : Int32} (hC : CX z g cL_law 4 wsL_law RL room_1) (hF : full g) (hX : SX z g b Ln xs) (hB : inS v3 Ln) (hR : Rel M) (kk : ∀ M2, Rel M2 → XX z g Qf 4 1437 [(0, .ref b), (1, .ref (gA g 0)), (2, .ref (gA g 52)), (3, .int v3)] [] M2) : XX z g Qf 4 419 [(0, .ref b), (1, .ref (gA g 0)), (2, .ref (gA g 52)), (3, .int v3)] [] M := by
  refine q_aload_n hC dL_law_419 1 rfl 420 rfl ?_
  refine r_callI hC (go_V (q := (RX4, TX4, 12)) (As := []) (rest := []) hC (ctX4_meet (zl z) g M _ hF (L_meet hR)) 0 gL_law_X4_meet rfl ⟨rfl, rfl⟩ hdL_X4_meet ⟨Nat.le_of_ble_eq_true rfl, Nat.le_of_ble_eq_true rfl⟩ (obF0 hF) rfl rfl rfl (Nat.le_of_ble_eq_true rfl) dL_law_420) 423 rfl (fun r1 M1 hw => ?_)
  refine q_pop hC dL_law_423 rfl 424 rfl ?_
  refine q_aload_n hC dL_law_424 2 rfl 425 rfl ?_
  refine r_callI hC (go_V (q := (RX5, TX5, 26)) (As := []) (rest := []) hC (ctX5_meet (zl z) g M1 _ hF.f5 hw) 0 gL_law_X5_meet rfl ⟨rfl, rfl⟩ hdL_X5_meet ⟨Nat.le_of_ble_eq_true rfl, Nat.le_of_ble_eq_true rfl⟩ (obF52 hF.f5) rfl rfl rfl (Nat.le_of_ble_eq_true rfl) dL_law_425) 428 rfl (fun r2 M2 hw => ?_)
  have hw3 := hw.2
  refine q_pop hC dL_law_428 rfl 429 rfl ?_
  refine q_goto hC 1437 dL_law_429 (by decide) ?_
  exact kk _ hw3
set_option maxHeartbeats 4000000 in
theorem law_c8 {z : ZZ} {g : GG} {Qf : State → Prop} {M : MM} {b Ln : Nat} {xs : Nat → Int32} {v3 : Int32} (hC : CX z g cL_law 4 wsL_law RL room_1) (hF : full g) (hX : SX z g b Ln xs) (hB : inS v3 Ln) (hR : Rel M) (kk : ∀ M2, Rel M2 → XX z g Qf 4 1437 [(0, .ref b), (1, .ref (gA g 0)), (2, .ref (gA g 52)), (3, .int v3)] [] M2) : XX z g Qf 4 432 [(0, .ref b), (1, .ref (gA g 0)), (2, .ref (gA g 52)), (3, .int v3)] [] M := by
  refine q_aload_n hC dL_law_432 1 rfl 433 rfl ?_
  refine q_aload_n hC dL_law_433 0 rfl 434 rfl ?_
  refine q_iload_n hC dL_law_434 3 rfl 435 rfl ?_
  refine q_iconst (v := 1) hC dL_law_435 (by decide) 436 rfl ?_
  refine q_iadd hC dL_law_436 437 rfl ?_
  refine q_sld hC hX hB.2.1 dL_law_437 438 rfl ?_
  refine q_aload_n hC dL_law_438 0 rfl 439 rfl ?_
  refine q_iload_n hC dL_law_439 3 rfl 440 rfl ?_
  refine q_iconst (v := 2) hC dL_law_440 (by decide) 441 rfl ?_
  refine q_iadd hC dL_law_441 442 rfl ?_
  refine q_sld hC hX hB.2.2.1 dL_law_442 443 rfl ?_
  refine q_aload_n hC dL_law_443 0 rfl 444 rfl ?_
  refine q_iload_n hC dL_law_444 3 rfl 445 rfl ?_
  refine q_iconst (v := 3) hC dL_law_445 (by decide) 446 rfl ?_
  refine q_iadd hC dL_law_446 447 rfl ?_
  refine q_sld hC hX hB.2.2.2.1 dL_law_447 448 rfl ?_
  refine r_callI hC (go_V (q := (RX4, TX4, 12)) (As := [.int (xs (v3 + 1).toNatClampNeg), .int (xs (v3 + 2).toNatClampNeg), .int (xs (v3 + 3).toNatClampNeg)]) (rest := []) hC (ctX4_ticks (zl z) g M (xs (v3 + 1).toNatClampNeg) (xs (v3 + 2).toNatClampNeg) (xs (v3 + 3).toNatClampNeg) _ hF (L_ticks hR (xs (v3 + 1).toNatClampNeg) (xs (v3 + 2).toNatClampNeg) (xs (v3 + 3).toNatClampNeg))) 3 gL_law_X4_ticks rfl ⟨rfl, rfl⟩ hdL_X4_ticks ⟨Nat.le_of_ble_eq_true rfl, Nat.le_of_ble_eq_true rfl⟩ (obF0 hF) rfl rfl rfl (Nat.le_of_ble_eq_true rfl) dL_law_448) 451 rfl (fun r1 M1 hw => ?_)
  refine q_pop hC dL_law_451 rfl 452 rfl ?_
  refine q_aload_n hC dL_law_452 2 rfl 453 rfl ?_
  refine q_aload_n hC dL_law_453 0 rfl 454 rfl ?_
  refine q_iload_n hC dL_law_454 3 rfl 455 rfl ?_
  refine q_iconst (v := 1) hC dL_law_455 (by decide) 456 rfl ?_
  refine q_iadd hC dL_law_456 457 rfl ?_
  refine q_sld hC hX hB.2.1 dL_law_457 458 rfl ?_
  refine q_aload_n hC dL_law_458 0 rfl 459 rfl ?_
  refine q_iload_n hC dL_law_459 3 rfl 460 rfl ?_
  refine q_iconst (v := 2) hC dL_law_460 (by decide) 461 rfl ?_
  refine q_iadd hC dL_law_461 462 rfl ?_
  refine q_sld hC hX hB.2.2.1 dL_law_462 463 rfl ?_
  refine q_aload_n hC dL_law_463 0 rfl 464 rfl ?_
  refine q_iload_n hC dL_law_464 3 rfl 465 rfl ?_
  refine q_iconst (v := 3) hC dL_law_465 (by decide) 466 rfl ?_
  refine q_iadd hC dL_law_466 467 rfl ?_
  refine q_sld hC hX hB.2.2.2.1 dL_law_467 468 rfl ?_
  refine r_callI hC (go_V (q := (RX5, TX5, 26)) (As := [.int (xs (v3 + 1).toNatClampNeg), .int (xs (v3 + 2).toNatClampNeg), .int (xs (v3 + 3).toNatClampNeg)]) (rest := []) hC (ctX5_ticks (zl z) g M1 (xs (v3 + 1).toNatClampNeg) (xs (v3 + 2).toNatClampNeg) (xs (v3 + 3).toNatClampNeg) _ hF.f5 hw) 3 gL_law_X5_ticks rfl ⟨rfl, rfl⟩ hdL_X5_ticks ⟨Nat.le_of_ble_eq_true rfl, Nat.le_of_ble_eq_true rfl⟩ (obF52 hF.f5) rfl rfl rfl (Nat.le_of_ble_eq_true rfl) dL_law_468) 471 rfl (fun r2 M2 hw => ?_)
  have hw3 := hw.2
  refine q_pop hC dL_law_471 rfl 472 rfl ?_
  refine q_goto hC 1437 dL_law_472 (by decide) ?_
  exact kk _ hw3
set_option maxHeartbeats 4000000 in
theorem law_c9 {z : ZZ} {g : GG} {Qf : State → Prop} {M : MM} {b Ln : Nat} {xs : Nat → Int32} {v3 : Int32} (hC : CX z g cL_law 4 wsL_law RL room_1) (hF : full g) (hX : SX z g b Ln xs) (hB : inS v3 Ln) (hR : Rel M) (kk : ∀ M2, Rel M2 → XX z g Qf 4 1437 [(0, .ref b), (1, .ref (gA g 0)), (2, .ref (gA g 52)), (3, .int v3)] [] M2) : XX z g Qf 4 475 [(0, .ref b), (1, .ref (gA g 0)), (2, .ref (gA g 52)), (3, .int v3)] [] M := by
  refine q_aload_n hC dL_law_475 1 rfl 476 rfl ?_
  refine q_aload_n hC dL_law_476 0 rfl 477 rfl ?_
  refine q_iload_n hC dL_law_477 3 rfl 478 rfl ?_
  refine q_iconst (v := 1) hC dL_law_478 (by decide) 479 rfl ?_
  refine q_iadd hC dL_law_479 480 rfl ?_
  refine q_sld hC hX hB.2.1 dL_law_480 481 rfl ?_
  refine r_callI hC (go_V (q := (RX4, TX4, 12)) (As := [.int (xs (v3 + 1).toNatClampNeg)]) (rest := []) hC (ctX4_go (zl z) g M (xs (v3 + 1).toNatClampNeg) _ hF (L_go hR (xs (v3 + 1).toNatClampNeg))) 1 gL_law_X4_go rfl ⟨rfl, rfl⟩ hdL_X4_go ⟨Nat.le_of_ble_eq_true rfl, Nat.le_of_ble_eq_true rfl⟩ (obF0 hF) rfl rfl rfl (Nat.le_of_ble_eq_true rfl) dL_law_481) 484 rfl (fun r1 M1 hw => ?_)
  refine q_pop hC dL_law_484 rfl 485 rfl ?_
  refine q_aload_n hC dL_law_485 2 rfl 486 rfl ?_
  refine q_aload_n hC dL_law_486 0 rfl 487 rfl ?_
  refine q_iload_n hC dL_law_487 3 rfl 488 rfl ?_
  refine q_iconst (v := 1) hC dL_law_488 (by decide) 489 rfl ?_
  refine q_iadd hC dL_law_489 490 rfl ?_
  refine q_sld hC hX hB.2.1 dL_law_490 491 rfl ?_
  refine r_callI hC (go_V (q := (RX5, TX5, 26)) (As := [.int (xs (v3 + 1).toNatClampNeg)]) (rest := []) hC (ctX5_go (zl z) g M1 (xs (v3 + 1).toNatClampNeg) _ hF.f5 hw) 1 gL_law_X5_go rfl ⟨rfl, rfl⟩ hdL_X5_go ⟨Nat.le_of_ble_eq_true rfl, Nat.le_of_ble_eq_true rfl⟩ (obF52 hF.f5) rfl rfl rfl (Nat.le_of_ble_eq_true rfl) dL_law_491) 494 rfl (fun r2 M2 hw => ?_)
  have hw3 := hw.2
  refine q_pop hC dL_law_494 rfl 495 rfl ?_
  refine q_goto hC 1437 dL_law_495 (by decide) ?_
  exact kk _ hw3
set_option maxHeartbeats 4000000 in
theorem law_c10 {z : ZZ} {g : GG} {Qf : State → Prop} {M : MM} {b Ln : Nat} {xs : Nat → Int32} {v3 : Int32} (hC : CX z g cL_law 4 wsL_law RL room_1) (hF : full g) (hX : SX z g b Ln xs) (hB : inS v3 Ln) (hR : Rel M) (kk : ∀ M2, Rel M2 → XX z g Qf 4 1437 [(0, .ref b), (1, .ref (gA g 0)), (2, .ref (gA g 52)), (3, .int v3)] [] M2) : XX z g Qf 4 498 [(0, .ref b), (1, .ref (gA g 0)), (2, .ref (gA g 52)), (3, .int v3)] [] M := by
  refine q_aload_n hC dL_law_498 1 rfl 499 rfl ?_
  refine q_aload_n hC dL_law_499 0 rfl 500 rfl ?_
  refine q_iload_n hC dL_law_500 3 rfl 501 rfl ?_
  refine q_iconst (v := 1) hC dL_law_501 (by decide) 502 rfl ?_
  refine q_iadd hC dL_law_502 503 rfl ?_
  refine q_sld hC hX hB.2.1 dL_law_503 504 rfl ?_
  refine r_callI hC (go_V (q := (RX4, TX4, 12)) (As := [.int (xs (v3 + 1).toNatClampNeg)]) (rest := []) hC (ctX4_now (zl z) g M (xs (v3 + 1).toNatClampNeg) _ hF (L_now hR (xs (v3 + 1).toNatClampNeg))) 1 gL_law_X4_now rfl ⟨rfl, rfl⟩ hdL_X4_now ⟨Nat.le_of_ble_eq_true rfl, Nat.le_of_ble_eq_true rfl⟩ (obF0 hF) rfl rfl rfl (Nat.le_of_ble_eq_true rfl) dL_law_504) 507 rfl (fun r1 M1 hw => ?_)
  refine q_pop hC dL_law_507 rfl 508 rfl ?_
  refine q_aload_n hC dL_law_508 2 rfl 509 rfl ?_
  refine q_aload_n hC dL_law_509 0 rfl 510 rfl ?_
  refine q_iload_n hC dL_law_510 3 rfl 511 rfl ?_
  refine q_iconst (v := 1) hC dL_law_511 (by decide) 512 rfl ?_
  refine q_iadd hC dL_law_512 513 rfl ?_
  refine q_sld hC hX hB.2.1 dL_law_513 514 rfl ?_
  refine r_callI hC (go_V (q := (RX5, TX5, 26)) (As := [.int (xs (v3 + 1).toNatClampNeg)]) (rest := []) hC (ctX5_now (zl z) g M1 (xs (v3 + 1).toNatClampNeg) _ hF.f5 hw) 1 gL_law_X5_now rfl ⟨rfl, rfl⟩ hdL_X5_now ⟨Nat.le_of_ble_eq_true rfl, Nat.le_of_ble_eq_true rfl⟩ (obF52 hF.f5) rfl rfl rfl (Nat.le_of_ble_eq_true rfl) dL_law_514) 517 rfl (fun r2 M2 hw => ?_)
  have hw3 := hw.2
  refine q_pop hC dL_law_517 rfl 518 rfl ?_
  refine q_goto hC 1437 dL_law_518 (by decide) ?_
  exact kk _ hw3
set_option maxHeartbeats 4000000 in
theorem law_c11 {z : ZZ} {g : GG} {Qf : State → Prop} {M : MM} {b Ln : Nat} {xs : Nat → Int32} {v3 : Int32} (hC : CX z g cL_law 4 wsL_law RL room_1) (hF : full g) (hX : SX z g b Ln xs) (hB : inS v3 Ln) (hR : Rel M) (kk : ∀ M2, Rel M2 → XX z g Qf 4 1437 [(0, .ref b), (1, .ref (gA g 0)), (2, .ref (gA g 52)), (3, .int v3)] [] M2) : XX z g Qf 4 521 [(0, .ref b), (1, .ref (gA g 0)), (2, .ref (gA g 52)), (3, .int v3)] [] M := by
  by_cases hz : xs (v3 + 2).toNatClampNeg = 0
  · refine q_aload_n hC dL_law_521 1 rfl 522 rfl ?_
    refine q_aload_n hC dL_law_522 0 rfl 523 rfl ?_
    refine q_iload_n hC dL_law_523 3 rfl 524 rfl ?_
    refine q_iconst (v := 1) hC dL_law_524 (by decide) 525 rfl ?_
    refine q_iadd hC dL_law_525 526 rfl ?_
    refine q_sld hC hX hB.2.1 dL_law_526 527 rfl ?_
    refine q_aload_n hC dL_law_527 0 rfl 528 rfl ?_
    refine q_iload_n hC dL_law_528 3 rfl 529 rfl ?_
    refine q_iconst (v := 2) hC dL_law_529 (by decide) 530 rfl ?_
    refine q_iadd hC dL_law_530 531 rfl ?_
    refine q_sld hC hX hB.2.2.1 dL_law_531 532 rfl ?_
    refine q_if_eq (A := True) (B := False) hC 539 dL_law_532 (by decide) 535 rfl ⟨fun _ => trivial, fun q => absurd hz q⟩ (fun _ => ?_) (fun q => q.elim)
    refine q_iconst (v := 0) hC dL_law_539 (by decide) 540 rfl ?_
    refine r_callI hC (go_V (q := (RX4, TX4, 12)) (As := [.int (xs (v3 + 1).toNatClampNeg), .int 0]) (rest := []) hC (ctX4_within (zl z) g M (xs (v3 + 1).toNatClampNeg) 0 _ hF (L_within hR (xs (v3 + 1).toNatClampNeg) 0)) 2 gL_law_X4_within rfl ⟨rfl, rfl⟩ hdL_X4_within ⟨Nat.le_of_ble_eq_true rfl, Nat.le_of_ble_eq_true rfl⟩ (obF0 hF) rfl rfl rfl (Nat.le_of_ble_eq_true rfl) dL_law_540) 543 rfl (fun r1 M1 hw => ?_)
    refine q_pop hC dL_law_543 rfl 544 rfl ?_
    refine q_aload_n hC dL_law_544 2 rfl 545 rfl ?_
    refine q_aload_n hC dL_law_545 0 rfl 546 rfl ?_
    refine q_iload_n hC dL_law_546 3 rfl 547 rfl ?_
    refine q_iconst (v := 1) hC dL_law_547 (by decide) 548 rfl ?_
    refine q_iadd hC dL_law_548 549 rfl ?_
    refine q_sld hC hX hB.2.1 dL_law_549 550 rfl ?_
    refine q_aload_n hC dL_law_550 0 rfl 551 rfl ?_
    refine q_iload_n hC dL_law_551 3 rfl 552 rfl ?_
    refine q_iconst (v := 2) hC dL_law_552 (by decide) 553 rfl ?_
    refine q_iadd hC dL_law_553 554 rfl ?_
    refine q_sld hC hX hB.2.2.1 dL_law_554 555 rfl ?_
    refine q_if_eq (A := True) (B := False) hC 562 dL_law_555 (by decide) 558 rfl ⟨fun _ => trivial, fun q => absurd hz q⟩ (fun _ => ?_) (fun q => q.elim)
    refine q_iconst (v := 0) hC dL_law_562 (by decide) 563 rfl ?_
    refine r_callI hC (go_V (q := (RX5, TX5, 26)) (As := [.int (xs (v3 + 1).toNatClampNeg), .int 0]) (rest := []) hC (ctX5_within (zl z) g M1 (xs (v3 + 1).toNatClampNeg) 0 _ hF.f5 hw) 2 gL_law_X5_within rfl ⟨rfl, rfl⟩ hdL_X5_within ⟨Nat.le_of_ble_eq_true rfl, Nat.le_of_ble_eq_true rfl⟩ (obF52 hF.f5) rfl rfl rfl (Nat.le_of_ble_eq_true rfl) dL_law_563) 566 rfl (fun r2 M2 hw => ?_)
    have hw3 := hw.2
    refine q_pop hC dL_law_566 rfl 567 rfl ?_
    refine q_goto hC 1437 dL_law_567 (by decide) ?_
    exact kk _ hw3
  · refine q_aload_n hC dL_law_521 1 rfl 522 rfl ?_
    refine q_aload_n hC dL_law_522 0 rfl 523 rfl ?_
    refine q_iload_n hC dL_law_523 3 rfl 524 rfl ?_
    refine q_iconst (v := 1) hC dL_law_524 (by decide) 525 rfl ?_
    refine q_iadd hC dL_law_525 526 rfl ?_
    refine q_sld hC hX hB.2.1 dL_law_526 527 rfl ?_
    refine q_aload_n hC dL_law_527 0 rfl 528 rfl ?_
    refine q_iload_n hC dL_law_528 3 rfl 529 rfl ?_
    refine q_iconst (v := 2) hC dL_law_529 (by decide) 530 rfl ?_
    refine q_iadd hC dL_law_530 531 rfl ?_
    refine q_sld hC hX hB.2.2.1 dL_law_531 532 rfl ?_
    refine q_if_eq (A := False) (B := True) hC 539 dL_law_532 (by decide) 535 rfl ⟨fun q => absurd q hz, fun _ => trivial⟩ (fun q => q.elim) (fun _ => ?_)
    refine q_iconst (v := 1) hC dL_law_535 (by decide) 536 rfl ?_
    refine q_goto hC 540 dL_law_536 (by decide) ?_
    refine r_callI hC (go_V (q := (RX4, TX4, 12)) (As := [.int (xs (v3 + 1).toNatClampNeg), .int 1]) (rest := []) hC (ctX4_within (zl z) g M (xs (v3 + 1).toNatClampNeg) 1 _ hF (L_within hR (xs (v3 + 1).toNatClampNeg) 1)) 2 gL_law_X4_within rfl ⟨rfl, rfl⟩ hdL_X4_within ⟨Nat.le_of_ble_eq_true rfl, Nat.le_of_ble_eq_true rfl⟩ (obF0 hF) rfl rfl rfl (Nat.le_of_ble_eq_true rfl) dL_law_540) 543 rfl (fun r1 M1 hw => ?_)
    refine q_pop hC dL_law_543 rfl 544 rfl ?_
    refine q_aload_n hC dL_law_544 2 rfl 545 rfl ?_
    refine q_aload_n hC dL_law_545 0 rfl 546 rfl ?_
    refine q_iload_n hC dL_law_546 3 rfl 547 rfl ?_
    refine q_iconst (v := 1) hC dL_law_547 (by decide) 548 rfl ?_
    refine q_iadd hC dL_law_548 549 rfl ?_
    refine q_sld hC hX hB.2.1 dL_law_549 550 rfl ?_
    refine q_aload_n hC dL_law_550 0 rfl 551 rfl ?_
    refine q_iload_n hC dL_law_551 3 rfl 552 rfl ?_
    refine q_iconst (v := 2) hC dL_law_552 (by decide) 553 rfl ?_
    refine q_iadd hC dL_law_553 554 rfl ?_
    refine q_sld hC hX hB.2.2.1 dL_law_554 555 rfl ?_
    refine q_if_eq (A := False) (B := True) hC 562 dL_law_555 (by decide) 558 rfl ⟨fun q => absurd q hz, fun _ => trivial⟩ (fun q => q.elim) (fun _ => ?_)
    refine q_iconst (v := 1) hC dL_law_558 (by decide) 559 rfl ?_
    refine q_goto hC 563 dL_law_559 (by decide) ?_
    refine r_callI hC (go_V (q := (RX5, TX5, 26)) (As := [.int (xs (v3 + 1).toNatClampNeg), .int 1]) (rest := []) hC (ctX5_within (zl z) g M1 (xs (v3 + 1).toNatClampNeg) 1 _ hF.f5 hw) 2 gL_law_X5_within rfl ⟨rfl, rfl⟩ hdL_X5_within ⟨Nat.le_of_ble_eq_true rfl, Nat.le_of_ble_eq_true rfl⟩ (obF52 hF.f5) rfl rfl rfl (Nat.le_of_ble_eq_true rfl) dL_law_563) 566 rfl (fun r2 M2 hw => ?_)
    have hw3 := hw.2
    refine q_pop hC dL_law_566 rfl 567 rfl ?_
    refine q_goto hC 1437 dL_law_567 (by decide) ?_
    exact kk _ hw3
set_option maxHeartbeats 4000000 in
theorem law_c12 {z : ZZ} {g : GG} {Qf : State → Prop} {M : MM} {b Ln : Nat} {xs : Nat → Int32} {v3 : Int32} (hC : CX z g cL_law 4 wsL_law RL room_1) (hF : full g) (hX : SX z g b Ln xs) (hB : inS v3 Ln) (hR : Rel M) (kk : ∀ M2, Rel M2 → XX z g Qf 4 1437 [(0, .ref b), (1, .ref (gA g 0)), (2, .ref (gA g 52)), (3, .int v3)] [] M2) : XX z g Qf 4 570 [(0, .ref b), (1, .ref (gA g 0)), (2, .ref (gA g 52)), (3, .int v3)] [] M := by
  refine q_aload_n hC dL_law_570 1 rfl 571 rfl ?_
  refine q_aload_n hC dL_law_571 0 rfl 572 rfl ?_
  refine q_iload_n hC dL_law_572 3 rfl 573 rfl ?_
  refine q_iconst (v := 1) hC dL_law_573 (by decide) 574 rfl ?_
  refine q_iadd hC dL_law_574 575 rfl ?_
  refine q_sld hC hX hB.2.1 dL_law_575 576 rfl ?_
  refine q_aload_n hC dL_law_576 0 rfl 577 rfl ?_
  refine q_iload_n hC dL_law_577 3 rfl 578 rfl ?_
  refine q_iconst (v := 2) hC dL_law_578 (by decide) 579 rfl ?_
  refine q_iadd hC dL_law_579 580 rfl ?_
  refine q_sld hC hX hB.2.2.1 dL_law_580 581 rfl ?_
  refine r_callI hC (go_V (q := (RX4, TX4, 12)) (As := [.int (xs (v3 + 1).toNatClampNeg), .int (xs (v3 + 2).toNatClampNeg)]) (rest := []) hC (ctX4_block (zl z) g M (xs (v3 + 1).toNatClampNeg) (xs (v3 + 2).toNatClampNeg) _ hF (L_block hR (xs (v3 + 1).toNatClampNeg) (xs (v3 + 2).toNatClampNeg))) 2 gL_law_X4_block rfl ⟨rfl, rfl⟩ hdL_X4_block ⟨Nat.le_of_ble_eq_true rfl, Nat.le_of_ble_eq_true rfl⟩ (obF0 hF) rfl rfl rfl (Nat.le_of_ble_eq_true rfl) dL_law_581) 584 rfl (fun r1 M1 hw => ?_)
  refine q_pop hC dL_law_584 rfl 585 rfl ?_
  refine q_aload_n hC dL_law_585 2 rfl 586 rfl ?_
  refine q_aload_n hC dL_law_586 0 rfl 587 rfl ?_
  refine q_iload_n hC dL_law_587 3 rfl 588 rfl ?_
  refine q_iconst (v := 1) hC dL_law_588 (by decide) 589 rfl ?_
  refine q_iadd hC dL_law_589 590 rfl ?_
  refine q_sld hC hX hB.2.1 dL_law_590 591 rfl ?_
  refine q_aload_n hC dL_law_591 0 rfl 592 rfl ?_
  refine q_iload_n hC dL_law_592 3 rfl 593 rfl ?_
  refine q_iconst (v := 2) hC dL_law_593 (by decide) 594 rfl ?_
  refine q_iadd hC dL_law_594 595 rfl ?_
  refine q_sld hC hX hB.2.2.1 dL_law_595 596 rfl ?_
  refine r_callI hC (go_V (q := (RX5, TX5, 26)) (As := [.int (xs (v3 + 1).toNatClampNeg), .int (xs (v3 + 2).toNatClampNeg)]) (rest := []) hC (ctX5_block (zl z) g M1 (xs (v3 + 1).toNatClampNeg) (xs (v3 + 2).toNatClampNeg) _ hF.f5 hw) 2 gL_law_X5_block rfl ⟨rfl, rfl⟩ hdL_X5_block ⟨Nat.le_of_ble_eq_true rfl, Nat.le_of_ble_eq_true rfl⟩ (obF52 hF.f5) rfl rfl rfl (Nat.le_of_ble_eq_true rfl) dL_law_596) 599 rfl (fun r2 M2 hw => ?_)
  have hw3 := hw.2
  refine q_pop hC dL_law_599 rfl 600 rfl ?_
  refine q_goto hC 1437 dL_law_600 (by decide) ?_
  exact kk _ hw3
set_option maxHeartbeats 4000000 in
theorem law_c13 {z : ZZ} {g : GG} {Qf : State → Prop} {M : MM} {b Ln : Nat} {xs : Nat → Int32} {v3 : Int32} (hC : CX z g cL_law 4 wsL_law RL room_1) (hF : full g) (hX : SX z g b Ln xs) (hB : inS v3 Ln) (hR : Rel M) (kk : ∀ M2, Rel M2 → XX z g Qf 4 1437 [(0, .ref b), (1, .ref (gA g 0)), (2, .ref (gA g 52)), (3, .int v3)] [] M2) : XX z g Qf 4 603 [(0, .ref b), (1, .ref (gA g 0)), (2, .ref (gA g 52)), (3, .int v3)] [] M := by
  refine q_aload_n hC dL_law_603 1 rfl 604 rfl ?_
  refine q_aload_n hC dL_law_604 0 rfl 605 rfl ?_
  refine q_iload_n hC dL_law_605 3 rfl 606 rfl ?_
  refine q_iconst (v := 1) hC dL_law_606 (by decide) 607 rfl ?_
  refine q_iadd hC dL_law_607 608 rfl ?_
  refine q_sld hC hX hB.2.1 dL_law_608 609 rfl ?_
  refine r_callI hC (go_V (q := (RX4, TX4, 12)) (As := [.int (xs (v3 + 1).toNatClampNeg)]) (rest := []) hC (ctX4_blockAt (zl z) g M (xs (v3 + 1).toNatClampNeg) _ hF (L_blockAt hR (xs (v3 + 1).toNatClampNeg))) 1 gL_law_X4_blockAt rfl ⟨rfl, rfl⟩ hdL_X4_blockAt ⟨Nat.le_of_ble_eq_true rfl, Nat.le_of_ble_eq_true rfl⟩ (obF0 hF) rfl rfl rfl (Nat.le_of_ble_eq_true rfl) dL_law_609) 612 rfl (fun r1 M1 hw => ?_)
  refine q_pop hC dL_law_612 rfl 613 rfl ?_
  refine q_aload_n hC dL_law_613 2 rfl 614 rfl ?_
  refine q_aload_n hC dL_law_614 0 rfl 615 rfl ?_
  refine q_iload_n hC dL_law_615 3 rfl 616 rfl ?_
  refine q_iconst (v := 1) hC dL_law_616 (by decide) 617 rfl ?_
  refine q_iadd hC dL_law_617 618 rfl ?_
  refine q_sld hC hX hB.2.1 dL_law_618 619 rfl ?_
  refine r_callI hC (go_V (q := (RX5, TX5, 26)) (As := [.int (xs (v3 + 1).toNatClampNeg)]) (rest := []) hC (ctX5_blockAt (zl z) g M1 (xs (v3 + 1).toNatClampNeg) _ hF.f5 hw) 1 gL_law_X5_blockAt rfl ⟨rfl, rfl⟩ hdL_X5_blockAt ⟨Nat.le_of_ble_eq_true rfl, Nat.le_of_ble_eq_true rfl⟩ (obF52 hF.f5) rfl rfl rfl (Nat.le_of_ble_eq_true rfl) dL_law_619) 622 rfl (fun r2 M2 hw => ?_)
  have hw3 := hw.2
  refine q_pop hC dL_law_622 rfl 623 rfl ?_
  refine q_goto hC 1437 dL_law_623 (by decide) ?_
  exact kk _ hw3
set_option maxHeartbeats 4000000 in
theorem law_c14 {z : ZZ} {g : GG} {Qf : State → Prop} {M : MM} {b Ln : Nat} {xs : Nat → Int32} {v3 : Int32} (hC : CX z g cL_law 4 wsL_law RL room_1) (hF : full g) (hX : SX z g b Ln xs) (hB : inS v3 Ln) (hR : Rel M) (kk : ∀ M2, Rel M2 → XX z g Qf 4 1437 [(0, .ref b), (1, .ref (gA g 0)), (2, .ref (gA g 52)), (3, .int v3)] [] M2) : XX z g Qf 4 626 [(0, .ref b), (1, .ref (gA g 0)), (2, .ref (gA g 52)), (3, .int v3)] [] M := by
  refine q_aload_n hC dL_law_626 1 rfl 627 rfl ?_
  refine q_aload_n hC dL_law_627 0 rfl 628 rfl ?_
  refine q_iload_n hC dL_law_628 3 rfl 629 rfl ?_
  refine q_iconst (v := 1) hC dL_law_629 (by decide) 630 rfl ?_
  refine q_iadd hC dL_law_630 631 rfl ?_
  refine q_sld hC hX hB.2.1 dL_law_631 632 rfl ?_
  refine r_callI hC (go_V (q := (RX4, TX4, 12)) (As := [.int (xs (v3 + 1).toNatClampNeg)]) (rest := []) hC (ctX4_type (zl z) g M (xs (v3 + 1).toNatClampNeg) _ hF (L_type hR (xs (v3 + 1).toNatClampNeg))) 1 gL_law_X4_type rfl ⟨rfl, rfl⟩ hdL_X4_type ⟨Nat.le_of_ble_eq_true rfl, Nat.le_of_ble_eq_true rfl⟩ (obF0 hF) rfl rfl rfl (Nat.le_of_ble_eq_true rfl) dL_law_632) 635 rfl (fun r1 M1 hw => ?_)
  refine q_pop hC dL_law_635 rfl 636 rfl ?_
  refine q_aload_n hC dL_law_636 2 rfl 637 rfl ?_
  refine q_aload_n hC dL_law_637 0 rfl 638 rfl ?_
  refine q_iload_n hC dL_law_638 3 rfl 639 rfl ?_
  refine q_iconst (v := 1) hC dL_law_639 (by decide) 640 rfl ?_
  refine q_iadd hC dL_law_640 641 rfl ?_
  refine q_sld hC hX hB.2.1 dL_law_641 642 rfl ?_
  refine r_callI hC (go_V (q := (RX5, TX5, 26)) (As := [.int (xs (v3 + 1).toNatClampNeg)]) (rest := []) hC (ctX5_type (zl z) g M1 (xs (v3 + 1).toNatClampNeg) _ hF.f5 hw) 1 gL_law_X5_type rfl ⟨rfl, rfl⟩ hdL_X5_type ⟨Nat.le_of_ble_eq_true rfl, Nat.le_of_ble_eq_true rfl⟩ (obF52 hF.f5) rfl rfl rfl (Nat.le_of_ble_eq_true rfl) dL_law_642) 645 rfl (fun r2 M2 hw => ?_)
  have hw3 := hw.2
  refine q_pop hC dL_law_645 rfl 646 rfl ?_
  refine q_goto hC 1437 dL_law_646 (by decide) ?_
  exact kk _ hw3
set_option maxHeartbeats 4000000 in
theorem law_c15 {z : ZZ} {g : GG} {Qf : State → Prop} {M : MM} {b Ln : Nat} {xs : Nat → Int32} {v3 : Int32} (hC : CX z g cL_law 4 wsL_law RL room_1) (hF : full g) (hX : SX z g b Ln xs) (hB : inS v3 Ln) (hR : Rel M) (kk : ∀ M2, Rel M2 → XX z g Qf 4 1437 [(0, .ref b), (1, .ref (gA g 0)), (2, .ref (gA g 52)), (3, .int v3)] [] M2) : XX z g Qf 4 649 [(0, .ref b), (1, .ref (gA g 0)), (2, .ref (gA g 52)), (3, .int v3)] [] M := by
  refine q_aload_n hC dL_law_649 1 rfl 650 rfl ?_
  refine q_aload_n hC dL_law_650 0 rfl 651 rfl ?_
  refine q_iload_n hC dL_law_651 3 rfl 652 rfl ?_
  refine q_iconst (v := 1) hC dL_law_652 (by decide) 653 rfl ?_
  refine q_iadd hC dL_law_653 654 rfl ?_
  refine q_sld hC hX hB.2.1 dL_law_654 655 rfl ?_
  refine r_callI hC (go_V (q := (RX4, TX4, 12)) (As := [.int (xs (v3 + 1).toNatClampNeg)]) (rest := []) hC (ctX4_write (zl z) g M (xs (v3 + 1).toNatClampNeg) _ hF (L_write hR (xs (v3 + 1).toNatClampNeg))) 1 gL_law_X4_write rfl ⟨rfl, rfl⟩ hdL_X4_write ⟨Nat.le_of_ble_eq_true rfl, Nat.le_of_ble_eq_true rfl⟩ (obF0 hF) rfl rfl rfl (Nat.le_of_ble_eq_true rfl) dL_law_655) 658 rfl (fun r1 M1 hw => ?_)
  refine q_pop hC dL_law_658 rfl 659 rfl ?_
  refine q_aload_n hC dL_law_659 2 rfl 660 rfl ?_
  refine q_aload_n hC dL_law_660 0 rfl 661 rfl ?_
  refine q_iload_n hC dL_law_661 3 rfl 662 rfl ?_
  refine q_iconst (v := 1) hC dL_law_662 (by decide) 663 rfl ?_
  refine q_iadd hC dL_law_663 664 rfl ?_
  refine q_sld hC hX hB.2.1 dL_law_664 665 rfl ?_
  refine r_callI hC (go_V (q := (RX5, TX5, 26)) (As := [.int (xs (v3 + 1).toNatClampNeg)]) (rest := []) hC (ctX5_write (zl z) g M1 (xs (v3 + 1).toNatClampNeg) _ hF.f5 hw) 1 gL_law_X5_write rfl ⟨rfl, rfl⟩ hdL_X5_write ⟨Nat.le_of_ble_eq_true rfl, Nat.le_of_ble_eq_true rfl⟩ (obF52 hF.f5) rfl rfl rfl (Nat.le_of_ble_eq_true rfl) dL_law_665) 668 rfl (fun r2 M2 hw => ?_)
  have hw3 := hw.2
  refine q_pop hC dL_law_668 rfl 669 rfl ?_
  refine q_goto hC 1437 dL_law_669 (by decide) ?_
  exact kk _ hw3
set_option maxHeartbeats 4000000 in
theorem law_c16 {z : ZZ} {g : GG} {Qf : State → Prop} {M : MM} {b Ln : Nat} {xs : Nat → Int32} {v3 : Int32} (hC : CX z g cL_law 4 wsL_law RL room_1) (hF : full g) (hX : SX z g b Ln xs) (hB : inS v3 Ln) (hR : Rel M) (kk : ∀ M2, Rel M2 → XX z g Qf 4 1437 [(0, .ref b), (1, .ref (gA g 0)), (2, .ref (gA g 52)), (3, .int v3)] [] M2) : XX z g Qf 4 672 [(0, .ref b), (1, .ref (gA g 0)), (2, .ref (gA g 52)), (3, .int v3)] [] M := by
  refine q_aload_n hC dL_law_672 1 rfl 673 rfl ?_
  refine q_aload_n hC dL_law_673 0 rfl 674 rfl ?_
  refine q_iload_n hC dL_law_674 3 rfl 675 rfl ?_
  refine q_iconst (v := 1) hC dL_law_675 (by decide) 676 rfl ?_
  refine q_iadd hC dL_law_676 677 rfl ?_
  refine q_sld hC hX hB.2.1 dL_law_677 678 rfl ?_
  refine r_callI hC (go_V (q := (RX4, TX4, 12)) (As := [.int (xs (v3 + 1).toNatClampNeg)]) (rest := []) hC (ctX4_mark (zl z) g M (xs (v3 + 1).toNatClampNeg) _ hF (L_mark hR (xs (v3 + 1).toNatClampNeg))) 1 gL_law_X4_mark rfl ⟨rfl, rfl⟩ hdL_X4_mark ⟨Nat.le_of_ble_eq_true rfl, Nat.le_of_ble_eq_true rfl⟩ (obF0 hF) rfl rfl rfl (Nat.le_of_ble_eq_true rfl) dL_law_678) 681 rfl (fun r1 M1 hw => ?_)
  refine q_pop hC dL_law_681 rfl 682 rfl ?_
  refine q_aload_n hC dL_law_682 2 rfl 683 rfl ?_
  refine q_aload_n hC dL_law_683 0 rfl 684 rfl ?_
  refine q_iload_n hC dL_law_684 3 rfl 685 rfl ?_
  refine q_iconst (v := 1) hC dL_law_685 (by decide) 686 rfl ?_
  refine q_iadd hC dL_law_686 687 rfl ?_
  refine q_sld hC hX hB.2.1 dL_law_687 688 rfl ?_
  refine r_callI hC (go_V (q := (RX5, TX5, 26)) (As := [.int (xs (v3 + 1).toNatClampNeg)]) (rest := []) hC (ctX5_mark (zl z) g M1 (xs (v3 + 1).toNatClampNeg) _ hF.f5 hw) 1 gL_law_X5_mark rfl ⟨rfl, rfl⟩ hdL_X5_mark ⟨Nat.le_of_ble_eq_true rfl, Nat.le_of_ble_eq_true rfl⟩ (obF52 hF.f5) rfl rfl rfl (Nat.le_of_ble_eq_true rfl) dL_law_688) 691 rfl (fun r2 M2 hw => ?_)
  have hw3 := hw.2
  refine q_pop hC dL_law_691 rfl 692 rfl ?_
  refine q_goto hC 1437 dL_law_692 (by decide) ?_
  exact kk _ hw3
set_option maxHeartbeats 4000000 in
theorem law_c17 {z : ZZ} {g : GG} {Qf : State → Prop} {M : MM} {b Ln : Nat} {xs : Nat → Int32} {v3 : Int32} (hC : CX z g cL_law 4 wsL_law RL room_1) (hF : full g) (hX : SX z g b Ln xs) (hB : inS v3 Ln) (hR : Rel M) (kk : ∀ M2, Rel M2 → XX z g Qf 4 1437 [(0, .ref b), (1, .ref (gA g 0)), (2, .ref (gA g 52)), (3, .int v3)] [] M2) : XX z g Qf 4 695 [(0, .ref b), (1, .ref (gA g 0)), (2, .ref (gA g 52)), (3, .int v3)] [] M := by
  refine q_aload_n hC dL_law_695 1 rfl 696 rfl ?_
  refine q_aload_n hC dL_law_696 0 rfl 697 rfl ?_
  refine q_iload_n hC dL_law_697 3 rfl 698 rfl ?_
  refine q_iconst (v := 1) hC dL_law_698 (by decide) 699 rfl ?_
  refine q_iadd hC dL_law_699 700 rfl ?_
  refine q_sld hC hX hB.2.1 dL_law_700 701 rfl ?_
  refine q_aload_n hC dL_law_701 0 rfl 702 rfl ?_
  refine q_iload_n hC dL_law_702 3 rfl 703 rfl ?_
  refine q_iconst (v := 2) hC dL_law_703 (by decide) 704 rfl ?_
  refine q_iadd hC dL_law_704 705 rfl ?_
  refine q_sld hC hX hB.2.2.1 dL_law_705 706 rfl ?_
  refine q_aload_n hC dL_law_706 0 rfl 707 rfl ?_
  refine q_iload_n hC dL_law_707 3 rfl 708 rfl ?_
  refine q_iconst (v := 3) hC dL_law_708 (by decide) 709 rfl ?_
  refine q_iadd hC dL_law_709 710 rfl ?_
  refine q_sld hC hX hB.2.2.2.1 dL_law_710 711 rfl ?_
  refine r_callI hC (go_V (q := (RX4, TX4, 12)) (As := [.int (xs (v3 + 1).toNatClampNeg), .int (xs (v3 + 2).toNatClampNeg), .int (xs (v3 + 3).toNatClampNeg)]) (rest := []) hC (ctX4_spoil (zl z) g M (xs (v3 + 1).toNatClampNeg) (xs (v3 + 2).toNatClampNeg) (xs (v3 + 3).toNatClampNeg) _ hF (L_spoil hR (xs (v3 + 1).toNatClampNeg) (xs (v3 + 2).toNatClampNeg) (xs (v3 + 3).toNatClampNeg))) 3 gL_law_X4_spoil rfl ⟨rfl, rfl⟩ hdL_X4_spoil ⟨Nat.le_of_ble_eq_true rfl, Nat.le_of_ble_eq_true rfl⟩ (obF0 hF) rfl rfl rfl (Nat.le_of_ble_eq_true rfl) dL_law_711) 714 rfl (fun r1 M1 hw => ?_)
  refine q_pop hC dL_law_714 rfl 715 rfl ?_
  refine q_aload_n hC dL_law_715 2 rfl 716 rfl ?_
  refine q_aload_n hC dL_law_716 0 rfl 717 rfl ?_
  refine q_iload_n hC dL_law_717 3 rfl 718 rfl ?_
  refine q_iconst (v := 1) hC dL_law_718 (by decide) 719 rfl ?_
  refine q_iadd hC dL_law_719 720 rfl ?_
  refine q_sld hC hX hB.2.1 dL_law_720 721 rfl ?_
  refine q_aload_n hC dL_law_721 0 rfl 722 rfl ?_
  refine q_iload_n hC dL_law_722 3 rfl 723 rfl ?_
  refine q_iconst (v := 2) hC dL_law_723 (by decide) 724 rfl ?_
  refine q_iadd hC dL_law_724 725 rfl ?_
  refine q_sld hC hX hB.2.2.1 dL_law_725 726 rfl ?_
  refine q_aload_n hC dL_law_726 0 rfl 727 rfl ?_
  refine q_iload_n hC dL_law_727 3 rfl 728 rfl ?_
  refine q_iconst (v := 3) hC dL_law_728 (by decide) 729 rfl ?_
  refine q_iadd hC dL_law_729 730 rfl ?_
  refine q_sld hC hX hB.2.2.2.1 dL_law_730 731 rfl ?_
  refine r_callI hC (go_V (q := (RX5, TX5, 26)) (As := [.int (xs (v3 + 1).toNatClampNeg), .int (xs (v3 + 2).toNatClampNeg), .int (xs (v3 + 3).toNatClampNeg)]) (rest := []) hC (ctX5_spoil (zl z) g M1 (xs (v3 + 1).toNatClampNeg) (xs (v3 + 2).toNatClampNeg) (xs (v3 + 3).toNatClampNeg) _ hF.f5 hw) 3 gL_law_X5_spoil rfl ⟨rfl, rfl⟩ hdL_X5_spoil ⟨Nat.le_of_ble_eq_true rfl, Nat.le_of_ble_eq_true rfl⟩ (obF52 hF.f5) rfl rfl rfl (Nat.le_of_ble_eq_true rfl) dL_law_731) 734 rfl (fun r2 M2 hw => ?_)
  have hw3 := hw.2
  refine q_pop hC dL_law_734 rfl 735 rfl ?_
  refine q_goto hC 1437 dL_law_735 (by decide) ?_
  exact kk _ hw3
set_option maxHeartbeats 4000000 in
theorem law_c18 {z : ZZ} {g : GG} {Qf : State → Prop} {M : MM} {b Ln : Nat} {xs : Nat → Int32} {v3 : Int32} (hC : CX z g cL_law 4 wsL_law RL room_1) (hF : full g) (hX : SX z g b Ln xs) (hB : inS v3 Ln) (hR : Rel M) (kk : ∀ M2, Rel M2 → XX z g Qf 4 1437 [(0, .ref b), (1, .ref (gA g 0)), (2, .ref (gA g 52)), (3, .int v3)] [] M2) : XX z g Qf 4 738 [(0, .ref b), (1, .ref (gA g 0)), (2, .ref (gA g 52)), (3, .int v3)] [] M := by
  refine q_aload_n hC dL_law_738 1 rfl 739 rfl ?_
  refine q_aload_n hC dL_law_739 0 rfl 740 rfl ?_
  refine q_iload_n hC dL_law_740 3 rfl 741 rfl ?_
  refine q_iconst (v := 1) hC dL_law_741 (by decide) 742 rfl ?_
  refine q_iadd hC dL_law_742 743 rfl ?_
  refine q_sld hC hX hB.2.1 dL_law_743 744 rfl ?_
  refine r_callI hC (go_V (q := (RX4, TX4, 12)) (As := [.int (xs (v3 + 1).toNatClampNeg)]) (rest := []) hC (ctX4_dead (zl z) g M (xs (v3 + 1).toNatClampNeg) _ hF (L_dead hR (xs (v3 + 1).toNatClampNeg))) 1 gL_law_X4_dead rfl ⟨rfl, rfl⟩ hdL_X4_dead ⟨Nat.le_of_ble_eq_true rfl, Nat.le_of_ble_eq_true rfl⟩ (obF0 hF) rfl rfl rfl (Nat.le_of_ble_eq_true rfl) dL_law_744) 747 rfl (fun r1 M1 hw => ?_)
  refine q_pop hC dL_law_747 rfl 748 rfl ?_
  refine q_aload_n hC dL_law_748 2 rfl 749 rfl ?_
  refine q_aload_n hC dL_law_749 0 rfl 750 rfl ?_
  refine q_iload_n hC dL_law_750 3 rfl 751 rfl ?_
  refine q_iconst (v := 1) hC dL_law_751 (by decide) 752 rfl ?_
  refine q_iadd hC dL_law_752 753 rfl ?_
  refine q_sld hC hX hB.2.1 dL_law_753 754 rfl ?_
  refine r_callI hC (go_V (q := (RX5, TX5, 26)) (As := [.int (xs (v3 + 1).toNatClampNeg)]) (rest := []) hC (ctX5_dead (zl z) g M1 (xs (v3 + 1).toNatClampNeg) _ hF.f5 hw) 1 gL_law_X5_dead rfl ⟨rfl, rfl⟩ hdL_X5_dead ⟨Nat.le_of_ble_eq_true rfl, Nat.le_of_ble_eq_true rfl⟩ (obF52 hF.f5) rfl rfl rfl (Nat.le_of_ble_eq_true rfl) dL_law_754) 757 rfl (fun r2 M2 hw => ?_)
  have hw3 := hw.2
  refine q_pop hC dL_law_757 rfl 758 rfl ?_
  refine q_goto hC 1437 dL_law_758 (by decide) ?_
  exact kk _ hw3
set_option maxHeartbeats 4000000 in
theorem law_c19 {z : ZZ} {g : GG} {Qf : State → Prop} {M : MM} {b Ln : Nat} {xs : Nat → Int32} {v3 : Int32} (hC : CX z g cL_law 4 wsL_law RL room_1) (hF : full g) (hX : SX z g b Ln xs) (hB : inS v3 Ln) (hR : Rel M) (kk : ∀ M2, Rel M2 → XX z g Qf 4 1437 [(0, .ref b), (1, .ref (gA g 0)), (2, .ref (gA g 52)), (3, .int v3)] [] M2) : XX z g Qf 4 761 [(0, .ref b), (1, .ref (gA g 0)), (2, .ref (gA g 52)), (3, .int v3)] [] M := by
  refine q_aload_n hC dL_law_761 1 rfl 762 rfl ?_
  refine q_aload_n hC dL_law_762 0 rfl 763 rfl ?_
  refine q_iload_n hC dL_law_763 3 rfl 764 rfl ?_
  refine q_iconst (v := 1) hC dL_law_764 (by decide) 765 rfl ?_
  refine q_iadd hC dL_law_765 766 rfl ?_
  refine q_sld hC hX hB.2.1 dL_law_766 767 rfl ?_
  refine r_callI hC (go_V (q := (RX4, TX4, 12)) (As := [.int (xs (v3 + 1).toNatClampNeg)]) (rest := []) hC (ctX4_check (zl z) g M (xs (v3 + 1).toNatClampNeg) _ hF (L_check hR (xs (v3 + 1).toNatClampNeg))) 1 gL_law_X4_check rfl ⟨rfl, rfl⟩ hdL_X4_check ⟨Nat.le_of_ble_eq_true rfl, Nat.le_of_ble_eq_true rfl⟩ (obF0 hF) rfl rfl rfl (Nat.le_of_ble_eq_true rfl) dL_law_767) 770 rfl (fun r1 M1 hw => ?_)
  refine q_pop hC dL_law_770 rfl 771 rfl ?_
  refine q_aload_n hC dL_law_771 2 rfl 772 rfl ?_
  refine q_aload_n hC dL_law_772 0 rfl 773 rfl ?_
  refine q_iload_n hC dL_law_773 3 rfl 774 rfl ?_
  refine q_iconst (v := 1) hC dL_law_774 (by decide) 775 rfl ?_
  refine q_iadd hC dL_law_775 776 rfl ?_
  refine q_sld hC hX hB.2.1 dL_law_776 777 rfl ?_
  refine r_callI hC (go_V (q := (RX5, TX5, 26)) (As := [.int (xs (v3 + 1).toNatClampNeg)]) (rest := []) hC (ctX5_check (zl z) g M1 (xs (v3 + 1).toNatClampNeg) _ hF.f5 hw) 1 gL_law_X5_check rfl ⟨rfl, rfl⟩ hdL_X5_check ⟨Nat.le_of_ble_eq_true rfl, Nat.le_of_ble_eq_true rfl⟩ (obF52 hF.f5) rfl rfl rfl (Nat.le_of_ble_eq_true rfl) dL_law_777) 780 rfl (fun r2 M2 hw => ?_)
  have hw3 := hw.2
  refine q_pop hC dL_law_780 rfl 781 rfl ?_
  refine q_goto hC 1437 dL_law_781 (by decide) ?_
  exact kk _ hw3
set_option maxHeartbeats 4000000 in
theorem law_c20 {z : ZZ} {g : GG} {Qf : State → Prop} {M : MM} {b Ln : Nat} {xs : Nat → Int32} {v3 : Int32} (hC : CX z g cL_law 4 wsL_law RL room_1) (hF : full g) (hX : SX z g b Ln xs) (hB : inS v3 Ln) (hR : Rel M) (kk : ∀ M2, Rel M2 → XX z g Qf 4 1437 [(0, .ref b), (1, .ref (gA g 0)), (2, .ref (gA g 52)), (3, .int v3)] [] M2) : XX z g Qf 4 784 [(0, .ref b), (1, .ref (gA g 0)), (2, .ref (gA g 52)), (3, .int v3)] [] M := by
  refine q_aload_n hC dL_law_784 1 rfl 785 rfl ?_
  refine q_aload_n hC dL_law_785 0 rfl 786 rfl ?_
  refine q_iload_n hC dL_law_786 3 rfl 787 rfl ?_
  refine q_iconst (v := 1) hC dL_law_787 (by decide) 788 rfl ?_
  refine q_iadd hC dL_law_788 789 rfl ?_
  refine q_sld hC hX hB.2.1 dL_law_789 790 rfl ?_
  refine q_aload_n hC dL_law_790 0 rfl 791 rfl ?_
  refine q_iload_n hC dL_law_791 3 rfl 792 rfl ?_
  refine q_iconst (v := 2) hC dL_law_792 (by decide) 793 rfl ?_
  refine q_iadd hC dL_law_793 794 rfl ?_
  refine q_sld hC hX hB.2.2.1 dL_law_794 795 rfl ?_
  refine r_callI hC (go_V (q := (RX4, TX4, 12)) (As := [.int (xs (v3 + 1).toNatClampNeg), .int (xs (v3 + 2).toNatClampNeg)]) (rest := []) hC (ctX4_got (zl z) g M (xs (v3 + 1).toNatClampNeg) (xs (v3 + 2).toNatClampNeg) _ hF (L_got hR (xs (v3 + 1).toNatClampNeg) (xs (v3 + 2).toNatClampNeg))) 2 gL_law_X4_got rfl ⟨rfl, rfl⟩ hdL_X4_got ⟨Nat.le_of_ble_eq_true rfl, Nat.le_of_ble_eq_true rfl⟩ (obF0 hF) rfl rfl rfl (Nat.le_of_ble_eq_true rfl) dL_law_795) 798 rfl (fun r1 M1 hw => ?_)
  refine q_pop hC dL_law_798 rfl 799 rfl ?_
  refine q_aload_n hC dL_law_799 2 rfl 800 rfl ?_
  refine q_aload_n hC dL_law_800 0 rfl 801 rfl ?_
  refine q_iload_n hC dL_law_801 3 rfl 802 rfl ?_
  refine q_iconst (v := 1) hC dL_law_802 (by decide) 803 rfl ?_
  refine q_iadd hC dL_law_803 804 rfl ?_
  refine q_sld hC hX hB.2.1 dL_law_804 805 rfl ?_
  refine q_aload_n hC dL_law_805 0 rfl 806 rfl ?_
  refine q_iload_n hC dL_law_806 3 rfl 807 rfl ?_
  refine q_iconst (v := 2) hC dL_law_807 (by decide) 808 rfl ?_
  refine q_iadd hC dL_law_808 809 rfl ?_
  refine q_sld hC hX hB.2.2.1 dL_law_809 810 rfl ?_
  refine r_callI hC (go_V (q := (RX5, TX5, 26)) (As := [.int (xs (v3 + 1).toNatClampNeg), .int (xs (v3 + 2).toNatClampNeg)]) (rest := []) hC (ctX5_got (zl z) g M1 (xs (v3 + 1).toNatClampNeg) (xs (v3 + 2).toNatClampNeg) _ hF.f5 hw) 2 gL_law_X5_got rfl ⟨rfl, rfl⟩ hdL_X5_got ⟨Nat.le_of_ble_eq_true rfl, Nat.le_of_ble_eq_true rfl⟩ (obF52 hF.f5) rfl rfl rfl (Nat.le_of_ble_eq_true rfl) dL_law_810) 813 rfl (fun r2 M2 hw => ?_)
  have hw3 := hw.2
  refine q_pop hC dL_law_813 rfl 814 rfl ?_
  refine q_goto hC 1437 dL_law_814 (by decide) ?_
  exact kk _ hw3
set_option maxHeartbeats 4000000 in
theorem law_c21 {z : ZZ} {g : GG} {Qf : State → Prop} {M : MM} {b Ln : Nat} {xs : Nat → Int32} {v3 : Int32} (hC : CX z g cL_law 4 wsL_law RL room_1) (hF : full g) (hX : SX z g b Ln xs) (hB : inS v3 Ln) (hR : Rel M) (kk : ∀ M2, Rel M2 → XX z g Qf 4 1437 [(0, .ref b), (1, .ref (gA g 0)), (2, .ref (gA g 52)), (3, .int v3)] [] M2) : XX z g Qf 4 817 [(0, .ref b), (1, .ref (gA g 0)), (2, .ref (gA g 52)), (3, .int v3)] [] M := by
  refine q_aload_n hC dL_law_817 1 rfl 818 rfl ?_
  refine q_aload_n hC dL_law_818 0 rfl 819 rfl ?_
  refine q_iload_n hC dL_law_819 3 rfl 820 rfl ?_
  refine q_iconst (v := 1) hC dL_law_820 (by decide) 821 rfl ?_
  refine q_iadd hC dL_law_821 822 rfl ?_
  refine q_sld hC hX hB.2.1 dL_law_822 823 rfl ?_
  refine q_aload_n hC dL_law_823 0 rfl 824 rfl ?_
  refine q_iload_n hC dL_law_824 3 rfl 825 rfl ?_
  refine q_iconst (v := 2) hC dL_law_825 (by decide) 826 rfl ?_
  refine q_iadd hC dL_law_826 827 rfl ?_
  refine q_sld hC hX hB.2.2.1 dL_law_827 828 rfl ?_
  refine r_callI hC (go_V (q := (RX4, TX4, 12)) (As := [.int (xs (v3 + 1).toNatClampNeg), .int (xs (v3 + 2).toNatClampNeg)]) (rest := []) hC (ctX4_column (zl z) g M (xs (v3 + 1).toNatClampNeg) (xs (v3 + 2).toNatClampNeg) _ hF (L_column hR (xs (v3 + 1).toNatClampNeg) (xs (v3 + 2).toNatClampNeg))) 2 gL_law_X4_column rfl ⟨rfl, rfl⟩ hdL_X4_column ⟨Nat.le_of_ble_eq_true rfl, Nat.le_of_ble_eq_true rfl⟩ (obF0 hF) rfl rfl rfl (Nat.le_of_ble_eq_true rfl) dL_law_828) 831 rfl (fun r1 M1 hw => ?_)
  refine q_pop hC dL_law_831 rfl 832 rfl ?_
  refine q_aload_n hC dL_law_832 2 rfl 833 rfl ?_
  refine q_aload_n hC dL_law_833 0 rfl 834 rfl ?_
  refine q_iload_n hC dL_law_834 3 rfl 835 rfl ?_
  refine q_iconst (v := 1) hC dL_law_835 (by decide) 836 rfl ?_
  refine q_iadd hC dL_law_836 837 rfl ?_
  refine q_sld hC hX hB.2.1 dL_law_837 838 rfl ?_
  refine q_aload_n hC dL_law_838 0 rfl 839 rfl ?_
  refine q_iload_n hC dL_law_839 3 rfl 840 rfl ?_
  refine q_iconst (v := 2) hC dL_law_840 (by decide) 841 rfl ?_
  refine q_iadd hC dL_law_841 842 rfl ?_
  refine q_sld hC hX hB.2.2.1 dL_law_842 843 rfl ?_
  refine r_callI hC (go_V (q := (RX5, TX5, 26)) (As := [.int (xs (v3 + 1).toNatClampNeg), .int (xs (v3 + 2).toNatClampNeg)]) (rest := []) hC (ctX5_column (zl z) g M1 (xs (v3 + 1).toNatClampNeg) (xs (v3 + 2).toNatClampNeg) _ hF.f5 hw) 2 gL_law_X5_column rfl ⟨rfl, rfl⟩ hdL_X5_column ⟨Nat.le_of_ble_eq_true rfl, Nat.le_of_ble_eq_true rfl⟩ (obF52 hF.f5) rfl rfl rfl (Nat.le_of_ble_eq_true rfl) dL_law_843) 846 rfl (fun r2 M2 hw => ?_)
  have hw3 := hw.2
  refine q_pop hC dL_law_846 rfl 847 rfl ?_
  refine q_goto hC 1437 dL_law_847 (by decide) ?_
  exact kk _ hw3
set_option maxHeartbeats 4000000 in
theorem law_c22 {z : ZZ} {g : GG} {Qf : State → Prop} {M : MM} {b Ln : Nat} {xs : Nat → Int32} {v3 : Int32} (hC : CX z g cL_law 4 wsL_law RL room_1) (hF : full g) (hX : SX z g b Ln xs) (hB : inS v3 Ln) (hR : Rel M) (kk : ∀ M2, Rel M2 → XX z g Qf 4 1437 [(0, .ref b), (1, .ref (gA g 0)), (2, .ref (gA g 52)), (3, .int v3)] [] M2) : XX z g Qf 4 850 [(0, .ref b), (1, .ref (gA g 0)), (2, .ref (gA g 52)), (3, .int v3)] [] M := by
  refine q_aload_n hC dL_law_850 1 rfl 851 rfl ?_
  refine q_aload_n hC dL_law_851 0 rfl 852 rfl ?_
  refine q_iload_n hC dL_law_852 3 rfl 853 rfl ?_
  refine q_iconst (v := 1) hC dL_law_853 (by decide) 854 rfl ?_
  refine q_iadd hC dL_law_854 855 rfl ?_
  refine q_sld hC hX hB.2.1 dL_law_855 856 rfl ?_
  refine r_callI hC (go_V (q := (RX4, TX4, 12)) (As := [.int (xs (v3 + 1).toNatClampNeg)]) (rest := []) hC (ctX4_state (zl z) g M (xs (v3 + 1).toNatClampNeg) _ hF (L_state hR (xs (v3 + 1).toNatClampNeg))) 1 gL_law_X4_state rfl ⟨rfl, rfl⟩ hdL_X4_state ⟨Nat.le_of_ble_eq_true rfl, Nat.le_of_ble_eq_true rfl⟩ (obF0 hF) rfl rfl rfl (Nat.le_of_ble_eq_true rfl) dL_law_856) 859 rfl (fun r1 M1 hw => ?_)
  refine q_pop hC dL_law_859 rfl 860 rfl ?_
  refine q_aload_n hC dL_law_860 2 rfl 861 rfl ?_
  refine q_aload_n hC dL_law_861 0 rfl 862 rfl ?_
  refine q_iload_n hC dL_law_862 3 rfl 863 rfl ?_
  refine q_iconst (v := 1) hC dL_law_863 (by decide) 864 rfl ?_
  refine q_iadd hC dL_law_864 865 rfl ?_
  refine q_sld hC hX hB.2.1 dL_law_865 866 rfl ?_
  refine r_callI hC (go_V (q := (RX5, TX5, 26)) (As := [.int (xs (v3 + 1).toNatClampNeg)]) (rest := []) hC (ctX5_state (zl z) g M1 (xs (v3 + 1).toNatClampNeg) _ hF.f5 hw) 1 gL_law_X5_state rfl ⟨rfl, rfl⟩ hdL_X5_state ⟨Nat.le_of_ble_eq_true rfl, Nat.le_of_ble_eq_true rfl⟩ (obF52 hF.f5) rfl rfl rfl (Nat.le_of_ble_eq_true rfl) dL_law_866) 869 rfl (fun r2 M2 hw => ?_)
  have hw3 := hw.2
  refine q_pop hC dL_law_869 rfl 870 rfl ?_
  refine q_goto hC 1437 dL_law_870 (by decide) ?_
  exact kk _ hw3
set_option maxHeartbeats 4000000 in
theorem law_c23 {z : ZZ} {g : GG} {Qf : State → Prop} {M : MM} {b Ln : Nat} {xs : Nat → Int32} {v3 : Int32} (hC : CX z g cL_law 4 wsL_law RL room_1) (hF : full g) (hX : SX z g b Ln xs) (hB : inS v3 Ln) (hR : Rel M) (kk : ∀ M2, Rel M2 → XX z g Qf 4 1437 [(0, .ref b), (1, .ref (gA g 0)), (2, .ref (gA g 52)), (3, .int v3)] [] M2) : XX z g Qf 4 873 [(0, .ref b), (1, .ref (gA g 0)), (2, .ref (gA g 52)), (3, .int v3)] [] M := by
  refine q_aload_n hC dL_law_873 1 rfl 874 rfl ?_
  refine q_aload_n hC dL_law_874 0 rfl 875 rfl ?_
  refine q_iload_n hC dL_law_875 3 rfl 876 rfl ?_
  refine q_iconst (v := 1) hC dL_law_876 (by decide) 877 rfl ?_
  refine q_iadd hC dL_law_877 878 rfl ?_
  refine q_sld hC hX hB.2.1 dL_law_878 879 rfl ?_
  refine r_callI hC (go_V (q := (RX4, TX4, 12)) (As := [.int (xs (v3 + 1).toNatClampNeg)]) (rest := []) hC (ctX4_best (zl z) g M (xs (v3 + 1).toNatClampNeg) _ hF (L_best hR (xs (v3 + 1).toNatClampNeg))) 1 gL_law_X4_best rfl ⟨rfl, rfl⟩ hdL_X4_best ⟨Nat.le_of_ble_eq_true rfl, Nat.le_of_ble_eq_true rfl⟩ (obF0 hF) rfl rfl rfl (Nat.le_of_ble_eq_true rfl) dL_law_879) 882 rfl (fun r1 M1 hw => ?_)
  refine q_pop hC dL_law_882 rfl 883 rfl ?_
  refine q_aload_n hC dL_law_883 2 rfl 884 rfl ?_
  refine q_aload_n hC dL_law_884 0 rfl 885 rfl ?_
  refine q_iload_n hC dL_law_885 3 rfl 886 rfl ?_
  refine q_iconst (v := 1) hC dL_law_886 (by decide) 887 rfl ?_
  refine q_iadd hC dL_law_887 888 rfl ?_
  refine q_sld hC hX hB.2.1 dL_law_888 889 rfl ?_
  refine r_callI hC (go_V (q := (RX5, TX5, 26)) (As := [.int (xs (v3 + 1).toNatClampNeg)]) (rest := []) hC (ctX5_best (zl z) g M1 (xs (v3 + 1).toNatClampNeg) _ hF.f5 hw) 1 gL_law_X5_best rfl ⟨rfl, rfl⟩ hdL_X5_best ⟨Nat.le_of_ble_eq_true rfl, Nat.le_of_ble_eq_true rfl⟩ (obF52 hF.f5) rfl rfl rfl (Nat.le_of_ble_eq_true rfl) dL_law_889) 892 rfl (fun r2 M2 hw => ?_)
  have hw3 := hw.2
  refine q_pop hC dL_law_892 rfl 893 rfl ?_
  refine q_goto hC 1437 dL_law_893 (by decide) ?_
  exact kk _ hw3
set_option maxHeartbeats 4000000 in
theorem law_c24 {z : ZZ} {g : GG} {Qf : State → Prop} {M : MM} {b Ln : Nat} {xs : Nat → Int32} {v3 : Int32} (hC : CX z g cL_law 4 wsL_law RL room_1) (hF : full g) (hX : SX z g b Ln xs) (hB : inS v3 Ln) (hR : Rel M) (kk : ∀ M2, Rel M2 → XX z g Qf 4 1437 [(0, .ref b), (1, .ref (gA g 0)), (2, .ref (gA g 52)), (3, .int v3)] [] M2) : XX z g Qf 4 896 [(0, .ref b), (1, .ref (gA g 0)), (2, .ref (gA g 52)), (3, .int v3)] [] M := by
  refine q_aload_n hC dL_law_896 1 rfl 897 rfl ?_
  refine q_aload_n hC dL_law_897 0 rfl 898 rfl ?_
  refine q_iload_n hC dL_law_898 3 rfl 899 rfl ?_
  refine q_iconst (v := 1) hC dL_law_899 (by decide) 900 rfl ?_
  refine q_iadd hC dL_law_900 901 rfl ?_
  refine q_sld hC hX hB.2.1 dL_law_901 902 rfl ?_
  refine q_aload_n hC dL_law_902 0 rfl 903 rfl ?_
  refine q_iload_n hC dL_law_903 3 rfl 904 rfl ?_
  refine q_iconst (v := 2) hC dL_law_904 (by decide) 905 rfl ?_
  refine q_iadd hC dL_law_905 906 rfl ?_
  refine q_sld hC hX hB.2.2.1 dL_law_906 907 rfl ?_
  refine r_callI hC (go_V (q := (RX4, TX4, 12)) (As := [.int (xs (v3 + 1).toNatClampNeg), .int (xs (v3 + 2).toNatClampNeg)]) (rest := []) hC (ctX4_order (zl z) g M (xs (v3 + 1).toNatClampNeg) (xs (v3 + 2).toNatClampNeg) _ hF (L_order hR (xs (v3 + 1).toNatClampNeg) (xs (v3 + 2).toNatClampNeg))) 2 gL_law_X4_order rfl ⟨rfl, rfl⟩ hdL_X4_order ⟨Nat.le_of_ble_eq_true rfl, Nat.le_of_ble_eq_true rfl⟩ (obF0 hF) rfl rfl rfl (Nat.le_of_ble_eq_true rfl) dL_law_907) 910 rfl (fun r1 M1 hw => ?_)
  refine q_pop hC dL_law_910 rfl 911 rfl ?_
  refine q_aload_n hC dL_law_911 2 rfl 912 rfl ?_
  refine q_aload_n hC dL_law_912 0 rfl 913 rfl ?_
  refine q_iload_n hC dL_law_913 3 rfl 914 rfl ?_
  refine q_iconst (v := 1) hC dL_law_914 (by decide) 915 rfl ?_
  refine q_iadd hC dL_law_915 916 rfl ?_
  refine q_sld hC hX hB.2.1 dL_law_916 917 rfl ?_
  refine q_aload_n hC dL_law_917 0 rfl 918 rfl ?_
  refine q_iload_n hC dL_law_918 3 rfl 919 rfl ?_
  refine q_iconst (v := 2) hC dL_law_919 (by decide) 920 rfl ?_
  refine q_iadd hC dL_law_920 921 rfl ?_
  refine q_sld hC hX hB.2.2.1 dL_law_921 922 rfl ?_
  refine r_callI hC (go_V (q := (RX5, TX5, 26)) (As := [.int (xs (v3 + 1).toNatClampNeg), .int (xs (v3 + 2).toNatClampNeg)]) (rest := []) hC (ctX5_order (zl z) g M1 (xs (v3 + 1).toNatClampNeg) (xs (v3 + 2).toNatClampNeg) _ hF.f5 hw) 2 gL_law_X5_order rfl ⟨rfl, rfl⟩ hdL_X5_order ⟨Nat.le_of_ble_eq_true rfl, Nat.le_of_ble_eq_true rfl⟩ (obF52 hF.f5) rfl rfl rfl (Nat.le_of_ble_eq_true rfl) dL_law_922) 925 rfl (fun r2 M2 hw => ?_)
  have hw3 := hw.2
  refine q_pop hC dL_law_925 rfl 926 rfl ?_
  refine q_goto hC 1437 dL_law_926 (by decide) ?_
  exact kk _ hw3
set_option maxHeartbeats 4000000 in
theorem law_c25 {z : ZZ} {g : GG} {Qf : State → Prop} {M : MM} {b Ln : Nat} {xs : Nat → Int32} {v3 : Int32} (hC : CX z g cL_law 4 wsL_law RL room_1) (hF : full g) (hX : SX z g b Ln xs) (hB : inS v3 Ln) (hR : Rel M) (kk : ∀ M2, Rel M2 → XX z g Qf 4 1437 [(0, .ref b), (1, .ref (gA g 0)), (2, .ref (gA g 52)), (3, .int v3)] [] M2) : XX z g Qf 4 929 [(0, .ref b), (1, .ref (gA g 0)), (2, .ref (gA g 52)), (3, .int v3)] [] M := by
  refine q_aload_n hC dL_law_929 1 rfl 930 rfl ?_
  refine q_aload_n hC dL_law_930 0 rfl 931 rfl ?_
  refine q_iload_n hC dL_law_931 3 rfl 932 rfl ?_
  refine q_iconst (v := 1) hC dL_law_932 (by decide) 933 rfl ?_
  refine q_iadd hC dL_law_933 934 rfl ?_
  refine q_sld hC hX hB.2.1 dL_law_934 935 rfl ?_
  refine r_callI hC (go_V (q := (RX4, TX4, 12)) (As := [.int (xs (v3 + 1).toNatClampNeg)]) (rest := []) hC (ctX4_reads (zl z) g M (xs (v3 + 1).toNatClampNeg) _ hF (L_reads hR (xs (v3 + 1).toNatClampNeg))) 1 gL_law_X4_reads rfl ⟨rfl, rfl⟩ hdL_X4_reads ⟨Nat.le_of_ble_eq_true rfl, Nat.le_of_ble_eq_true rfl⟩ (obF0 hF) rfl rfl rfl (Nat.le_of_ble_eq_true rfl) dL_law_935) 938 rfl (fun r1 M1 hw => ?_)
  refine q_pop hC dL_law_938 rfl 939 rfl ?_
  refine q_aload_n hC dL_law_939 2 rfl 940 rfl ?_
  refine q_aload_n hC dL_law_940 0 rfl 941 rfl ?_
  refine q_iload_n hC dL_law_941 3 rfl 942 rfl ?_
  refine q_iconst (v := 1) hC dL_law_942 (by decide) 943 rfl ?_
  refine q_iadd hC dL_law_943 944 rfl ?_
  refine q_sld hC hX hB.2.1 dL_law_944 945 rfl ?_
  refine r_callI hC (go_V (q := (RX5, TX5, 26)) (As := [.int (xs (v3 + 1).toNatClampNeg)]) (rest := []) hC (ctX5_reads (zl z) g M1 (xs (v3 + 1).toNatClampNeg) _ hF.f5 hw) 1 gL_law_X5_reads rfl ⟨rfl, rfl⟩ hdL_X5_reads ⟨Nat.le_of_ble_eq_true rfl, Nat.le_of_ble_eq_true rfl⟩ (obF52 hF.f5) rfl rfl rfl (Nat.le_of_ble_eq_true rfl) dL_law_945) 948 rfl (fun r2 M2 hw => ?_)
  have hw3 := hw.2
  refine q_pop hC dL_law_948 rfl 949 rfl ?_
  refine q_goto hC 1437 dL_law_949 (by decide) ?_
  exact kk _ hw3
set_option maxHeartbeats 4000000 in
theorem law_c26 {z : ZZ} {g : GG} {Qf : State → Prop} {M : MM} {b Ln : Nat} {xs : Nat → Int32} {v3 : Int32} (hC : CX z g cL_law 4 wsL_law RL room_1) (hF : full g) (hX : SX z g b Ln xs) (hB : inS v3 Ln) (hR : Rel M) (kk : ∀ M2, Rel M2 → XX z g Qf 4 1437 [(0, .ref b), (1, .ref (gA g 0)), (2, .ref (gA g 52)), (3, .int v3)] [] M2) : XX z g Qf 4 952 [(0, .ref b), (1, .ref (gA g 0)), (2, .ref (gA g 52)), (3, .int v3)] [] M := by
  refine q_aload_n hC dL_law_952 1 rfl 953 rfl ?_
  refine q_aload_n hC dL_law_953 0 rfl 954 rfl ?_
  refine q_iload_n hC dL_law_954 3 rfl 955 rfl ?_
  refine q_iconst (v := 1) hC dL_law_955 (by decide) 956 rfl ?_
  refine q_iadd hC dL_law_956 957 rfl ?_
  refine q_sld hC hX hB.2.1 dL_law_957 958 rfl ?_
  refine q_aload_n hC dL_law_958 0 rfl 959 rfl ?_
  refine q_iload_n hC dL_law_959 3 rfl 960 rfl ?_
  refine q_iconst (v := 2) hC dL_law_960 (by decide) 961 rfl ?_
  refine q_iadd hC dL_law_961 962 rfl ?_
  refine q_sld hC hX hB.2.2.1 dL_law_962 963 rfl ?_
  refine r_callI hC (go_V (q := (RX4, TX4, 12)) (As := [.int (xs (v3 + 1).toNatClampNeg), .int (xs (v3 + 2).toNatClampNeg)]) (rest := []) hC (ctX4_cut (zl z) g M (xs (v3 + 1).toNatClampNeg) (xs (v3 + 2).toNatClampNeg) _ hF (L_cut hR (xs (v3 + 1).toNatClampNeg) (xs (v3 + 2).toNatClampNeg))) 2 gL_law_X4_cut rfl ⟨rfl, rfl⟩ hdL_X4_cut ⟨Nat.le_of_ble_eq_true rfl, Nat.le_of_ble_eq_true rfl⟩ (obF0 hF) rfl rfl rfl (Nat.le_of_ble_eq_true rfl) dL_law_963) 966 rfl (fun r1 M1 hw => ?_)
  refine q_pop hC dL_law_966 rfl 967 rfl ?_
  refine q_aload_n hC dL_law_967 2 rfl 968 rfl ?_
  refine q_aload_n hC dL_law_968 0 rfl 969 rfl ?_
  refine q_iload_n hC dL_law_969 3 rfl 970 rfl ?_
  refine q_iconst (v := 1) hC dL_law_970 (by decide) 971 rfl ?_
  refine q_iadd hC dL_law_971 972 rfl ?_
  refine q_sld hC hX hB.2.1 dL_law_972 973 rfl ?_
  refine q_aload_n hC dL_law_973 0 rfl 974 rfl ?_
  refine q_iload_n hC dL_law_974 3 rfl 975 rfl ?_
  refine q_iconst (v := 2) hC dL_law_975 (by decide) 976 rfl ?_
  refine q_iadd hC dL_law_976 977 rfl ?_
  refine q_sld hC hX hB.2.2.1 dL_law_977 978 rfl ?_
  refine r_callI hC (go_V (q := (RX5, TX5, 26)) (As := [.int (xs (v3 + 1).toNatClampNeg), .int (xs (v3 + 2).toNatClampNeg)]) (rest := []) hC (ctX5_cut (zl z) g M1 (xs (v3 + 1).toNatClampNeg) (xs (v3 + 2).toNatClampNeg) _ hF.f5 hw) 2 gL_law_X5_cut rfl ⟨rfl, rfl⟩ hdL_X5_cut ⟨Nat.le_of_ble_eq_true rfl, Nat.le_of_ble_eq_true rfl⟩ (obF52 hF.f5) rfl rfl rfl (Nat.le_of_ble_eq_true rfl) dL_law_978) 981 rfl (fun r2 M2 hw => ?_)
  have hw3 := hw.2
  refine q_pop hC dL_law_981 rfl 982 rfl ?_
  refine q_goto hC 1437 dL_law_982 (by decide) ?_
  exact kk _ hw3
set_option maxHeartbeats 4000000 in
theorem law_c27 {z : ZZ} {g : GG} {Qf : State → Prop} {M : MM} {b Ln : Nat} {xs : Nat → Int32} {v3 : Int32} (hC : CX z g cL_law 4 wsL_law RL room_1) (hF : full g) (hX : SX z g b Ln xs) (hB : inS v3 Ln) (hR : Rel M) (kk : ∀ M2, Rel M2 → XX z g Qf 4 1437 [(0, .ref b), (1, .ref (gA g 0)), (2, .ref (gA g 52)), (3, .int v3)] [] M2) : XX z g Qf 4 985 [(0, .ref b), (1, .ref (gA g 0)), (2, .ref (gA g 52)), (3, .int v3)] [] M := by
  refine q_aload_n hC dL_law_985 1 rfl 986 rfl ?_
  refine q_aload_n hC dL_law_986 0 rfl 987 rfl ?_
  refine q_iload_n hC dL_law_987 3 rfl 988 rfl ?_
  refine q_iconst (v := 1) hC dL_law_988 (by decide) 989 rfl ?_
  refine q_iadd hC dL_law_989 990 rfl ?_
  refine q_sld hC hX hB.2.1 dL_law_990 991 rfl ?_
  refine r_callI hC (go_V (q := (RX4, TX4, 12)) (As := [.int (xs (v3 + 1).toNatClampNeg)]) (rest := []) hC (ctX4_holds (zl z) g M (xs (v3 + 1).toNatClampNeg) _ hF (L_holds hR (xs (v3 + 1).toNatClampNeg))) 1 gL_law_X4_holds rfl ⟨rfl, rfl⟩ hdL_X4_holds ⟨Nat.le_of_ble_eq_true rfl, Nat.le_of_ble_eq_true rfl⟩ (obF0 hF) rfl rfl rfl (Nat.le_of_ble_eq_true rfl) dL_law_991) 994 rfl (fun r1 M1 hw => ?_)
  refine q_pop hC dL_law_994 rfl 995 rfl ?_
  refine q_aload_n hC dL_law_995 2 rfl 996 rfl ?_
  refine q_aload_n hC dL_law_996 0 rfl 997 rfl ?_
  refine q_iload_n hC dL_law_997 3 rfl 998 rfl ?_
  refine q_iconst (v := 1) hC dL_law_998 (by decide) 999 rfl ?_
  refine q_iadd hC dL_law_999 1000 rfl ?_
  refine q_sld hC hX hB.2.1 dL_law_1000 1001 rfl ?_
  refine r_callI hC (go_V (q := (RX5, TX5, 26)) (As := [.int (xs (v3 + 1).toNatClampNeg)]) (rest := []) hC (ctX5_holds (zl z) g M1 (xs (v3 + 1).toNatClampNeg) _ hF.f5 hw) 1 gL_law_X5_holds rfl ⟨rfl, rfl⟩ hdL_X5_holds ⟨Nat.le_of_ble_eq_true rfl, Nat.le_of_ble_eq_true rfl⟩ (obF52 hF.f5) rfl rfl rfl (Nat.le_of_ble_eq_true rfl) dL_law_1001) 1004 rfl (fun r2 M2 hw => ?_)
  have hw3 := hw.2
  refine q_pop hC dL_law_1004 rfl 1005 rfl ?_
  refine q_goto hC 1437 dL_law_1005 (by decide) ?_
  exact kk _ hw3
set_option maxHeartbeats 4000000 in
theorem law_c28 {z : ZZ} {g : GG} {Qf : State → Prop} {M : MM} {b Ln : Nat} {xs : Nat → Int32} {v3 : Int32} (hC : CX z g cL_law 4 wsL_law RL room_1) (hF : full g) (hX : SX z g b Ln xs) (hB : inS v3 Ln) (hR : Rel M) (kk : ∀ M2, Rel M2 → XX z g Qf 4 1437 [(0, .ref b), (1, .ref (gA g 0)), (2, .ref (gA g 52)), (3, .int v3)] [] M2) : XX z g Qf 4 1008 [(0, .ref b), (1, .ref (gA g 0)), (2, .ref (gA g 52)), (3, .int v3)] [] M := by
  refine q_aload_n hC dL_law_1008 1 rfl 1009 rfl ?_
  refine q_aload_n hC dL_law_1009 0 rfl 1010 rfl ?_
  refine q_iload_n hC dL_law_1010 3 rfl 1011 rfl ?_
  refine q_iconst (v := 1) hC dL_law_1011 (by decide) 1012 rfl ?_
  refine q_iadd hC dL_law_1012 1013 rfl ?_
  refine q_sld hC hX hB.2.1 dL_law_1013 1014 rfl ?_
  refine r_callI hC (go_V (q := (RX4, TX4, 12)) (As := [.int (xs (v3 + 1).toNatClampNeg)]) (rest := []) hC (ctX4_most (zl z) g M (xs (v3 + 1).toNatClampNeg) _ hF (L_most hR (xs (v3 + 1).toNatClampNeg))) 1 gL_law_X4_most rfl ⟨rfl, rfl⟩ hdL_X4_most ⟨Nat.le_of_ble_eq_true rfl, Nat.le_of_ble_eq_true rfl⟩ (obF0 hF) rfl rfl rfl (Nat.le_of_ble_eq_true rfl) dL_law_1014) 1017 rfl (fun r1 M1 hw => ?_)
  refine q_pop hC dL_law_1017 rfl 1018 rfl ?_
  refine q_aload_n hC dL_law_1018 2 rfl 1019 rfl ?_
  refine q_aload_n hC dL_law_1019 0 rfl 1020 rfl ?_
  refine q_iload_n hC dL_law_1020 3 rfl 1021 rfl ?_
  refine q_iconst (v := 1) hC dL_law_1021 (by decide) 1022 rfl ?_
  refine q_iadd hC dL_law_1022 1023 rfl ?_
  refine q_sld hC hX hB.2.1 dL_law_1023 1024 rfl ?_
  refine r_callI hC (go_V (q := (RX5, TX5, 26)) (As := [.int (xs (v3 + 1).toNatClampNeg)]) (rest := []) hC (ctX5_most (zl z) g M1 (xs (v3 + 1).toNatClampNeg) _ hF.f5 hw) 1 gL_law_X5_most rfl ⟨rfl, rfl⟩ hdL_X5_most ⟨Nat.le_of_ble_eq_true rfl, Nat.le_of_ble_eq_true rfl⟩ (obF52 hF.f5) rfl rfl rfl (Nat.le_of_ble_eq_true rfl) dL_law_1024) 1027 rfl (fun r2 M2 hw => ?_)
  have hw3 := hw.2
  refine q_pop hC dL_law_1027 rfl 1028 rfl ?_
  refine q_goto hC 1437 dL_law_1028 (by decide) ?_
  exact kk _ hw3
set_option maxHeartbeats 4000000 in
theorem law_c29 {z : ZZ} {g : GG} {Qf : State → Prop} {M : MM} {b Ln : Nat} {xs : Nat → Int32} {v3 : Int32} (hC : CX z g cL_law 4 wsL_law RL room_1) (hF : full g) (hX : SX z g b Ln xs) (hB : inS v3 Ln) (hR : Rel M) (kk : ∀ M2, Rel M2 → XX z g Qf 4 1437 [(0, .ref b), (1, .ref (gA g 0)), (2, .ref (gA g 52)), (3, .int v3)] [] M2) : XX z g Qf 4 1031 [(0, .ref b), (1, .ref (gA g 0)), (2, .ref (gA g 52)), (3, .int v3)] [] M := by
  refine q_aload_n hC dL_law_1031 1 rfl 1032 rfl ?_
  refine q_aload_n hC dL_law_1032 0 rfl 1033 rfl ?_
  refine q_iload_n hC dL_law_1033 3 rfl 1034 rfl ?_
  refine q_iconst (v := 1) hC dL_law_1034 (by decide) 1035 rfl ?_
  refine q_iadd hC dL_law_1035 1036 rfl ?_
  refine q_sld hC hX hB.2.1 dL_law_1036 1037 rfl ?_
  refine q_aload_n hC dL_law_1037 0 rfl 1038 rfl ?_
  refine q_iload_n hC dL_law_1038 3 rfl 1039 rfl ?_
  refine q_iconst (v := 2) hC dL_law_1039 (by decide) 1040 rfl ?_
  refine q_iadd hC dL_law_1040 1041 rfl ?_
  refine q_sld hC hX hB.2.2.1 dL_law_1041 1042 rfl ?_
  refine q_aload_n hC dL_law_1042 0 rfl 1043 rfl ?_
  refine q_iload_n hC dL_law_1043 3 rfl 1044 rfl ?_
  refine q_iconst (v := 3) hC dL_law_1044 (by decide) 1045 rfl ?_
  refine q_iadd hC dL_law_1045 1046 rfl ?_
  refine q_sld hC hX hB.2.2.2.1 dL_law_1046 1047 rfl ?_
  refine q_aload_n hC dL_law_1047 0 rfl 1048 rfl ?_
  refine q_iload_n hC dL_law_1048 3 rfl 1049 rfl ?_
  refine q_iconst (v := 4) hC dL_law_1049 (by decide) 1050 rfl ?_
  refine q_iadd hC dL_law_1050 1051 rfl ?_
  refine q_sld hC hX hB.2.2.2.2.1 dL_law_1051 1052 rfl ?_
  refine q_aload_n hC dL_law_1052 0 rfl 1053 rfl ?_
  refine q_iload_n hC dL_law_1053 3 rfl 1054 rfl ?_
  refine q_iconst (v := 5) hC dL_law_1054 (by decide) 1055 rfl ?_
  refine q_iadd hC dL_law_1055 1056 rfl ?_
  refine q_sld hC hX hB.2.2.2.2.2 dL_law_1056 1057 rfl ?_
  refine r_callI hC (go_V (q := (RX4, TX4, 12)) (As := [.int (xs (v3 + 1).toNatClampNeg), .int (xs (v3 + 2).toNatClampNeg), .int (xs (v3 + 3).toNatClampNeg), .int (xs (v3 + 4).toNatClampNeg), .int (xs (v3 + 5).toNatClampNeg)]) (rest := []) hC (ctX4_stream (zl z) g M (xs (v3 + 1).toNatClampNeg) (xs (v3 + 2).toNatClampNeg) (xs (v3 + 3).toNatClampNeg) (xs (v3 + 4).toNatClampNeg) (xs (v3 + 5).toNatClampNeg) _ hF (L_stream hR (xs (v3 + 1).toNatClampNeg) (xs (v3 + 2).toNatClampNeg) (xs (v3 + 3).toNatClampNeg) (xs (v3 + 4).toNatClampNeg) (xs (v3 + 5).toNatClampNeg))) 5 gL_law_X4_stream rfl ⟨rfl, rfl⟩ hdL_X4_stream ⟨Nat.le_of_ble_eq_true rfl, Nat.le_of_ble_eq_true rfl⟩ (obF0 hF) rfl rfl rfl (Nat.le_of_ble_eq_true rfl) dL_law_1057) 1060 rfl (fun r1 M1 hw => ?_)
  refine q_pop hC dL_law_1060 rfl 1061 rfl ?_
  refine q_aload_n hC dL_law_1061 2 rfl 1062 rfl ?_
  refine q_aload_n hC dL_law_1062 0 rfl 1063 rfl ?_
  refine q_iload_n hC dL_law_1063 3 rfl 1064 rfl ?_
  refine q_iconst (v := 1) hC dL_law_1064 (by decide) 1065 rfl ?_
  refine q_iadd hC dL_law_1065 1066 rfl ?_
  refine q_sld hC hX hB.2.1 dL_law_1066 1067 rfl ?_
  refine q_aload_n hC dL_law_1067 0 rfl 1068 rfl ?_
  refine q_iload_n hC dL_law_1068 3 rfl 1069 rfl ?_
  refine q_iconst (v := 2) hC dL_law_1069 (by decide) 1070 rfl ?_
  refine q_iadd hC dL_law_1070 1071 rfl ?_
  refine q_sld hC hX hB.2.2.1 dL_law_1071 1072 rfl ?_
  refine q_aload_n hC dL_law_1072 0 rfl 1073 rfl ?_
  refine q_iload_n hC dL_law_1073 3 rfl 1074 rfl ?_
  refine q_iconst (v := 3) hC dL_law_1074 (by decide) 1075 rfl ?_
  refine q_iadd hC dL_law_1075 1076 rfl ?_
  refine q_sld hC hX hB.2.2.2.1 dL_law_1076 1077 rfl ?_
  refine q_aload_n hC dL_law_1077 0 rfl 1078 rfl ?_
  refine q_iload_n hC dL_law_1078 3 rfl 1079 rfl ?_
  refine q_iconst (v := 4) hC dL_law_1079 (by decide) 1080 rfl ?_
  refine q_iadd hC dL_law_1080 1081 rfl ?_
  refine q_sld hC hX hB.2.2.2.2.1 dL_law_1081 1082 rfl ?_
  refine q_aload_n hC dL_law_1082 0 rfl 1083 rfl ?_
  refine q_iload_n hC dL_law_1083 3 rfl 1084 rfl ?_
  refine q_iconst (v := 5) hC dL_law_1084 (by decide) 1085 rfl ?_
  refine q_iadd hC dL_law_1085 1086 rfl ?_
  refine q_sld hC hX hB.2.2.2.2.2 dL_law_1086 1087 rfl ?_
  refine r_callI hC (go_V (q := (RX5, TX5, 26)) (As := [.int (xs (v3 + 1).toNatClampNeg), .int (xs (v3 + 2).toNatClampNeg), .int (xs (v3 + 3).toNatClampNeg), .int (xs (v3 + 4).toNatClampNeg), .int (xs (v3 + 5).toNatClampNeg)]) (rest := []) hC (ctX5_stream (zl z) g M1 (xs (v3 + 1).toNatClampNeg) (xs (v3 + 2).toNatClampNeg) (xs (v3 + 3).toNatClampNeg) (xs (v3 + 4).toNatClampNeg) (xs (v3 + 5).toNatClampNeg) _ hF.f5 hw) 5 gL_law_X5_stream rfl ⟨rfl, rfl⟩ hdL_X5_stream ⟨Nat.le_of_ble_eq_true rfl, Nat.le_of_ble_eq_true rfl⟩ (obF52 hF.f5) rfl rfl rfl (Nat.le_of_ble_eq_true rfl) dL_law_1087) 1090 rfl (fun r2 M2 hw => ?_)
  have hw3 := hw.2
  refine q_pop hC dL_law_1090 rfl 1091 rfl ?_
  refine q_goto hC 1437 dL_law_1091 (by decide) ?_
  exact kk _ hw3
set_option maxHeartbeats 4000000 in
theorem law_c30 {z : ZZ} {g : GG} {Qf : State → Prop} {M : MM} {b Ln : Nat} {xs : Nat → Int32} {v3 : Int32} (hC : CX z g cL_law 4 wsL_law RL room_1) (hF : full g) (hX : SX z g b Ln xs) (hB : inS v3 Ln) (hR : Rel M) (kk : ∀ M2, Rel M2 → XX z g Qf 4 1437 [(0, .ref b), (1, .ref (gA g 0)), (2, .ref (gA g 52)), (3, .int v3)] [] M2) : XX z g Qf 4 1094 [(0, .ref b), (1, .ref (gA g 0)), (2, .ref (gA g 52)), (3, .int v3)] [] M := by
  refine q_aload_n hC dL_law_1094 1 rfl 1095 rfl ?_
  refine q_aload_n hC dL_law_1095 0 rfl 1096 rfl ?_
  refine q_iload_n hC dL_law_1096 3 rfl 1097 rfl ?_
  refine q_iconst (v := 1) hC dL_law_1097 (by decide) 1098 rfl ?_
  refine q_iadd hC dL_law_1098 1099 rfl ?_
  refine q_sld hC hX hB.2.1 dL_law_1099 1100 rfl ?_
  refine q_aload_n hC dL_law_1100 0 rfl 1101 rfl ?_
  refine q_iload_n hC dL_law_1101 3 rfl 1102 rfl ?_
  refine q_iconst (v := 2) hC dL_law_1102 (by decide) 1103 rfl ?_
  refine q_iadd hC dL_law_1103 1104 rfl ?_
  refine q_sld hC hX hB.2.2.1 dL_law_1104 1105 rfl ?_
  refine q_aload_n hC dL_law_1105 0 rfl 1106 rfl ?_
  refine q_iload_n hC dL_law_1106 3 rfl 1107 rfl ?_
  refine q_iconst (v := 3) hC dL_law_1107 (by decide) 1108 rfl ?_
  refine q_iadd hC dL_law_1108 1109 rfl ?_
  refine q_sld hC hX hB.2.2.2.1 dL_law_1109 1110 rfl ?_
  refine q_aload_n hC dL_law_1110 0 rfl 1111 rfl ?_
  refine q_iload_n hC dL_law_1111 3 rfl 1112 rfl ?_
  refine q_iconst (v := 4) hC dL_law_1112 (by decide) 1113 rfl ?_
  refine q_iadd hC dL_law_1113 1114 rfl ?_
  refine q_sld hC hX hB.2.2.2.2.1 dL_law_1114 1115 rfl ?_
  refine r_callI hC (go_V (q := (RX4, TX4, 12)) (As := [.int (xs (v3 + 1).toNatClampNeg), .int (xs (v3 + 2).toNatClampNeg), .int (xs (v3 + 3).toNatClampNeg), .int (xs (v3 + 4).toNatClampNeg)]) (rest := []) hC (ctX4_buffer (zl z) g M (xs (v3 + 1).toNatClampNeg) (xs (v3 + 2).toNatClampNeg) (xs (v3 + 3).toNatClampNeg) (xs (v3 + 4).toNatClampNeg) _ hF (L_buffer hR (xs (v3 + 1).toNatClampNeg) (xs (v3 + 2).toNatClampNeg) (xs (v3 + 3).toNatClampNeg) (xs (v3 + 4).toNatClampNeg))) 4 gL_law_X4_buffer rfl ⟨rfl, rfl⟩ hdL_X4_buffer ⟨Nat.le_of_ble_eq_true rfl, Nat.le_of_ble_eq_true rfl⟩ (obF0 hF) rfl rfl rfl (Nat.le_of_ble_eq_true rfl) dL_law_1115) 1118 rfl (fun r1 M1 hw => ?_)
  refine q_pop hC dL_law_1118 rfl 1119 rfl ?_
  refine q_aload_n hC dL_law_1119 2 rfl 1120 rfl ?_
  refine q_aload_n hC dL_law_1120 0 rfl 1121 rfl ?_
  refine q_iload_n hC dL_law_1121 3 rfl 1122 rfl ?_
  refine q_iconst (v := 1) hC dL_law_1122 (by decide) 1123 rfl ?_
  refine q_iadd hC dL_law_1123 1124 rfl ?_
  refine q_sld hC hX hB.2.1 dL_law_1124 1125 rfl ?_
  refine q_aload_n hC dL_law_1125 0 rfl 1126 rfl ?_
  refine q_iload_n hC dL_law_1126 3 rfl 1127 rfl ?_
  refine q_iconst (v := 2) hC dL_law_1127 (by decide) 1128 rfl ?_
  refine q_iadd hC dL_law_1128 1129 rfl ?_
  refine q_sld hC hX hB.2.2.1 dL_law_1129 1130 rfl ?_
  refine q_aload_n hC dL_law_1130 0 rfl 1131 rfl ?_
  refine q_iload_n hC dL_law_1131 3 rfl 1132 rfl ?_
  refine q_iconst (v := 3) hC dL_law_1132 (by decide) 1133 rfl ?_
  refine q_iadd hC dL_law_1133 1134 rfl ?_
  refine q_sld hC hX hB.2.2.2.1 dL_law_1134 1135 rfl ?_
  refine q_aload_n hC dL_law_1135 0 rfl 1136 rfl ?_
  refine q_iload_n hC dL_law_1136 3 rfl 1137 rfl ?_
  refine q_iconst (v := 4) hC dL_law_1137 (by decide) 1138 rfl ?_
  refine q_iadd hC dL_law_1138 1139 rfl ?_
  refine q_sld hC hX hB.2.2.2.2.1 dL_law_1139 1140 rfl ?_
  refine r_callI hC (go_V (q := (RX5, TX5, 26)) (As := [.int (xs (v3 + 1).toNatClampNeg), .int (xs (v3 + 2).toNatClampNeg), .int (xs (v3 + 3).toNatClampNeg), .int (xs (v3 + 4).toNatClampNeg)]) (rest := []) hC (ctX5_buffer (zl z) g M1 (xs (v3 + 1).toNatClampNeg) (xs (v3 + 2).toNatClampNeg) (xs (v3 + 3).toNatClampNeg) (xs (v3 + 4).toNatClampNeg) _ hF.f5 hw) 4 gL_law_X5_buffer rfl ⟨rfl, rfl⟩ hdL_X5_buffer ⟨Nat.le_of_ble_eq_true rfl, Nat.le_of_ble_eq_true rfl⟩ (obF52 hF.f5) rfl rfl rfl (Nat.le_of_ble_eq_true rfl) dL_law_1140) 1143 rfl (fun r2 M2 hw => ?_)
  have hw3 := hw.2
  refine q_pop hC dL_law_1143 rfl 1144 rfl ?_
  refine q_goto hC 1437 dL_law_1144 (by decide) ?_
  exact kk _ hw3
set_option maxHeartbeats 4000000 in
theorem law_c31 {z : ZZ} {g : GG} {Qf : State → Prop} {M : MM} {b Ln : Nat} {xs : Nat → Int32} {v3 : Int32} (hC : CX z g cL_law 4 wsL_law RL room_1) (hF : full g) (hX : SX z g b Ln xs) (hB : inS v3 Ln) (hR : Rel M) (kk : ∀ M2, Rel M2 → XX z g Qf 4 1437 [(0, .ref b), (1, .ref (gA g 0)), (2, .ref (gA g 52)), (3, .int v3)] [] M2) : XX z g Qf 4 1147 [(0, .ref b), (1, .ref (gA g 0)), (2, .ref (gA g 52)), (3, .int v3)] [] M := by
  refine q_aload_n hC dL_law_1147 1 rfl 1148 rfl ?_
  refine q_aload_n hC dL_law_1148 0 rfl 1149 rfl ?_
  refine q_iload_n hC dL_law_1149 3 rfl 1150 rfl ?_
  refine q_iconst (v := 1) hC dL_law_1150 (by decide) 1151 rfl ?_
  refine q_iadd hC dL_law_1151 1152 rfl ?_
  refine q_sld hC hX hB.2.1 dL_law_1152 1153 rfl ?_
  refine q_aload_n hC dL_law_1153 0 rfl 1154 rfl ?_
  refine q_iload_n hC dL_law_1154 3 rfl 1155 rfl ?_
  refine q_iconst (v := 2) hC dL_law_1155 (by decide) 1156 rfl ?_
  refine q_iadd hC dL_law_1156 1157 rfl ?_
  refine q_sld hC hX hB.2.2.1 dL_law_1157 1158 rfl ?_
  refine r_callI hC (go_V (q := (RX4, TX4, 12)) (As := [.int (xs (v3 + 1).toNatClampNeg), .int (xs (v3 + 2).toNatClampNeg)]) (rest := []) hC (ctX4_saw (zl z) g M (xs (v3 + 1).toNatClampNeg) (xs (v3 + 2).toNatClampNeg) _ hF (L_saw hR (xs (v3 + 1).toNatClampNeg) (xs (v3 + 2).toNatClampNeg))) 2 gL_law_X4_saw rfl ⟨rfl, rfl⟩ hdL_X4_saw ⟨Nat.le_of_ble_eq_true rfl, Nat.le_of_ble_eq_true rfl⟩ (obF0 hF) rfl rfl rfl (Nat.le_of_ble_eq_true rfl) dL_law_1158) 1161 rfl (fun r1 M1 hw => ?_)
  refine q_pop hC dL_law_1161 rfl 1162 rfl ?_
  refine q_aload_n hC dL_law_1162 2 rfl 1163 rfl ?_
  refine q_aload_n hC dL_law_1163 0 rfl 1164 rfl ?_
  refine q_iload_n hC dL_law_1164 3 rfl 1165 rfl ?_
  refine q_iconst (v := 1) hC dL_law_1165 (by decide) 1166 rfl ?_
  refine q_iadd hC dL_law_1166 1167 rfl ?_
  refine q_sld hC hX hB.2.1 dL_law_1167 1168 rfl ?_
  refine q_aload_n hC dL_law_1168 0 rfl 1169 rfl ?_
  refine q_iload_n hC dL_law_1169 3 rfl 1170 rfl ?_
  refine q_iconst (v := 2) hC dL_law_1170 (by decide) 1171 rfl ?_
  refine q_iadd hC dL_law_1171 1172 rfl ?_
  refine q_sld hC hX hB.2.2.1 dL_law_1172 1173 rfl ?_
  refine r_callI hC (go_V (q := (RX5, TX5, 26)) (As := [.int (xs (v3 + 1).toNatClampNeg), .int (xs (v3 + 2).toNatClampNeg)]) (rest := []) hC (ctX5_saw (zl z) g M1 (xs (v3 + 1).toNatClampNeg) (xs (v3 + 2).toNatClampNeg) _ hF.f5 hw) 2 gL_law_X5_saw rfl ⟨rfl, rfl⟩ hdL_X5_saw ⟨Nat.le_of_ble_eq_true rfl, Nat.le_of_ble_eq_true rfl⟩ (obF52 hF.f5) rfl rfl rfl (Nat.le_of_ble_eq_true rfl) dL_law_1173) 1176 rfl (fun r2 M2 hw => ?_)
  have hw3 := hw.2
  refine q_pop hC dL_law_1176 rfl 1177 rfl ?_
  refine q_goto hC 1437 dL_law_1177 (by decide) ?_
  exact kk _ hw3
set_option maxHeartbeats 4000000 in
theorem law_c32 {z : ZZ} {g : GG} {Qf : State → Prop} {M : MM} {b Ln : Nat} {xs : Nat → Int32} {v3 : Int32} (hC : CX z g cL_law 4 wsL_law RL room_1) (hF : full g) (hX : SX z g b Ln xs) (hB : inS v3 Ln) (hR : Rel M) (kk : ∀ M2, Rel M2 → XX z g Qf 4 1437 [(0, .ref b), (1, .ref (gA g 0)), (2, .ref (gA g 52)), (3, .int v3)] [] M2) : XX z g Qf 4 1180 [(0, .ref b), (1, .ref (gA g 0)), (2, .ref (gA g 52)), (3, .int v3)] [] M := by
  refine q_aload_n hC dL_law_1180 1 rfl 1181 rfl ?_
  refine r_callI hC (go_V (q := (RX4, TX4, 12)) (As := []) (rest := []) hC (ctX4_forget (zl z) g M _ hF (L_forget hR)) 0 gL_law_X4_forget rfl ⟨rfl, rfl⟩ hdL_X4_forget ⟨Nat.le_of_ble_eq_true rfl, Nat.le_of_ble_eq_true rfl⟩ (obF0 hF) rfl rfl rfl (Nat.le_of_ble_eq_true rfl) dL_law_1181) 1184 rfl (fun r1 M1 hw => ?_)
  refine q_pop hC dL_law_1184 rfl 1185 rfl ?_
  refine q_aload_n hC dL_law_1185 2 rfl 1186 rfl ?_
  refine r_callI hC (go_V (q := (RX5, TX5, 26)) (As := []) (rest := []) hC (ctX5_forget (zl z) g M1 _ hF.f5 hw) 0 gL_law_X5_forget rfl ⟨rfl, rfl⟩ hdL_X5_forget ⟨Nat.le_of_ble_eq_true rfl, Nat.le_of_ble_eq_true rfl⟩ (obF52 hF.f5) rfl rfl rfl (Nat.le_of_ble_eq_true rfl) dL_law_1186) 1189 rfl (fun r2 M2 hw => ?_)
  have hw3 := hw.2
  refine q_pop hC dL_law_1189 rfl 1190 rfl ?_
  refine q_goto hC 1437 dL_law_1190 (by decide) ?_
  exact kk _ hw3
set_option maxHeartbeats 4000000 in
theorem law_c33 {z : ZZ} {g : GG} {Qf : State → Prop} {M : MM} {b Ln : Nat} {xs : Nat → Int32} {v3 : Int32} (hC : CX z g cL_law 4 wsL_law RL room_1) (hF : full g) (hX : SX z g b Ln xs) (hB : inS v3 Ln) (hR : Rel M) (kk : ∀ M2, Rel M2 → XX z g Qf 4 1437 [(0, .ref b), (1, .ref (gA g 0)), (2, .ref (gA g 52)), (3, .int v3)] [] M2) : XX z g Qf 4 1193 [(0, .ref b), (1, .ref (gA g 0)), (2, .ref (gA g 52)), (3, .int v3)] [] M := by
  refine q_aload_n hC dL_law_1193 1 rfl 1194 rfl ?_
  refine q_aload_n hC dL_law_1194 0 rfl 1195 rfl ?_
  refine q_iload_n hC dL_law_1195 3 rfl 1196 rfl ?_
  refine q_iconst (v := 1) hC dL_law_1196 (by decide) 1197 rfl ?_
  refine q_iadd hC dL_law_1197 1198 rfl ?_
  refine q_sld hC hX hB.2.1 dL_law_1198 1199 rfl ?_
  refine r_callI hC (go_V (q := (RX4, TX4, 12)) (As := [.int (xs (v3 + 1).toNatClampNeg)]) (rest := []) hC (ctX4_fits (zl z) g M (xs (v3 + 1).toNatClampNeg) _ hF (L_fits hR (xs (v3 + 1).toNatClampNeg))) 1 gL_law_X4_fits rfl ⟨rfl, rfl⟩ hdL_X4_fits ⟨Nat.le_of_ble_eq_true rfl, Nat.le_of_ble_eq_true rfl⟩ (obF0 hF) rfl rfl rfl (Nat.le_of_ble_eq_true rfl) dL_law_1199) 1202 rfl (fun r1 M1 hw => ?_)
  refine q_pop hC dL_law_1202 rfl 1203 rfl ?_
  refine q_aload_n hC dL_law_1203 2 rfl 1204 rfl ?_
  refine q_aload_n hC dL_law_1204 0 rfl 1205 rfl ?_
  refine q_iload_n hC dL_law_1205 3 rfl 1206 rfl ?_
  refine q_iconst (v := 1) hC dL_law_1206 (by decide) 1207 rfl ?_
  refine q_iadd hC dL_law_1207 1208 rfl ?_
  refine q_sld hC hX hB.2.1 dL_law_1208 1209 rfl ?_
  refine r_callI hC (go_V (q := (RX5, TX5, 26)) (As := [.int (xs (v3 + 1).toNatClampNeg)]) (rest := []) hC (ctX5_fits (zl z) g M1 (xs (v3 + 1).toNatClampNeg) _ hF.f5 hw) 1 gL_law_X5_fits rfl ⟨rfl, rfl⟩ hdL_X5_fits ⟨Nat.le_of_ble_eq_true rfl, Nat.le_of_ble_eq_true rfl⟩ (obF52 hF.f5) rfl rfl rfl (Nat.le_of_ble_eq_true rfl) dL_law_1209) 1212 rfl (fun r2 M2 hw => ?_)
  have hw3 := hw.2
  refine q_pop hC dL_law_1212 rfl 1213 rfl ?_
  refine q_goto hC 1437 dL_law_1213 (by decide) ?_
  exact kk _ hw3
set_option maxHeartbeats 4000000 in
theorem law_c34 {z : ZZ} {g : GG} {Qf : State → Prop} {M : MM} {b Ln : Nat} {xs : Nat → Int32} {v3 : Int32} (hC : CX z g cL_law 4 wsL_law RL room_1) (hF : full g) (hX : SX z g b Ln xs) (hB : inS v3 Ln) (hR : Rel M) (kk : ∀ M2, Rel M2 → XX z g Qf 4 1437 [(0, .ref b), (1, .ref (gA g 0)), (2, .ref (gA g 52)), (3, .int v3)] [] M2) : XX z g Qf 4 1216 [(0, .ref b), (1, .ref (gA g 0)), (2, .ref (gA g 52)), (3, .int v3)] [] M := by
  refine q_aload_n hC dL_law_1216 1 rfl 1217 rfl ?_
  refine q_aload_n hC dL_law_1217 0 rfl 1218 rfl ?_
  refine q_iload_n hC dL_law_1218 3 rfl 1219 rfl ?_
  refine q_iconst (v := 1) hC dL_law_1219 (by decide) 1220 rfl ?_
  refine q_iadd hC dL_law_1220 1221 rfl ?_
  refine q_sld hC hX hB.2.1 dL_law_1221 1222 rfl ?_
  refine r_callI hC (go_V (q := (RX4, TX4, 12)) (As := [.int (xs (v3 + 1).toNatClampNeg)]) (rest := []) hC (ctX4_keep (zl z) g M (xs (v3 + 1).toNatClampNeg) _ hF (L_keep hR (xs (v3 + 1).toNatClampNeg))) 1 gL_law_X4_keep rfl ⟨rfl, rfl⟩ hdL_X4_keep ⟨Nat.le_of_ble_eq_true rfl, Nat.le_of_ble_eq_true rfl⟩ (obF0 hF) rfl rfl rfl (Nat.le_of_ble_eq_true rfl) dL_law_1222) 1225 rfl (fun r1 M1 hw => ?_)
  refine q_pop hC dL_law_1225 rfl 1226 rfl ?_
  refine q_aload_n hC dL_law_1226 2 rfl 1227 rfl ?_
  refine q_aload_n hC dL_law_1227 0 rfl 1228 rfl ?_
  refine q_iload_n hC dL_law_1228 3 rfl 1229 rfl ?_
  refine q_iconst (v := 1) hC dL_law_1229 (by decide) 1230 rfl ?_
  refine q_iadd hC dL_law_1230 1231 rfl ?_
  refine q_sld hC hX hB.2.1 dL_law_1231 1232 rfl ?_
  refine r_callI hC (go_V (q := (RX5, TX5, 26)) (As := [.int (xs (v3 + 1).toNatClampNeg)]) (rest := []) hC (ctX5_keep (zl z) g M1 (xs (v3 + 1).toNatClampNeg) _ hF.f5 hw) 1 gL_law_X5_keep rfl ⟨rfl, rfl⟩ hdL_X5_keep ⟨Nat.le_of_ble_eq_true rfl, Nat.le_of_ble_eq_true rfl⟩ (obF52 hF.f5) rfl rfl rfl (Nat.le_of_ble_eq_true rfl) dL_law_1232) 1235 rfl (fun r2 M2 hw => ?_)
  have hw3 := hw.2
  refine q_pop hC dL_law_1235 rfl 1236 rfl ?_
  refine q_goto hC 1437 dL_law_1236 (by decide) ?_
  exact kk _ hw3
set_option maxHeartbeats 4000000 in
theorem law_c35 {z : ZZ} {g : GG} {Qf : State → Prop} {M : MM} {b Ln : Nat} {xs : Nat → Int32} {v3 : Int32} (hC : CX z g cL_law 4 wsL_law RL room_1) (hF : full g) (hX : SX z g b Ln xs) (hB : inS v3 Ln) (hR : Rel M) (kk : ∀ M2, Rel M2 → XX z g Qf 4 1437 [(0, .ref b), (1, .ref (gA g 0)), (2, .ref (gA g 52)), (3, .int v3)] [] M2) : XX z g Qf 4 1239 [(0, .ref b), (1, .ref (gA g 0)), (2, .ref (gA g 52)), (3, .int v3)] [] M := by
  refine q_aload_n hC dL_law_1239 1 rfl 1240 rfl ?_
  refine q_aload_n hC dL_law_1240 0 rfl 1241 rfl ?_
  refine q_iload_n hC dL_law_1241 3 rfl 1242 rfl ?_
  refine q_iconst (v := 1) hC dL_law_1242 (by decide) 1243 rfl ?_
  refine q_iadd hC dL_law_1243 1244 rfl ?_
  refine q_sld hC hX hB.2.1 dL_law_1244 1245 rfl ?_
  refine r_callI hC (go_V (q := (RX4, TX4, 12)) (As := [.int (xs (v3 + 1).toNatClampNeg)]) (rest := []) hC (ctX4_back (zl z) g M (xs (v3 + 1).toNatClampNeg) _ hF (L_back hR (xs (v3 + 1).toNatClampNeg))) 1 gL_law_X4_back rfl ⟨rfl, rfl⟩ hdL_X4_back ⟨Nat.le_of_ble_eq_true rfl, Nat.le_of_ble_eq_true rfl⟩ (obF0 hF) rfl rfl rfl (Nat.le_of_ble_eq_true rfl) dL_law_1245) 1248 rfl (fun r1 M1 hw => ?_)
  refine q_pop hC dL_law_1248 rfl 1249 rfl ?_
  refine q_aload_n hC dL_law_1249 2 rfl 1250 rfl ?_
  refine q_aload_n hC dL_law_1250 0 rfl 1251 rfl ?_
  refine q_iload_n hC dL_law_1251 3 rfl 1252 rfl ?_
  refine q_iconst (v := 1) hC dL_law_1252 (by decide) 1253 rfl ?_
  refine q_iadd hC dL_law_1253 1254 rfl ?_
  refine q_sld hC hX hB.2.1 dL_law_1254 1255 rfl ?_
  refine r_callI hC (go_V (q := (RX5, TX5, 26)) (As := [.int (xs (v3 + 1).toNatClampNeg)]) (rest := []) hC (ctX5_back (zl z) g M1 (xs (v3 + 1).toNatClampNeg) _ hF.f5 hw) 1 gL_law_X5_back rfl ⟨rfl, rfl⟩ hdL_X5_back ⟨Nat.le_of_ble_eq_true rfl, Nat.le_of_ble_eq_true rfl⟩ (obF52 hF.f5) rfl rfl rfl (Nat.le_of_ble_eq_true rfl) dL_law_1255) 1258 rfl (fun r2 M2 hw => ?_)
  have hw3 := hw.2
  refine q_pop hC dL_law_1258 rfl 1259 rfl ?_
  refine q_goto hC 1437 dL_law_1259 (by decide) ?_
  exact kk _ hw3
set_option maxHeartbeats 4000000 in
theorem law_c36 {z : ZZ} {g : GG} {Qf : State → Prop} {M : MM} {b Ln : Nat} {xs : Nat → Int32} {v3 : Int32} (hC : CX z g cL_law 4 wsL_law RL room_1) (hF : full g) (hX : SX z g b Ln xs) (hB : inS v3 Ln) (hR : Rel M) (kk : ∀ M2, Rel M2 → XX z g Qf 4 1437 [(0, .ref b), (1, .ref (gA g 0)), (2, .ref (gA g 52)), (3, .int v3)] [] M2) : XX z g Qf 4 1262 [(0, .ref b), (1, .ref (gA g 0)), (2, .ref (gA g 52)), (3, .int v3)] [] M := by
  refine q_aload_n hC dL_law_1262 1 rfl 1263 rfl ?_
  refine q_aload_n hC dL_law_1263 0 rfl 1264 rfl ?_
  refine q_iload_n hC dL_law_1264 3 rfl 1265 rfl ?_
  refine q_iconst (v := 1) hC dL_law_1265 (by decide) 1266 rfl ?_
  refine q_iadd hC dL_law_1266 1267 rfl ?_
  refine q_sld hC hX hB.2.1 dL_law_1267 1268 rfl ?_
  refine q_aload_n hC dL_law_1268 0 rfl 1269 rfl ?_
  refine q_iload_n hC dL_law_1269 3 rfl 1270 rfl ?_
  refine q_iconst (v := 2) hC dL_law_1270 (by decide) 1271 rfl ?_
  refine q_iadd hC dL_law_1271 1272 rfl ?_
  refine q_sld hC hX hB.2.2.1 dL_law_1272 1273 rfl ?_
  refine q_aload_n hC dL_law_1273 0 rfl 1274 rfl ?_
  refine q_iload_n hC dL_law_1274 3 rfl 1275 rfl ?_
  refine q_iconst (v := 3) hC dL_law_1275 (by decide) 1276 rfl ?_
  refine q_iadd hC dL_law_1276 1277 rfl ?_
  refine q_sld hC hX hB.2.2.2.1 dL_law_1277 1278 rfl ?_
  refine r_callI hC (go_V (q := (RX4, TX4, 12)) (As := [.int (xs (v3 + 1).toNatClampNeg), .int (xs (v3 + 2).toNatClampNeg), .int (xs (v3 + 3).toNatClampNeg)]) (rest := []) hC (ctX4_sheet (zl z) g M (xs (v3 + 1).toNatClampNeg) (xs (v3 + 2).toNatClampNeg) (xs (v3 + 3).toNatClampNeg) _ hF (L_sheet hR (xs (v3 + 1).toNatClampNeg) (xs (v3 + 2).toNatClampNeg) (xs (v3 + 3).toNatClampNeg))) 3 gL_law_X4_sheet rfl ⟨rfl, rfl⟩ hdL_X4_sheet ⟨Nat.le_of_ble_eq_true rfl, Nat.le_of_ble_eq_true rfl⟩ (obF0 hF) rfl rfl rfl (Nat.le_of_ble_eq_true rfl) dL_law_1278) 1281 rfl (fun r1 M1 hw => ?_)
  refine q_pop hC dL_law_1281 rfl 1282 rfl ?_
  refine q_aload_n hC dL_law_1282 2 rfl 1283 rfl ?_
  refine q_aload_n hC dL_law_1283 0 rfl 1284 rfl ?_
  refine q_iload_n hC dL_law_1284 3 rfl 1285 rfl ?_
  refine q_iconst (v := 1) hC dL_law_1285 (by decide) 1286 rfl ?_
  refine q_iadd hC dL_law_1286 1287 rfl ?_
  refine q_sld hC hX hB.2.1 dL_law_1287 1288 rfl ?_
  refine q_aload_n hC dL_law_1288 0 rfl 1289 rfl ?_
  refine q_iload_n hC dL_law_1289 3 rfl 1290 rfl ?_
  refine q_iconst (v := 2) hC dL_law_1290 (by decide) 1291 rfl ?_
  refine q_iadd hC dL_law_1291 1292 rfl ?_
  refine q_sld hC hX hB.2.2.1 dL_law_1292 1293 rfl ?_
  refine q_aload_n hC dL_law_1293 0 rfl 1294 rfl ?_
  refine q_iload_n hC dL_law_1294 3 rfl 1295 rfl ?_
  refine q_iconst (v := 3) hC dL_law_1295 (by decide) 1296 rfl ?_
  refine q_iadd hC dL_law_1296 1297 rfl ?_
  refine q_sld hC hX hB.2.2.2.1 dL_law_1297 1298 rfl ?_
  refine r_callI hC (go_V (q := (RX5, TX5, 26)) (As := [.int (xs (v3 + 1).toNatClampNeg), .int (xs (v3 + 2).toNatClampNeg), .int (xs (v3 + 3).toNatClampNeg)]) (rest := []) hC (ctX5_sheet (zl z) g M1 (xs (v3 + 1).toNatClampNeg) (xs (v3 + 2).toNatClampNeg) (xs (v3 + 3).toNatClampNeg) _ hF.f5 hw) 3 gL_law_X5_sheet rfl ⟨rfl, rfl⟩ hdL_X5_sheet ⟨Nat.le_of_ble_eq_true rfl, Nat.le_of_ble_eq_true rfl⟩ (obF52 hF.f5) rfl rfl rfl (Nat.le_of_ble_eq_true rfl) dL_law_1298) 1301 rfl (fun r2 M2 hw => ?_)
  have hw3 := hw.2
  refine q_pop hC dL_law_1301 rfl 1302 rfl ?_
  refine q_goto hC 1437 dL_law_1302 (by decide) ?_
  exact kk _ hw3
set_option maxHeartbeats 4000000 in
theorem law_c37 {z : ZZ} {g : GG} {Qf : State → Prop} {M : MM} {b Ln : Nat} {xs : Nat → Int32} {v3 : Int32} (hC : CX z g cL_law 4 wsL_law RL room_1) (hF : full g) (hX : SX z g b Ln xs) (hB : inS v3 Ln) (hR : Rel M) (kk : ∀ M2, Rel M2 → XX z g Qf 4 1437 [(0, .ref b), (1, .ref (gA g 0)), (2, .ref (gA g 52)), (3, .int v3)] [] M2) : XX z g Qf 4 1305 [(0, .ref b), (1, .ref (gA g 0)), (2, .ref (gA g 52)), (3, .int v3)] [] M := by
  refine q_aload_n hC dL_law_1305 1 rfl 1306 rfl ?_
  refine q_aload_n hC dL_law_1306 0 rfl 1307 rfl ?_
  refine q_iload_n hC dL_law_1307 3 rfl 1308 rfl ?_
  refine q_iconst (v := 1) hC dL_law_1308 (by decide) 1309 rfl ?_
  refine q_iadd hC dL_law_1309 1310 rfl ?_
  refine q_sld hC hX hB.2.1 dL_law_1310 1311 rfl ?_
  refine q_aload_n hC dL_law_1311 0 rfl 1312 rfl ?_
  refine q_iload_n hC dL_law_1312 3 rfl 1313 rfl ?_
  refine q_iconst (v := 2) hC dL_law_1313 (by decide) 1314 rfl ?_
  refine q_iadd hC dL_law_1314 1315 rfl ?_
  refine q_sld hC hX hB.2.2.1 dL_law_1315 1316 rfl ?_
  refine q_aload_n hC dL_law_1316 0 rfl 1317 rfl ?_
  refine q_iload_n hC dL_law_1317 3 rfl 1318 rfl ?_
  refine q_iconst (v := 3) hC dL_law_1318 (by decide) 1319 rfl ?_
  refine q_iadd hC dL_law_1319 1320 rfl ?_
  refine q_sld hC hX hB.2.2.2.1 dL_law_1320 1321 rfl ?_
  refine r_callI hC (go_V (q := (RX4, TX4, 12)) (As := [.int (xs (v3 + 1).toNatClampNeg), .int (xs (v3 + 2).toNatClampNeg), .int (xs (v3 + 3).toNatClampNeg)]) (rest := []) hC (ctX4_lay (zl z) g M (xs (v3 + 1).toNatClampNeg) (xs (v3 + 2).toNatClampNeg) (xs (v3 + 3).toNatClampNeg) _ hF (L_lay hR (xs (v3 + 1).toNatClampNeg) (xs (v3 + 2).toNatClampNeg) (xs (v3 + 3).toNatClampNeg))) 3 gL_law_X4_lay rfl ⟨rfl, rfl⟩ hdL_X4_lay ⟨Nat.le_of_ble_eq_true rfl, Nat.le_of_ble_eq_true rfl⟩ (obF0 hF) rfl rfl rfl (Nat.le_of_ble_eq_true rfl) dL_law_1321) 1324 rfl (fun r1 M1 hw => ?_)
  refine q_pop hC dL_law_1324 rfl 1325 rfl ?_
  refine q_aload_n hC dL_law_1325 2 rfl 1326 rfl ?_
  refine q_aload_n hC dL_law_1326 0 rfl 1327 rfl ?_
  refine q_iload_n hC dL_law_1327 3 rfl 1328 rfl ?_
  refine q_iconst (v := 1) hC dL_law_1328 (by decide) 1329 rfl ?_
  refine q_iadd hC dL_law_1329 1330 rfl ?_
  refine q_sld hC hX hB.2.1 dL_law_1330 1331 rfl ?_
  refine q_aload_n hC dL_law_1331 0 rfl 1332 rfl ?_
  refine q_iload_n hC dL_law_1332 3 rfl 1333 rfl ?_
  refine q_iconst (v := 2) hC dL_law_1333 (by decide) 1334 rfl ?_
  refine q_iadd hC dL_law_1334 1335 rfl ?_
  refine q_sld hC hX hB.2.2.1 dL_law_1335 1336 rfl ?_
  refine q_aload_n hC dL_law_1336 0 rfl 1337 rfl ?_
  refine q_iload_n hC dL_law_1337 3 rfl 1338 rfl ?_
  refine q_iconst (v := 3) hC dL_law_1338 (by decide) 1339 rfl ?_
  refine q_iadd hC dL_law_1339 1340 rfl ?_
  refine q_sld hC hX hB.2.2.2.1 dL_law_1340 1341 rfl ?_
  refine r_callI hC (go_V (q := (RX5, TX5, 26)) (As := [.int (xs (v3 + 1).toNatClampNeg), .int (xs (v3 + 2).toNatClampNeg), .int (xs (v3 + 3).toNatClampNeg)]) (rest := []) hC (ctX5_lay (zl z) g M1 (xs (v3 + 1).toNatClampNeg) (xs (v3 + 2).toNatClampNeg) (xs (v3 + 3).toNatClampNeg) _ hF.f5 hw) 3 gL_law_X5_lay rfl ⟨rfl, rfl⟩ hdL_X5_lay ⟨Nat.le_of_ble_eq_true rfl, Nat.le_of_ble_eq_true rfl⟩ (obF52 hF.f5) rfl rfl rfl (Nat.le_of_ble_eq_true rfl) dL_law_1341) 1344 rfl (fun r2 M2 hw => ?_)
  have hw3 := hw.2
  refine q_pop hC dL_law_1344 rfl 1345 rfl ?_
  refine q_goto hC 1437 dL_law_1345 (by decide) ?_
  exact kk _ hw3
set_option maxHeartbeats 4000000 in
theorem law_c38 {z : ZZ} {g : GG} {Qf : State → Prop} {M : MM} {b Ln : Nat} {xs : Nat → Int32} {v3 : Int32} (hC : CX z g cL_law 4 wsL_law RL room_1) (hF : full g) (hX : SX z g b Ln xs) (hB : inS v3 Ln) (hR : Rel M) (kk : ∀ M2, Rel M2 → XX z g Qf 4 1437 [(0, .ref b), (1, .ref (gA g 0)), (2, .ref (gA g 52)), (3, .int v3)] [] M2) : XX z g Qf 4 1348 [(0, .ref b), (1, .ref (gA g 0)), (2, .ref (gA g 52)), (3, .int v3)] [] M := by
  refine q_aload_n hC dL_law_1348 1 rfl 1349 rfl ?_
  refine q_aload_n hC dL_law_1349 0 rfl 1350 rfl ?_
  refine q_iload_n hC dL_law_1350 3 rfl 1351 rfl ?_
  refine q_iconst (v := 1) hC dL_law_1351 (by decide) 1352 rfl ?_
  refine q_iadd hC dL_law_1352 1353 rfl ?_
  refine q_sld hC hX hB.2.1 dL_law_1353 1354 rfl ?_
  refine q_aload_n hC dL_law_1354 0 rfl 1355 rfl ?_
  refine q_iload_n hC dL_law_1355 3 rfl 1356 rfl ?_
  refine q_iconst (v := 2) hC dL_law_1356 (by decide) 1357 rfl ?_
  refine q_iadd hC dL_law_1357 1358 rfl ?_
  refine q_sld hC hX hB.2.2.1 dL_law_1358 1359 rfl ?_
  refine q_aload_n hC dL_law_1359 0 rfl 1360 rfl ?_
  refine q_iload_n hC dL_law_1360 3 rfl 1361 rfl ?_
  refine q_iconst (v := 3) hC dL_law_1361 (by decide) 1362 rfl ?_
  refine q_iadd hC dL_law_1362 1363 rfl ?_
  refine q_sld hC hX hB.2.2.2.1 dL_law_1363 1364 rfl ?_
  refine q_aload_n hC dL_law_1364 0 rfl 1365 rfl ?_
  refine q_iload_n hC dL_law_1365 3 rfl 1366 rfl ?_
  refine q_iconst (v := 4) hC dL_law_1366 (by decide) 1367 rfl ?_
  refine q_iadd hC dL_law_1367 1368 rfl ?_
  refine q_sld hC hX hB.2.2.2.2.1 dL_law_1368 1369 rfl ?_
  refine r_callI hC (go_V (q := (RX4, TX4, 12)) (As := [.int (xs (v3 + 1).toNatClampNeg), .int (xs (v3 + 2).toNatClampNeg), .int (xs (v3 + 3).toNatClampNeg), .int (xs (v3 + 4).toNatClampNeg)]) (rest := []) hC (ctX4_read (zl z) g M (xs (v3 + 1).toNatClampNeg) (xs (v3 + 2).toNatClampNeg) (xs (v3 + 3).toNatClampNeg) (xs (v3 + 4).toNatClampNeg) _ hF (L_read hR (xs (v3 + 1).toNatClampNeg) (xs (v3 + 2).toNatClampNeg) (xs (v3 + 3).toNatClampNeg) (xs (v3 + 4).toNatClampNeg))) 4 gL_law_X4_read rfl ⟨rfl, rfl⟩ hdL_X4_read ⟨Nat.le_of_ble_eq_true rfl, Nat.le_of_ble_eq_true rfl⟩ (obF0 hF) rfl rfl rfl (Nat.le_of_ble_eq_true rfl) dL_law_1369) 1372 rfl (fun r1 M1 hw => ?_)
  refine q_pop hC dL_law_1372 rfl 1373 rfl ?_
  refine q_aload_n hC dL_law_1373 2 rfl 1374 rfl ?_
  refine q_aload_n hC dL_law_1374 0 rfl 1375 rfl ?_
  refine q_iload_n hC dL_law_1375 3 rfl 1376 rfl ?_
  refine q_iconst (v := 1) hC dL_law_1376 (by decide) 1377 rfl ?_
  refine q_iadd hC dL_law_1377 1378 rfl ?_
  refine q_sld hC hX hB.2.1 dL_law_1378 1379 rfl ?_
  refine q_aload_n hC dL_law_1379 0 rfl 1380 rfl ?_
  refine q_iload_n hC dL_law_1380 3 rfl 1381 rfl ?_
  refine q_iconst (v := 2) hC dL_law_1381 (by decide) 1382 rfl ?_
  refine q_iadd hC dL_law_1382 1383 rfl ?_
  refine q_sld hC hX hB.2.2.1 dL_law_1383 1384 rfl ?_
  refine q_aload_n hC dL_law_1384 0 rfl 1385 rfl ?_
  refine q_iload_n hC dL_law_1385 3 rfl 1386 rfl ?_
  refine q_iconst (v := 3) hC dL_law_1386 (by decide) 1387 rfl ?_
  refine q_iadd hC dL_law_1387 1388 rfl ?_
  refine q_sld hC hX hB.2.2.2.1 dL_law_1388 1389 rfl ?_
  refine q_aload_n hC dL_law_1389 0 rfl 1390 rfl ?_
  refine q_iload_n hC dL_law_1390 3 rfl 1391 rfl ?_
  refine q_iconst (v := 4) hC dL_law_1391 (by decide) 1392 rfl ?_
  refine q_iadd hC dL_law_1392 1393 rfl ?_
  refine q_sld hC hX hB.2.2.2.2.1 dL_law_1393 1394 rfl ?_
  refine r_callI hC (go_V (q := (RX5, TX5, 26)) (As := [.int (xs (v3 + 1).toNatClampNeg), .int (xs (v3 + 2).toNatClampNeg), .int (xs (v3 + 3).toNatClampNeg), .int (xs (v3 + 4).toNatClampNeg)]) (rest := []) hC (ctX5_read (zl z) g M1 (xs (v3 + 1).toNatClampNeg) (xs (v3 + 2).toNatClampNeg) (xs (v3 + 3).toNatClampNeg) (xs (v3 + 4).toNatClampNeg) _ hF.f5 hw) 4 gL_law_X5_read rfl ⟨rfl, rfl⟩ hdL_X5_read ⟨Nat.le_of_ble_eq_true rfl, Nat.le_of_ble_eq_true rfl⟩ (obF52 hF.f5) rfl rfl rfl (Nat.le_of_ble_eq_true rfl) dL_law_1394) 1397 rfl (fun r2 M2 hw => ?_)
  have hw3 := hw.2
  refine q_pop hC dL_law_1397 rfl 1398 rfl ?_
  refine q_goto hC 1437 dL_law_1398 (by decide) ?_
  exact kk _ hw3
set_option maxHeartbeats 4000000 in
theorem law_c39 {z : ZZ} {g : GG} {Qf : State → Prop} {M : MM} {b Ln : Nat} {xs : Nat → Int32} {v3 : Int32} (hC : CX z g cL_law 4 wsL_law RL room_1) (hF : full g) (hX : SX z g b Ln xs) (hB : inS v3 Ln) (hR : Rel M) (kk : ∀ M2, Rel M2 → XX z g Qf 4 1437 [(0, .ref b), (1, .ref (gA g 0)), (2, .ref (gA g 52)), (3, .int v3)] [] M2) : XX z g Qf 4 1401 [(0, .ref b), (1, .ref (gA g 0)), (2, .ref (gA g 52)), (3, .int v3)] [] M := by
  refine q_aload_n hC dL_law_1401 1 rfl 1402 rfl ?_
  refine r_callI hC (go_V (q := (RX4, TX4, 12)) (As := []) (rest := []) hC (ctX4_torn (zl z) g M _ hF (L_torn hR)) 0 gL_law_X4_torn rfl ⟨rfl, rfl⟩ hdL_X4_torn ⟨Nat.le_of_ble_eq_true rfl, Nat.le_of_ble_eq_true rfl⟩ (obF0 hF) rfl rfl rfl (Nat.le_of_ble_eq_true rfl) dL_law_1402) 1405 rfl (fun r1 M1 hw => ?_)
  refine q_pop hC dL_law_1405 rfl 1406 rfl ?_
  refine q_aload_n hC dL_law_1406 2 rfl 1407 rfl ?_
  refine r_callI hC (go_V (q := (RX5, TX5, 26)) (As := []) (rest := []) hC (ctX5_torn (zl z) g M1 _ hF.f5 hw) 0 gL_law_X5_torn rfl ⟨rfl, rfl⟩ hdL_X5_torn ⟨Nat.le_of_ble_eq_true rfl, Nat.le_of_ble_eq_true rfl⟩ (obF52 hF.f5) rfl rfl rfl (Nat.le_of_ble_eq_true rfl) dL_law_1407) 1410 rfl (fun r2 M2 hw => ?_)
  have hw3 := hw.2
  refine q_pop hC dL_law_1410 rfl 1411 rfl ?_
  refine q_goto hC 1437 dL_law_1411 (by decide) ?_
  exact kk _ hw3
set_option maxHeartbeats 4000000 in
theorem law_c40 {z : ZZ} {g : GG} {Qf : State → Prop} {M : MM} {b Ln : Nat} {xs : Nat → Int32} {v3 : Int32} (hC : CX z g cL_law 4 wsL_law RL room_1) (hF : full g) (hX : SX z g b Ln xs) (hB : inS v3 Ln) (hR : Rel M) (kk : ∀ M2, Rel M2 → XX z g Qf 4 1437 [(0, .ref b), (1, .ref (gA g 0)), (2, .ref (gA g 52)), (3, .int v3)] [] M2) : XX z g Qf 4 1414 [(0, .ref b), (1, .ref (gA g 0)), (2, .ref (gA g 52)), (3, .int v3)] [] M := by
  refine q_aload_n hC dL_law_1414 1 rfl 1415 rfl ?_
  refine q_aload_n hC dL_law_1415 0 rfl 1416 rfl ?_
  refine q_iload_n hC dL_law_1416 3 rfl 1417 rfl ?_
  refine q_iconst (v := 1) hC dL_law_1417 (by decide) 1418 rfl ?_
  refine q_iadd hC dL_law_1418 1419 rfl ?_
  refine q_sld hC hX hB.2.1 dL_law_1419 1420 rfl ?_
  refine r_callI hC (go_V (q := (RX4, TX4, 12)) (As := [.int (xs (v3 + 1).toNatClampNeg)]) (rest := []) hC (ctX4_count (zl z) g M (xs (v3 + 1).toNatClampNeg) _ hF (L_count hR (xs (v3 + 1).toNatClampNeg))) 1 gL_law_X4_count rfl ⟨rfl, rfl⟩ hdL_X4_count ⟨Nat.le_of_ble_eq_true rfl, Nat.le_of_ble_eq_true rfl⟩ (obF0 hF) rfl rfl rfl (Nat.le_of_ble_eq_true rfl) dL_law_1420) 1423 rfl (fun r1 M1 hw => ?_)
  refine q_aload_n hC dL_law_1423 2 rfl 1424 rfl ?_
  refine q_aload_n hC dL_law_1424 0 rfl 1425 rfl ?_
  refine q_iload_n hC dL_law_1425 3 rfl 1426 rfl ?_
  refine q_iconst (v := 1) hC dL_law_1426 (by decide) 1427 rfl ?_
  refine q_iadd hC dL_law_1427 1428 rfl ?_
  refine q_sld hC hX hB.2.1 dL_law_1428 1429 rfl ?_
  refine r_callI hC (go_V (q := (RX5, TX5, 26)) (As := [.int (xs (v3 + 1).toNatClampNeg)]) (rest := [.int r1]) hC (ctX5_count (zl z) g M1 (xs (v3 + 1).toNatClampNeg) _ hF.f5 hw) 1 gL_law_X5_count rfl ⟨rfl, rfl⟩ hdL_X5_count ⟨Nat.le_of_ble_eq_true rfl, Nat.le_of_ble_eq_true rfl⟩ (obF52 hF.f5) rfl rfl rfl (Nat.le_of_ble_eq_true rfl) dL_law_1429) 1432 rfl (fun r2 M2 hw => ?_)
  have hw3 := hw.2
  refine q_icmp_eq (A := True) (B := False) hC 1437 dL_law_1432 (by decide) 1435 rfl ⟨fun _ => trivial, fun q => absurd hw.1 q⟩ (fun _ => ?_) (fun q => q.elim)
  exact kk _ hw3
set_option maxHeartbeats 4000000 in
theorem law_sw {z : ZZ} {g : GG} {Qf : State → Prop} {M : MM} {b Ln : Nat} {xs : Nat → Int32} {v3 : Int32} (hC : CX z g cL_law 4 wsL_law RL room_1) (hF : full g) (hX : SX z g b Ln xs) (hB : inS v3 Ln) (hR : Rel M) (kk : ∀ M2, Rel M2 → XX z g Qf 4 1437 [(0, .ref b), (1, .ref (gA g 0)), (2, .ref (gA g 52)), (3, .int v3)] [] M2) (x : Int32) : XX z g Qf 4 33 [(0, .ref b), (1, .ref (gA g 0)), (2, .ref (gA g 52)), (3, .int v3)] [.int x] M := by
  by_cases hp : (0 : Int32) ≤ x ∧ x ≤ nI 40
  · obtain ⟨k, hk, rfl⟩ := pl_of (by omega) hp
    match k, hk with
    | 0, _ => exact q_tabIn (off := 179) hC 212 dL_law_33 (by decide) (by decide) (by decide +kernel) (by decide) (law_c0 hC hF hX hB hR kk)
    | 1, _ => exact q_tabIn (off := 232) hC 265 dL_law_33 (by decide) (by decide) (by decide +kernel) (by decide) (law_c1 hC hF hX hB hR kk)
    | 2, _ => exact q_tabIn (off := 255) hC 288 dL_law_33 (by decide) (by decide) (by decide +kernel) (by decide) (law_c2 hC hF hX hB hR kk)
    | 3, _ => exact q_tabIn (off := 268) hC 301 dL_law_33 (by decide) (by decide) (by decide +kernel) (by decide) (law_c3 hC hF hX hB hR kk)
    | 4, _ => exact q_tabIn (off := 281) hC 314 dL_law_33 (by decide) (by decide) (by decide +kernel) (by decide) (law_c4 hC hF hX hB hR kk)
    | 5, _ => exact q_tabIn (off := 304) hC 337 dL_law_33 (by decide) (by decide) (by decide +kernel) (by decide) (law_c5 hC hF hX hB hR kk)
    | 6, _ => exact q_tabIn (off := 353) hC 386 dL_law_33 (by decide) (by decide) (by decide +kernel) (by decide) (law_c6 hC hF hX hB hR kk)
    | 7, _ => exact q_tabIn (off := 386) hC 419 dL_law_33 (by decide) (by decide) (by decide +kernel) (by decide) (law_c7 hC hF hX hB hR kk)
    | 8, _ => exact q_tabIn (off := 399) hC 432 dL_law_33 (by decide) (by decide) (by decide +kernel) (by decide) (law_c8 hC hF hX hB hR kk)
    | 9, _ => exact q_tabIn (off := 442) hC 475 dL_law_33 (by decide) (by decide) (by decide +kernel) (by decide) (law_c9 hC hF hX hB hR kk)
    | 10, _ => exact q_tabIn (off := 465) hC 498 dL_law_33 (by decide) (by decide) (by decide +kernel) (by decide) (law_c10 hC hF hX hB hR kk)
    | 11, _ => exact q_tabIn (off := 488) hC 521 dL_law_33 (by decide) (by decide) (by decide +kernel) (by decide) (law_c11 hC hF hX hB hR kk)
    | 12, _ => exact q_tabIn (off := 537) hC 570 dL_law_33 (by decide) (by decide) (by decide +kernel) (by decide) (law_c12 hC hF hX hB hR kk)
    | 13, _ => exact q_tabIn (off := 570) hC 603 dL_law_33 (by decide) (by decide) (by decide +kernel) (by decide) (law_c13 hC hF hX hB hR kk)
    | 14, _ => exact q_tabIn (off := 593) hC 626 dL_law_33 (by decide) (by decide) (by decide +kernel) (by decide) (law_c14 hC hF hX hB hR kk)
    | 15, _ => exact q_tabIn (off := 616) hC 649 dL_law_33 (by decide) (by decide) (by decide +kernel) (by decide) (law_c15 hC hF hX hB hR kk)
    | 16, _ => exact q_tabIn (off := 639) hC 672 dL_law_33 (by decide) (by decide) (by decide +kernel) (by decide) (law_c16 hC hF hX hB hR kk)
    | 17, _ => exact q_tabIn (off := 662) hC 695 dL_law_33 (by decide) (by decide) (by decide +kernel) (by decide) (law_c17 hC hF hX hB hR kk)
    | 18, _ => exact q_tabIn (off := 705) hC 738 dL_law_33 (by decide) (by decide) (by decide +kernel) (by decide) (law_c18 hC hF hX hB hR kk)
    | 19, _ => exact q_tabIn (off := 728) hC 761 dL_law_33 (by decide) (by decide) (by decide +kernel) (by decide) (law_c19 hC hF hX hB hR kk)
    | 20, _ => exact q_tabIn (off := 751) hC 784 dL_law_33 (by decide) (by decide) (by decide +kernel) (by decide) (law_c20 hC hF hX hB hR kk)
    | 21, _ => exact q_tabIn (off := 784) hC 817 dL_law_33 (by decide) (by decide) (by decide +kernel) (by decide) (law_c21 hC hF hX hB hR kk)
    | 22, _ => exact q_tabIn (off := 817) hC 850 dL_law_33 (by decide) (by decide) (by decide +kernel) (by decide) (law_c22 hC hF hX hB hR kk)
    | 23, _ => exact q_tabIn (off := 840) hC 873 dL_law_33 (by decide) (by decide) (by decide +kernel) (by decide) (law_c23 hC hF hX hB hR kk)
    | 24, _ => exact q_tabIn (off := 863) hC 896 dL_law_33 (by decide) (by decide) (by decide +kernel) (by decide) (law_c24 hC hF hX hB hR kk)
    | 25, _ => exact q_tabIn (off := 896) hC 929 dL_law_33 (by decide) (by decide) (by decide +kernel) (by decide) (law_c25 hC hF hX hB hR kk)
    | 26, _ => exact q_tabIn (off := 919) hC 952 dL_law_33 (by decide) (by decide) (by decide +kernel) (by decide) (law_c26 hC hF hX hB hR kk)
    | 27, _ => exact q_tabIn (off := 952) hC 985 dL_law_33 (by decide) (by decide) (by decide +kernel) (by decide) (law_c27 hC hF hX hB hR kk)
    | 28, _ => exact q_tabIn (off := 975) hC 1008 dL_law_33 (by decide) (by decide) (by decide +kernel) (by decide) (law_c28 hC hF hX hB hR kk)
    | 29, _ => exact q_tabIn (off := 998) hC 1031 dL_law_33 (by decide) (by decide) (by decide +kernel) (by decide) (law_c29 hC hF hX hB hR kk)
    | 30, _ => exact q_tabIn (off := 1061) hC 1094 dL_law_33 (by decide) (by decide) (by decide +kernel) (by decide) (law_c30 hC hF hX hB hR kk)
    | 31, _ => exact q_tabIn (off := 1114) hC 1147 dL_law_33 (by decide) (by decide) (by decide +kernel) (by decide) (law_c31 hC hF hX hB hR kk)
    | 32, _ => exact q_tabIn (off := 1147) hC 1180 dL_law_33 (by decide) (by decide) (by decide +kernel) (by decide) (law_c32 hC hF hX hB hR kk)
    | 33, _ => exact q_tabIn (off := 1160) hC 1193 dL_law_33 (by decide) (by decide) (by decide +kernel) (by decide) (law_c33 hC hF hX hB hR kk)
    | 34, _ => exact q_tabIn (off := 1183) hC 1216 dL_law_33 (by decide) (by decide) (by decide +kernel) (by decide) (law_c34 hC hF hX hB hR kk)
    | 35, _ => exact q_tabIn (off := 1206) hC 1239 dL_law_33 (by decide) (by decide) (by decide +kernel) (by decide) (law_c35 hC hF hX hB hR kk)
    | 36, _ => exact q_tabIn (off := 1229) hC 1262 dL_law_33 (by decide) (by decide) (by decide +kernel) (by decide) (law_c36 hC hF hX hB hR kk)
    | 37, _ => exact q_tabIn (off := 1272) hC 1305 dL_law_33 (by decide) (by decide) (by decide +kernel) (by decide) (law_c37 hC hF hX hB hR kk)
    | 38, _ => exact q_tabIn (off := 1315) hC 1348 dL_law_33 (by decide) (by decide) (by decide +kernel) (by decide) (law_c38 hC hF hX hB hR kk)
    | 39, _ => exact q_tabIn (off := 1368) hC 1401 dL_law_33 (by decide) (by decide) (by decide +kernel) (by decide) (law_c39 hC hF hX hB hR kk)
    | 40, _ => exact q_tabIn (off := 1381) hC 1414 dL_law_33 (by decide) (by decide) (by decide +kernel) (by decide) (law_c40 hC hF hX hB hR kk)
    | n + 41, h => exact absurd h (by omega)
  · refine q_tabOut hC 1437 dL_law_33 ?_ (by decide) (kk _ hR)
    exact tab_out (n := 40) (by decide) hp
theorem law_end {z : ZZ} {g : GG} {Qf : State → Prop} {b Ln : Nat} {xs : Nat → Int32} (hC : CX z g cL_law 4 wsL_law RL room_1) (hX : SX z g b Ln xs) (hL : Ln ≤ 3072) {i : Nat} {M : MM} (hi : i ≤ 4000) (h : Ln < i + 6) (hQ : ∀ (pc : Nat) (ls : Array Slot) (M : MM) (H : Heap) (locs : List Loc), decode cL_law pc = .ok (.ireturn, 1) → IV g M (zs z) H → va_S (AA g) (zs z).heap H locs → WZ z H locs Qf (F0 (zm z) pc ls [.int 1])) : XX z g Qf 4 18 [(0, .ref b), (1, .ref (gA g 0)), (2, .ref (gA g 52)), (3, .int (nI i))] [] M := by
  refine q_iload_n hC dL_law_18 3 rfl 19 rfl ?_
  refine q_aload_n hC dL_law_19 0 rfl 20 rfl ?_
  refine q_slen hC hX dL_law_20 21 rfl ?_
  refine q_bipush (v := 6) hC dL_law_21 (by decide) 23 rfl ?_
  refine q_isub hC dL_law_23 24 rfl ?_
  refine q_icmp_gt (A := True) (B := False) hC 1443 dL_law_24 (by decide) 27 rfl ⟨fun _ => trivial, fun q => absurd ((end_iff hL hi).mpr h) q⟩ (fun _ => ?_) (fun q => q.elim)
  refine q_iconst (v := 1) hC dL_law_1443 (by decide) 1444 rfl ?_
  exact fun H locs ls hI hS _ => hQ 1444 ls M H locs dL_law_1444 hI hS
theorem law_loop {z : ZZ} {g : GG} {Qf : State → Prop} {b Ln : Nat} {xs : Nat → Int32} (hC : CX z g cL_law 4 wsL_law RL room_1) (hF : full g) (hX : SX z g b Ln xs) (hL : Ln ≤ 3072) (hQ : ∀ (pc : Nat) (ls : Array Slot) (M : MM) (H : Heap) (locs : List Loc), decode cL_law pc = .ok (.ireturn, 1) → IV g M (zs z) H → va_S (AA g) (zs z).heap H locs → WZ z H locs Qf (F0 (zm z) pc ls [.int 1])) : ∀ n i (M : MM), Ln < i + n → i ≤ Ln + 6 → Rel M → XX z g Qf 4 18 [(0, .ref b), (1, .ref (gA g 0)), (2, .ref (gA g 52)), (3, .int (nI i))] [] M := by
  intro n
  induction n with
  | zero =>
    intro i M hn hi6 hR
    exact law_end hC hX (by omega) (by omega) (by omega) hQ
  | succ n ih =>
    intro i M hn hi6 hR
    by_cases h : Ln < i + 6
    · exact law_end hC hX (by omega) (by omega) h hQ
    · refine q_iload_n hC dL_law_18 3 rfl 19 rfl ?_
      refine q_aload_n hC dL_law_19 0 rfl 20 rfl ?_
      refine q_slen hC hX dL_law_20 21 rfl ?_
      refine q_bipush (v := 6) hC dL_law_21 (by decide) 23 rfl ?_
      refine q_isub hC dL_law_23 24 rfl ?_
      refine q_icmp_gt (A := False) (B := True) hC 1443 dL_law_24 (by decide) 27 rfl ⟨fun q => h ((end_iff (by omega) (by omega)).mp q), fun _ => trivial⟩ (fun q => q.elim) (fun _ => ?_)
      have hB : inS (nI i) Ln := inS_nI (by omega) (by omega)
      refine q_aload_n hC dL_law_27 0 rfl 28 rfl ?_
      refine q_iload_n hC dL_law_28 3 rfl 29 rfl ?_
      refine q_sld hC hX hB.1 dL_law_29 30 rfl ?_
      refine q_bipush (v := 63) hC dL_law_30 (by decide) 32 rfl ?_
      refine q_iand hC dL_law_32 33 rfl ?_
      refine law_sw hC hF hX hB hR (fun M2 h2 => ?_) _
      refine q_iinc (v := nI (i + 6)) (L' := [(3, .int (nI (i + 6))), (0, .ref b), (1, .ref (gA g 0)), (2, .ref (gA g 52))]) hC dL_law_1437 3 rfl (nI_add i 6) (by decide) rfl 1440 rfl ?_
      refine q_goto hC 18 dL_law_1440 (by decide) ?_
      exact XX.sub [1, 2, 3, 0] rfl (ih (i + 6) M2 (by omega) (by omega) h2)
/-! THE CLAIM OUT OF ONE WALK OF THE LAW'S BODY. Your part is whole_start (and what it stands on); all else here is the same for every law, but numbers. -/
def R_law : String := "TwoReelsLaw"
def lw_P (b : Addr) (xs : List Int32) (args : Array Value) (s : State) : Prop := args = #[.ref b] ∧ s.IntsAt b xs ∧ xs.length ≤ 3072 ∧ (Jvm.Cond.and given_1 narrow_1).before args s = true
def lw_Q (_ : Array Value) (s : State) (o : Outcome) (t : State) : Prop := o = .returned (some (.int 1)) ∧ Framed s o t [] 67 9598
def lw_Z (below : List Frame) (a : Array Value) (s : State) : State → Prop := fun t => ∃ o, t.status = .running ∧ Ended t below o ∧ lw_Q a s o t
/-- the law's own end, with 1 on the stack, nothing written that was there before, its room as the claim has it -/
theorem lw_ret {p : Program} {l : Launch} {e : Env} {s : State} {m : MethodId} {below : List Frame} {meth : Method} {c : Code} {b : Nat} (hx : p.tables.exec = Jvm.exec) (hb : c.code = code) (hr : meth.sig.returnType = ret) (hlocks : meth.locks = false) {pc : Nat} {H : Heap} {ls : Array Slot} (hdg : decode code pc = .ok (.ireturn, 1)) : W p l e room_1 s m #[Value.ref b] below meth c H [] 67 9598 (lw_Z below #[Value.ref b] s) (F0 m pc ls [.int 1]) := by
  intro T hT X
  obtain ⟨fs, hret, hrun, hended, hW, hframe⟩ := X.leave (v := some (.int 1)) (hlocks := hlocks) (fun h => by rw [hr] at h; cases h)
  have hmeth' : T.vm.method? m = some meth := X.method'
  refine ⟨T.setFrames fs, ?_, .returned (some (.int 1)), hrun, hended, rfl, ⟨_, rfl⟩, hW, hframe⟩
  jvm_step X.here [X.here.top, hx, hb, hdg, hmeth', hr, ret, narrow_b1]
  (try refine ⟨rfl, ?_⟩); (try refine ⟨rfl, ?_⟩)
  first | (intro acts; rw [hret _ acts rfl rfl rfl]) | rw [hret _ _ rfl rfl rfl]
  exact Steps.refl _
/-- what holds at the law's entry: the machine, the code, the tables' words (any of lw_tbl by 'hts w (by decide +kernel)'), the script of L ints xs at the cell b, what the Statement gives of the start (any of its parts by flat_of_before) -/
def lw_At (p : Program) (s : State) (m : MethodId) (meth : Method) (c : Code) (b L : Nat) (xs : Nat → Int32) : Prop :=
  p.tables.exec = Jvm.exec ∧ c.code = code ∧ meth.sig.returnType = ret ∧ c.maxLocals = 4 ∧ s.vm.findClass R_law = some m.cls ∧ (∀ w ∈ lw_tbl, w.before #[Value.ref b] s = true) ∧ va_X b L xs s s.heap ∧ b < s.heap.size ∧ meth.locks = false ∧ (Jvm.Cond.and given_1 narrow_1).before #[Value.ref b] s = true
-- ===== two worlds side by side =====
def loL (g : GG) : List ((Nat → Int32) → va_E) := cell0 g :: cellT g 1 :: cellI g 9 :: cellI g 12 :: cellI g 12 :: cellI g 156 :: cellI g 144 :: cellI g 12 :: cellI g 12 :: cellI g 12 :: cellT g 10 :: cellI g 9 :: cellI g 12 :: cellI g 12 :: cellI g 156 :: cellI g 144 :: cellI g 12 :: cellI g 12 :: cellI g 12 :: cellT g 19 :: cellI g 9 :: cellI g 12 :: cellI g 12 :: cellI g 156 :: cellI g 144 :: cellI g 12 :: cellI g 12 :: cellI g 12 :: cellT g 28 :: cellI g 9 :: cellI g 12 :: cellI g 12 :: cellI g 156 :: cellI g 144 :: cellI g 12 :: cellI g 12 :: cellI g 12 :: cell37 g :: cell38 g :: cell39 g :: cellI g 72 :: cellI g 2048 :: cellI g 8 :: cellI g 8 :: cellS g 44 :: cellI g 40 :: cellS g 46 :: cellI g 40 :: cellS g 48 :: cellI g 40 :: cellS g 50 :: cellI g 40 :: []
def hiL (g : GG) : List ((Nat → Int32) → va_E) := cell52 g :: cellI g 1200 :: cell54 g :: cellI g 9 :: cellI g 9 :: cellI g 12 :: cellI g 144 :: cellI g 400 :: cellI g 12 :: cellI g 12 :: cellI g 3328 :: cellI g 8 :: cellI g 4 :: cellI g 4 :: cellI g 160 :: []
theorem shL_two (g : GG) : shL g = loL g ++ hiL g := rfl
theorem loL_len (g : GG) : (loL g).length = 52 := rfl
theorem gA_gp (g : GG) (a : Nat → Nat) (ps : List Nat) (k : Nat) : gA (gp g a ps) k = a k := rfl
theorem cellI_gp (g : GG) (a a' : Nat → Nat) (ps ps' : List Nat) (n : Nat) : cellI (gp g a ps) n = cellI (gp g a' ps') n := rfl
theorem cellE_lo {g : GG} {k : Nat} (h : k < 52) : cellE g k = (loL g).getD k (cellI g 0) := by
  show (shL g).getD k (cellI g 0) = _
  rw [shL_two, List.getD_eq_getElem?_getD, List.getD_eq_getElem?_getD, List.getElem?_append_left (by rw [loL_len]; exact h)]
theorem cellE_hi {g : GG} {k : Nat} (h : 52 ≤ k) : cellE g k = (hiL g).getD (k - 52) (cellI g 0) := by
  show (shL g).getD k (cellI g 0) = _
  rw [shL_two, List.getD_eq_getElem?_getD, List.getD_eq_getElem?_getD, List.getElem?_append_right (by rw [loL_len]; exact h), loL_len]
theorem cellT_gp {g : GG} {a a' : Nat → Nat} (ps ps' : List Nat) (h : ∀ j, j < 52 → a j = a' j) {b : Nat} (hb : b + 8 < 52) : cellT (gp g a ps) b = cellT (gp g a' ps') b := by
  funext r
  simp only [cellT, gA_gp]
  rw [h (b + 1) (by omega), h (b + 2) (by omega), h (b + 3) (by omega), h (b + 4) (by omega), h (b + 5) (by omega), h (b + 6) (by omega), h (b + 7) (by omega), h (b + 8) (by omega)]
theorem cellS_gp {g : GG} {a a' : Nat → Nat} (ps ps' : List Nat) (h : ∀ j, j < 52 → a j = a' j) {b : Nat} (hb : b + 1 < 52) : cellS (gp g a ps) b = cellS (gp g a' ps') b := by
  funext r
  simp only [cellS, gA_gp]
  rw [h (b + 1) (by omega)]
theorem loL_gp {g : GG} {a a' : Nat → Nat} (ps ps' : List Nat) (h : ∀ j, j < 52 → a j = a' j) : loL (gp g a ps) = loL (gp g a' ps') := by
  have e0 : cell0 (gp g a ps) = cell0 (gp g a' ps') := by
    funext r
    simp only [cell0, gA_gp]
    rw [h 1 (by decide), h 37 (by decide), h 39 (by decide), h 10 (by decide), h 19 (by decide), h 44 (by decide), h 46 (by decide), h 48 (by decide), h 50 (by decide)]
  have e37 : cell37 (gp g a ps) = cell37 (gp g a' ps') := by
    funext r
    simp only [cell37, gA_gp]
    rw [h 38 (by decide), h 28 (by decide)]
  have e38 : cell38 (gp g a ps) = cell38 (gp g a' ps') := rfl
  have e39 : cell39 (gp g a ps) = cell39 (gp g a' ps') := by
    funext r
    simp only [cell39, gA_gp]
    rw [h 40 (by decide), h 41 (by decide), h 42 (by decide), h 43 (by decide)]
  have eI : cellI (gp g a ps) = cellI (gp g a' ps') := rfl
  simp only [loL]
  rw [e0, e37, e38, e39, eI, cellT_gp ps ps' h (b := 1) (by decide), cellT_gp ps ps' h (b := 10) (by decide), cellT_gp ps ps' h (b := 19) (by decide), cellT_gp ps ps' h (b := 28) (by decide), cellS_gp ps ps' h (b := 44) (by decide), cellS_gp ps ps' h (b := 46) (by decide), cellS_gp ps ps' h (b := 48) (by decide), cellS_gp ps ps' h (b := 50) (by decide)]
theorem hiL_gp {g : GG} {a a' : Nat → Nat} (ps ps' : List Nat) (h : ∀ j, 52 ≤ j → a j = a' j) : hiL (gp g a ps) = hiL (gp g a' ps') := by
  have e52 : cell52 (gp g a ps) = cell52 (gp g a' ps') := by
    funext r
    simp only [cell52, gA_gp]
    rw [h 53 (by decide), h 54 (by decide), h 55 (by decide), h 56 (by decide), h 57 (by decide), h 58 (by decide), h 59 (by decide), h 60 (by decide), h 61 (by decide), h 62 (by decide), h 63 (by decide), h 64 (by decide), h 65 (by decide), h 66 (by decide)]
  have e54 : cell54 (gp g a ps) = cell54 (gp g a' ps') := rfl
  have eI : cellI (gp g a ps) = cellI (gp g a' ps') := rfl
  simp only [hiL]
  rw [e52, e54, eI]
theorem Wp_lo {g : GG} {a a' : Nat → Nat} {M M' : MM} {ps : List Nat} (hp : ∀ k ∈ ps, k < 52) (ha : ∀ j, j < 52 → a j = a' j) (hM : ∀ j, j < 52 → M j = M' j) : Wp g a ps M = Wp g a' ps M' := by
  show List.map (fun k => (a k, cellE (gp g a ps) k (M k))) ps = List.map (fun k => (a' k, cellE (gp g a' ps) k (M' k))) ps
  refine List.map_congr_left fun k hk => ?_
  have h := hp k hk
  rw [ha k h, hM k h, cellE_lo h, cellE_lo h, loL_gp ps ps ha, cellI_gp g a a' ps ps 0]
theorem Wp_hi {g : GG} {a a' : Nat → Nat} {M M' : MM} {ps : List Nat} (hp : ∀ k ∈ ps, 52 ≤ k) (ha : ∀ j, 52 ≤ j → a j = a' j) (hM : ∀ j, 52 ≤ j → M j = M' j) : Wp g a ps M = Wp g a' ps M' := by
  show List.map (fun k => (a k, cellE (gp g a ps) k (M k))) ps = List.map (fun k => (a' k, cellE (gp g a' ps) k (M' k))) ps
  refine List.map_congr_left fun k hk => ?_
  have h := hp k hk
  rw [ha k h, hM k h, cellE_hi h, cellE_hi h, hiL_gp ps ps ha, cellI_gp g a a' ps ps 0]
theorem ble_lo {α : Type} {x y : α} {j : Nat} (h : j < 52) : y = cond (Nat.ble 52 j) x y := by
  rw [show Nat.ble 52 j = false from Bool.eq_false_iff.mpr fun q => absurd (Nat.le_of_ble_eq_true q) (Nat.not_le.mpr h)]
  rfl
theorem ble_hi {α : Type} {x y : α} {j : Nat} (h : 52 ≤ j) : x = cond (Nat.ble 52 j) x y := by
  rw [show Nat.ble 52 j = true from Nat.ble_eq_true_of_le h]
  rfl
/-- all places but the first 52 out of another: what both parts hold -/
theorem Wp_glue {g : GG} {a a5 : Nat → Nat} {M M5 : MM} : Wp g a [0, 1, 2, 3, 4, 5, 6, 7, 8, 9, 37, 38, 28, 29, 30, 31, 32, 33, 34, 35, 36, 39, 40, 41, 42, 43, 10, 11, 12, 13, 14, 15, 16, 17, 18, 19, 20, 21, 22, 23, 24, 25, 26, 27, 44, 45, 46, 47, 48, 49, 50, 51] M ++ Wp g a5 [52, 53, 54, 55, 56, 57, 58, 59, 60, 61, 62, 63, 64, 65, 66] M5 = Wp g (fun k => cond (Nat.ble 52 k) (a5 k) (a k)) [0, 1, 2, 3, 4, 5, 6, 7, 8, 9, 37, 38, 28, 29, 30, 31, 32, 33, 34, 35, 36, 39, 40, 41, 42, 43, 10, 11, 12, 13, 14, 15, 16, 17, 18, 19, 20, 21, 22, 23, 24, 25, 26, 27, 44, 45, 46, 47, 48, 49, 50, 51, 52, 53, 54, 55, 56, 57, 58, 59, 60, 61, 62, 63, 64, 65, 66] (fun k => cond (Nat.ble 52 k) (M5 k) (M k)) := by
  rw [Wp_lo (a := a) (a' := fun k => cond (Nat.ble 52 k) (a5 k) (a k)) (M := M) (M' := fun k => cond (Nat.ble 52 k) (M5 k) (M k)) (ps := [0, 1, 2, 3, 4, 5, 6, 7, 8, 9, 37, 38, 28, 29, 30, 31, 32, 33, 34, 35, 36, 39, 40, 41, 42, 43, 10, 11, 12, 13, 14, 15, 16, 17, 18, 19, 20, 21, 22, 23, 24, 25, 26, 27, 44, 45, 46, 47, 48, 49, 50, 51]) (by decide) (fun j h => ble_lo h) (fun j h => ble_lo h), Wp_hi (a := a5) (a' := fun k => cond (Nat.ble 52 k) (a5 k) (a k)) (M := M5) (M' := fun k => cond (Nat.ble 52 k) (M5 k) (M k)) (ps := [52, 53, 54, 55, 56, 57, 58, 59, 60, 61, 62, 63, 64, 65, 66]) (by decide) (fun j h => ble_hi h) (fun j h => ble_hi h), ← Wp_app]
  rfl
