/-! the claim -/
theorem i_vc : Claimed_1_1 ∧ Claimed_1_2 := whole_of (pure_of ⟨op_board_ok, op_row_ok, op_cell_ok, op_pattern_ok, op_inlet_ok, op_freeze_ok, op_hole_ok, op_look_ok, op_value_ok, op_turn_ok, op_drop_ok, op_undo_ok, op_count_ok, op_roll_ok, op_tick_ok, op_marbles_ok, op_explore_ok, op_canReach_ok, op_jam_ok, op_counter_ok, op_tell_ok, op_table_ok, op_input_ok⟩)
