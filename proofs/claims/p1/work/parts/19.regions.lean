/-! THE CALLS, region by region of their arguments -/
set_option maxRecDepth 1000000 in
theorem rg_feed_0 : ev_two 65 184 [(1, 0, 4294967295), (1, 0, 4294967295), (1, 0, 4294967295), (1, 0, 4294967295), (1, 0, 4294967295)] = true := by decide +kernel
set_option maxRecDepth 1000000 in
theorem rg_end_0 : ev_two 66 185 [(1, 0, 2147483647)] = true := by decide +kernel
set_option maxRecDepth 1000000 in
theorem rg_end_1 : ev_two 66 185 [(0, 0, 0)] = true := by decide +kernel
set_option maxRecDepth 1000000 in
theorem rg_end_2 : ev_two 66 185 [(1, 2147483649, 4294967295)] = true := by decide +kernel
set_option maxRecDepth 1000000 in
theorem rg_meadow_0 : ev_two 67 116 [] = true := by decide +kernel
set_option maxRecDepth 1000000 in
theorem rg_fault_0 : ev_two 68 117 [(1, 0, 2147483647)] = true := by decide +kernel
set_option maxRecDepth 1000000 in
theorem rg_fault_1 : ev_two 68 117 [(0, 0, 0)] = true := by decide +kernel
set_option maxRecDepth 1000000 in
theorem rg_fault_2 : ev_two 68 117 [(0, 1, 0)] = true := by decide +kernel
set_option maxRecDepth 1000000 in
theorem rg_fault_3 : ev_two 68 117 [(1, 2147483650, 4294967295)] = true := by decide +kernel
set_option maxRecDepth 1000000 in
theorem rg_thing_0 : ev_two 69 139 [(1, 0, 2147483647)] = true := by decide +kernel
set_option maxRecDepth 1000000 in
theorem rg_thing_1 : ev_two 69 139 [(1, 2147483648, 4294967295)] = true := by decide +kernel
set_option maxRecDepth 1000000 in
theorem rg_glyph_0 : ev_two 70 140 [(1, 0, 2147483647), (1, 0, 4294967295)] = true := by decide +kernel
set_option maxRecDepth 1000000 in
theorem rg_glyph_1 : ev_two 70 140 [(1, 2147483648, 4294967295), (1, 0, 4294967295)] = true := by decide +kernel
set_option maxRecDepth 1000000 in
theorem rg_plot_0 : ev_two 71 142 [(1, 0, 2147483647), (1, 0, 4294967295)] = true := by decide +kernel
set_option maxRecDepth 1000000 in
theorem rg_plot_1 : ev_two 71 142 [(1, 2147483660, 4294967295), (1, 0, 4294967295)] = true := by decide +kernel
set_option maxRecDepth 1000000 in
theorem rg_plot_2 : ev_two 71 142 [(0, 0, 0), (1, 0, 2147483647)] = true := by decide +kernel
set_option maxRecDepth 1000000 in
theorem rg_plot_3 : ev_two 71 142 [(0, 0, 0), (0, 0, 0)] = true := by decide +kernel
set_option maxRecDepth 1000000 in
theorem rg_plot_4 : ev_two 71 142 [(0, 0, 0), (0, 1, 0)] = true := by decide +kernel
set_option maxRecDepth 1000000 in
theorem rg_plot_5 : ev_two 71 142 [(0, 0, 0), (0, 2, 0)] = true := by decide +kernel
set_option maxRecDepth 1000000 in
theorem rg_plot_6 : ev_two 71 142 [(0, 0, 0), (0, 3, 0)] = true := by decide +kernel
set_option maxRecDepth 1000000 in
theorem rg_plot_7 : ev_two 71 142 [(0, 0, 0), (1, 2147483652, 4294967295)] = true := by decide +kernel
set_option maxRecDepth 1000000 in
theorem rg_plot_8 : ev_two 71 142 [(0, 1, 0), (1, 0, 2147483647)] = true := by decide +kernel
set_option maxRecDepth 1000000 in
theorem rg_plot_9 : ev_two 71 142 [(0, 1, 0), (0, 0, 0)] = true := by decide +kernel
set_option maxRecDepth 1000000 in
theorem rg_plot_10 : ev_two 71 142 [(0, 1, 0), (0, 1, 0)] = true := by decide +kernel
set_option maxRecDepth 1000000 in
theorem rg_plot_11 : ev_two 71 142 [(0, 1, 0), (0, 2, 0)] = true := by decide +kernel
set_option maxRecDepth 1000000 in
theorem rg_plot_12 : ev_two 71 142 [(0, 1, 0), (0, 3, 0)] = true := by decide +kernel
set_option maxRecDepth 1000000 in
theorem rg_plot_13 : ev_two 71 142 [(0, 1, 0), (1, 2147483652, 4294967295)] = true := by decide +kernel
set_option maxRecDepth 1000000 in
theorem rg_plot_14 : ev_two 71 142 [(0, 2, 0), (1, 0, 2147483647)] = true := by decide +kernel
set_option maxRecDepth 1000000 in
theorem rg_plot_15 : ev_two 71 142 [(0, 2, 0), (0, 0, 0)] = true := by decide +kernel
set_option maxRecDepth 1000000 in
theorem rg_plot_16 : ev_two 71 142 [(0, 2, 0), (0, 1, 0)] = true := by decide +kernel
set_option maxRecDepth 1000000 in
theorem rg_plot_17 : ev_two 71 142 [(0, 2, 0), (0, 2, 0)] = true := by decide +kernel
set_option maxRecDepth 1000000 in
theorem rg_plot_18 : ev_two 71 142 [(0, 2, 0), (0, 3, 0)] = true := by decide +kernel
set_option maxRecDepth 1000000 in
theorem rg_plot_19 : ev_two 71 142 [(0, 2, 0), (1, 2147483652, 4294967295)] = true := by decide +kernel
set_option maxRecDepth 1000000 in
theorem rg_plot_20 : ev_two 71 142 [(0, 3, 0), (1, 0, 2147483647)] = true := by decide +kernel
set_option maxRecDepth 1000000 in
theorem rg_plot_21 : ev_two 71 142 [(0, 3, 0), (0, 0, 0)] = true := by decide +kernel
set_option maxRecDepth 1000000 in
theorem rg_plot_22 : ev_two 71 142 [(0, 3, 0), (0, 1, 0)] = true := by decide +kernel
set_option maxRecDepth 1000000 in
theorem rg_plot_23 : ev_two 71 142 [(0, 3, 0), (0, 2, 0)] = true := by decide +kernel
set_option maxRecDepth 1000000 in
theorem rg_plot_24 : ev_two 71 142 [(0, 3, 0), (0, 3, 0)] = true := by decide +kernel
set_option maxRecDepth 1000000 in
theorem rg_plot_25 : ev_two 71 142 [(0, 3, 0), (1, 2147483652, 4294967295)] = true := by decide +kernel
set_option maxRecDepth 1000000 in
theorem rg_plot_26 : ev_two 71 142 [(0, 4, 0), (1, 0, 2147483647)] = true := by decide +kernel
set_option maxRecDepth 1000000 in
theorem rg_plot_27 : ev_two 71 142 [(0, 4, 0), (0, 0, 0)] = true := by decide +kernel
set_option maxRecDepth 1000000 in
theorem rg_plot_28 : ev_two 71 142 [(0, 4, 0), (0, 1, 0)] = true := by decide +kernel
set_option maxRecDepth 1000000 in
theorem rg_plot_29 : ev_two 71 142 [(0, 4, 0), (0, 2, 0)] = true := by decide +kernel
set_option maxRecDepth 1000000 in
theorem rg_plot_30 : ev_two 71 142 [(0, 4, 0), (0, 3, 0)] = true := by decide +kernel
set_option maxRecDepth 1000000 in
theorem rg_plot_31 : ev_two 71 142 [(0, 4, 0), (1, 2147483652, 4294967295)] = true := by decide +kernel
set_option maxRecDepth 1000000 in
theorem rg_plot_32 : ev_two 71 142 [(0, 5, 0), (1, 0, 2147483647)] = true := by decide +kernel
set_option maxRecDepth 1000000 in
theorem rg_plot_33 : ev_two 71 142 [(0, 5, 0), (0, 0, 0)] = true := by decide +kernel
set_option maxRecDepth 1000000 in
theorem rg_plot_34 : ev_two 71 142 [(0, 5, 0), (0, 1, 0)] = true := by decide +kernel
set_option maxRecDepth 1000000 in
theorem rg_plot_35 : ev_two 71 142 [(0, 5, 0), (0, 2, 0)] = true := by decide +kernel
set_option maxRecDepth 1000000 in
theorem rg_plot_36 : ev_two 71 142 [(0, 5, 0), (0, 3, 0)] = true := by decide +kernel
set_option maxRecDepth 1000000 in
theorem rg_plot_37 : ev_two 71 142 [(0, 5, 0), (1, 2147483652, 4294967295)] = true := by decide +kernel
set_option maxRecDepth 1000000 in
theorem rg_plot_38 : ev_two 71 142 [(0, 6, 0), (1, 0, 2147483647)] = true := by decide +kernel
set_option maxRecDepth 1000000 in
theorem rg_plot_39 : ev_two 71 142 [(0, 6, 0), (0, 0, 0)] = true := by decide +kernel
set_option maxRecDepth 1000000 in
theorem rg_plot_40 : ev_two 71 142 [(0, 6, 0), (0, 1, 0)] = true := by decide +kernel
set_option maxRecDepth 1000000 in
theorem rg_plot_41 : ev_two 71 142 [(0, 6, 0), (0, 2, 0)] = true := by decide +kernel
set_option maxRecDepth 1000000 in
theorem rg_plot_42 : ev_two 71 142 [(0, 6, 0), (0, 3, 0)] = true := by decide +kernel
set_option maxRecDepth 1000000 in
theorem rg_plot_43 : ev_two 71 142 [(0, 6, 0), (1, 2147483652, 4294967295)] = true := by decide +kernel
set_option maxRecDepth 1000000 in
theorem rg_plot_44 : ev_two 71 142 [(0, 7, 0), (1, 0, 2147483647)] = true := by decide +kernel
set_option maxRecDepth 1000000 in
theorem rg_plot_45 : ev_two 71 142 [(0, 7, 0), (0, 0, 0)] = true := by decide +kernel
set_option maxRecDepth 1000000 in
theorem rg_plot_46 : ev_two 71 142 [(0, 7, 0), (0, 1, 0)] = true := by decide +kernel
set_option maxRecDepth 1000000 in
theorem rg_plot_47 : ev_two 71 142 [(0, 7, 0), (0, 2, 0)] = true := by decide +kernel
set_option maxRecDepth 1000000 in
theorem rg_plot_48 : ev_two 71 142 [(0, 7, 0), (0, 3, 0)] = true := by decide +kernel
set_option maxRecDepth 1000000 in
theorem rg_plot_49 : ev_two 71 142 [(0, 7, 0), (1, 2147483652, 4294967295)] = true := by decide +kernel
set_option maxRecDepth 1000000 in
theorem rg_plot_50 : ev_two 71 142 [(0, 8, 0), (1, 0, 2147483647)] = true := by decide +kernel
set_option maxRecDepth 1000000 in
theorem rg_plot_51 : ev_two 71 142 [(0, 8, 0), (0, 0, 0)] = true := by decide +kernel
set_option maxRecDepth 1000000 in
theorem rg_plot_52 : ev_two 71 142 [(0, 8, 0), (0, 1, 0)] = true := by decide +kernel
set_option maxRecDepth 1000000 in
theorem rg_plot_53 : ev_two 71 142 [(0, 8, 0), (0, 2, 0)] = true := by decide +kernel
set_option maxRecDepth 1000000 in
theorem rg_plot_54 : ev_two 71 142 [(0, 8, 0), (0, 3, 0)] = true := by decide +kernel
set_option maxRecDepth 1000000 in
theorem rg_plot_55 : ev_two 71 142 [(0, 8, 0), (1, 2147483652, 4294967295)] = true := by decide +kernel
set_option maxRecDepth 1000000 in
theorem rg_plot_56 : ev_two 71 142 [(0, 9, 0), (1, 0, 2147483647)] = true := by decide +kernel
set_option maxRecDepth 1000000 in
theorem rg_plot_57 : ev_two 71 142 [(0, 9, 0), (0, 0, 0)] = true := by decide +kernel
set_option maxRecDepth 1000000 in
theorem rg_plot_58 : ev_two 71 142 [(0, 9, 0), (0, 1, 0)] = true := by decide +kernel
set_option maxRecDepth 1000000 in
theorem rg_plot_59 : ev_two 71 142 [(0, 9, 0), (0, 2, 0)] = true := by decide +kernel
set_option maxRecDepth 1000000 in
theorem rg_plot_60 : ev_two 71 142 [(0, 9, 0), (0, 3, 0)] = true := by decide +kernel
set_option maxRecDepth 1000000 in
theorem rg_plot_61 : ev_two 71 142 [(0, 9, 0), (1, 2147483652, 4294967295)] = true := by decide +kernel
set_option maxRecDepth 1000000 in
theorem rg_plot_62 : ev_two 71 142 [(0, 10, 0), (1, 0, 2147483647)] = true := by decide +kernel
set_option maxRecDepth 1000000 in
theorem rg_plot_63 : ev_two 71 142 [(0, 10, 0), (0, 0, 0)] = true := by decide +kernel
set_option maxRecDepth 1000000 in
theorem rg_plot_64 : ev_two 71 142 [(0, 10, 0), (0, 1, 0)] = true := by decide +kernel
set_option maxRecDepth 1000000 in
theorem rg_plot_65 : ev_two 71 142 [(0, 10, 0), (0, 2, 0)] = true := by decide +kernel
set_option maxRecDepth 1000000 in
theorem rg_plot_66 : ev_two 71 142 [(0, 10, 0), (0, 3, 0)] = true := by decide +kernel
set_option maxRecDepth 1000000 in
theorem rg_plot_67 : ev_two 71 142 [(0, 10, 0), (1, 2147483652, 4294967295)] = true := by decide +kernel
set_option maxRecDepth 1000000 in
theorem rg_plot_68 : ev_two 71 142 [(0, 11, 0), (1, 0, 2147483647)] = true := by decide +kernel
set_option maxRecDepth 1000000 in
theorem rg_plot_69 : ev_two 71 142 [(0, 11, 0), (0, 0, 0)] = true := by decide +kernel
set_option maxRecDepth 1000000 in
theorem rg_plot_70 : ev_two 71 142 [(0, 11, 0), (0, 1, 0)] = true := by decide +kernel
set_option maxRecDepth 1000000 in
theorem rg_plot_71 : ev_two 71 142 [(0, 11, 0), (0, 2, 0)] = true := by decide +kernel
set_option maxRecDepth 1000000 in
theorem rg_plot_72 : ev_two 71 142 [(0, 11, 0), (0, 3, 0)] = true := by decide +kernel
set_option maxRecDepth 1000000 in
theorem rg_plot_73 : ev_two 71 142 [(0, 11, 0), (1, 2147483652, 4294967295)] = true := by decide +kernel
set_option maxRecDepth 1000000 in
theorem rg_mow_0 : ev_two 72 144 [(1, 0, 2147483647)] = true := by decide +kernel
set_option maxRecDepth 1000000 in
theorem rg_mow_1 : ev_two 72 144 [(1, 2147483660, 4294967295)] = true := by decide +kernel
set_option maxRecDepth 1000000 in
theorem rg_mow_2 : ev_two 72 144 [(0, 0, 0)] = true := by decide +kernel
set_option maxRecDepth 1000000 in
theorem rg_mow_3 : ev_two 72 144 [(0, 1, 0)] = true := by decide +kernel
set_option maxRecDepth 1000000 in
theorem rg_mow_4 : ev_two 72 144 [(0, 2, 0)] = true := by decide +kernel
set_option maxRecDepth 1000000 in
theorem rg_mow_5 : ev_two 72 144 [(0, 3, 0)] = true := by decide +kernel
set_option maxRecDepth 1000000 in
theorem rg_mow_6 : ev_two 72 144 [(0, 4, 0)] = true := by decide +kernel
set_option maxRecDepth 1000000 in
theorem rg_mow_7 : ev_two 72 144 [(0, 5, 0)] = true := by decide +kernel
set_option maxRecDepth 1000000 in
theorem rg_mow_8 : ev_two 72 144 [(0, 6, 0)] = true := by decide +kernel
set_option maxRecDepth 1000000 in
theorem rg_mow_9 : ev_two 72 144 [(0, 7, 0)] = true := by decide +kernel
set_option maxRecDepth 1000000 in
theorem rg_mow_10 : ev_two 72 144 [(0, 8, 0)] = true := by decide +kernel
set_option maxRecDepth 1000000 in
theorem rg_mow_11 : ev_two 72 144 [(0, 9, 0)] = true := by decide +kernel
set_option maxRecDepth 1000000 in
theorem rg_mow_12 : ev_two 72 144 [(0, 10, 0)] = true := by decide +kernel
set_option maxRecDepth 1000000 in
theorem rg_mow_13 : ev_two 72 144 [(0, 11, 0)] = true := by decide +kernel
set_option maxRecDepth 1000000 in
theorem rg_sow_0 : ev_two 73 145 [(1, 0, 2147483647)] = true := by decide +kernel
set_option maxRecDepth 1000000 in
theorem rg_sow_1 : ev_two 73 145 [(1, 2147483660, 4294967295)] = true := by decide +kernel
set_option maxRecDepth 1000000 in
theorem rg_sow_2 : ev_two 73 145 [(0, 0, 0)] = true := by decide +kernel
set_option maxRecDepth 1000000 in
theorem rg_sow_3 : ev_two 73 145 [(0, 1, 0)] = true := by decide +kernel
set_option maxRecDepth 1000000 in
theorem rg_sow_4 : ev_two 73 145 [(0, 2, 0)] = true := by decide +kernel
set_option maxRecDepth 1000000 in
theorem rg_sow_5 : ev_two 73 145 [(0, 3, 0)] = true := by decide +kernel
set_option maxRecDepth 1000000 in
theorem rg_sow_6 : ev_two 73 145 [(0, 4, 0)] = true := by decide +kernel
set_option maxRecDepth 1000000 in
theorem rg_sow_7 : ev_two 73 145 [(0, 5, 0)] = true := by decide +kernel
set_option maxRecDepth 1000000 in
theorem rg_sow_8 : ev_two 73 145 [(0, 6, 0)] = true := by decide +kernel
set_option maxRecDepth 1000000 in
theorem rg_sow_9 : ev_two 73 145 [(0, 7, 0)] = true := by decide +kernel
set_option maxRecDepth 1000000 in
theorem rg_sow_10 : ev_two 73 145 [(0, 8, 0)] = true := by decide +kernel
set_option maxRecDepth 1000000 in
theorem rg_sow_11 : ev_two 73 145 [(0, 9, 0)] = true := by decide +kernel
set_option maxRecDepth 1000000 in
theorem rg_sow_12 : ev_two 73 145 [(0, 10, 0)] = true := by decide +kernel
set_option maxRecDepth 1000000 in
theorem rg_sow_13 : ev_two 73 145 [(0, 11, 0)] = true := by decide +kernel
set_option maxRecDepth 1000000 in
theorem rg_year_0 : ev_two 74 147 [] = true := by decide +kernel
set_option maxRecDepth 1000000 in
theorem rg_undo_0 : ev_two 75 148 [] = true := by decide +kernel
set_option maxRecDepth 1000000 in
theorem rg_redo_0 : ev_two 76 149 [] = true := by decide +kernel
set_option maxRecDepth 1000000 in
theorem rg_readings_0 : ev_two 77 150 [] = true := by decide +kernel
set_option maxRecDepth 1000000 in
theorem rg_taken_0 : ev_two 78 152 [] = true := by decide +kernel
set_option maxRecDepth 1000000 in
theorem rg_weight_0 : ev_two 79 153 [] = true := by decide +kernel
set_option maxRecDepth 1000000 in
theorem rg_does_0 : ev_two 80 154 [(1, 0, 2147483647)] = true := by decide +kernel
set_option maxRecDepth 1000000 in
theorem rg_does_1 : ev_two 80 154 [(1, 2147483648, 4294967295)] = true := by decide +kernel
set_option maxRecDepth 1000000 in
theorem rg_will_0 : ev_two 81 157 [(1, 0, 2147483647), (1, 0, 4294967295)] = true := by decide +kernel
set_option maxRecDepth 1000000 in
theorem rg_will_1 : ev_two 81 157 [(1, 2147483648, 4294967295), (1, 0, 4294967295)] = true := by decide +kernel
set_option maxRecDepth 1000000 in
theorem rg_field_0 : ev_two 82 158 [(1, 0, 2147483647)] = true := by decide +kernel
set_option maxRecDepth 1000000 in
theorem rg_field_1 : ev_two 82 158 [(1, 2147483709, 4294967295)] = true := by decide +kernel
set_option maxRecDepth 1000000 in
theorem rg_harm_0 : ev_two 83 159 [] = true := by decide +kernel
set_option maxRecDepth 1000000 in
theorem rg_turn_0 : ev_two 84 162 [(1, 0, 2147483647), (1, 0, 4294967295)] = true := by decide +kernel
set_option maxRecDepth 1000000 in
theorem rg_turn_1 : ev_two 84 162 [(1, 2147483648, 4294967295), (1, 0, 4294967295)] = true := by decide +kernel
set_option maxRecDepth 1000000 in
theorem rg_plain_0 : ev_two 85 163 [] = true := by decide +kernel
set_option maxRecDepth 1000000 in
theorem rg_write_0 : ev_two 87 167 [(1, 0, 2147483647), (1, 0, 2147483646), (1, 0, 2147483646)] = true := by decide +kernel
set_option maxRecDepth 1000000 in
theorem rg_write_1 : ev_two 87 167 [(1, 0, 2147483647), (1, 0, 2147483646), (0, 4294967295, 0)] = true := by decide +kernel
set_option maxRecDepth 1000000 in
theorem rg_write_2 : ev_two 87 167 [(1, 0, 2147483647), (1, 0, 2147483646), (1, 2147483648, 4294967295)] = true := by decide +kernel
set_option maxRecDepth 1000000 in
theorem rg_write_3 : ev_two 87 167 [(1, 0, 2147483647), (0, 4294967295, 0), (1, 0, 2147483646)] = true := by decide +kernel
set_option maxRecDepth 1000000 in
theorem rg_write_4 : ev_two 87 167 [(1, 0, 2147483647), (0, 4294967295, 0), (0, 4294967295, 0)] = true := by decide +kernel
set_option maxRecDepth 1000000 in
theorem rg_write_5 : ev_two 87 167 [(1, 0, 2147483647), (0, 4294967295, 0), (1, 2147483648, 4294967295)] = true := by decide +kernel
set_option maxRecDepth 1000000 in
theorem rg_write_6 : ev_two 87 167 [(1, 0, 2147483647), (1, 2147483648, 4294967295), (1, 0, 2147483646)] = true := by decide +kernel
set_option maxRecDepth 1000000 in
theorem rg_write_7 : ev_two 87 167 [(1, 0, 2147483647), (1, 2147483648, 4294967295), (0, 4294967295, 0)] = true := by decide +kernel
set_option maxRecDepth 1000000 in
theorem rg_write_8 : ev_two 87 167 [(1, 0, 2147483647), (1, 2147483648, 4294967295), (1, 2147483648, 4294967295)] = true := by decide +kernel
set_option maxRecDepth 1000000 in
theorem rg_write_9 : ev_two 87 167 [(1, 2147483648, 4294967295), (1, 0, 2147483646), (1, 0, 2147483646)] = true := by decide +kernel
set_option maxRecDepth 1000000 in
theorem rg_write_10 : ev_two 87 167 [(1, 2147483648, 4294967295), (1, 0, 2147483646), (0, 4294967295, 0)] = true := by decide +kernel
set_option maxRecDepth 1000000 in
theorem rg_write_11 : ev_two 87 167 [(1, 2147483648, 4294967295), (1, 0, 2147483646), (1, 2147483648, 4294967295)] = true := by decide +kernel
set_option maxRecDepth 1000000 in
theorem rg_write_12 : ev_two 87 167 [(1, 2147483648, 4294967295), (0, 4294967295, 0), (1, 0, 2147483646)] = true := by decide +kernel
set_option maxRecDepth 1000000 in
theorem rg_write_13 : ev_two 87 167 [(1, 2147483648, 4294967295), (0, 4294967295, 0), (0, 4294967295, 0)] = true := by decide +kernel
set_option maxRecDepth 1000000 in
theorem rg_write_14 : ev_two 87 167 [(1, 2147483648, 4294967295), (0, 4294967295, 0), (1, 2147483648, 4294967295)] = true := by decide +kernel
set_option maxRecDepth 1000000 in
theorem rg_write_15 : ev_two 87 167 [(1, 2147483648, 4294967295), (1, 2147483648, 4294967295), (1, 0, 2147483646)] = true := by decide +kernel
set_option maxRecDepth 1000000 in
theorem rg_write_16 : ev_two 87 167 [(1, 2147483648, 4294967295), (1, 2147483648, 4294967295), (0, 4294967295, 0)] = true := by decide +kernel
set_option maxRecDepth 1000000 in
theorem rg_write_17 : ev_two 87 167 [(1, 2147483648, 4294967295), (1, 2147483648, 4294967295), (1, 2147483648, 4294967295)] = true := by decide +kernel
set_option maxRecDepth 1000000 in
theorem rg_watch_0 : ev_two 88 168 [] = true := by decide +kernel
set_option maxRecDepth 1000000 in
theorem rg_cows_0 : ev_two 89 169 [(1, 0, 2147483647), (1, 0, 4294967295)] = true := by decide +kernel
set_option maxRecDepth 1000000 in
theorem rg_cows_1 : ev_two 89 169 [(1, 2147483648, 4294967295), (1, 0, 4294967295)] = true := by decide +kernel
set_option maxRecDepth 1000000 in
theorem rg_lies_0 : ev_two 91 151 [(1, 0, 2147483647)] = true := by decide +kernel
set_option maxRecDepth 1000000 in
theorem rg_lies_1 : ev_two 91 151 [(1, 2147483648, 4294967295)] = true := by decide +kernel
set_option maxRecDepth 1000000 in
theorem rg_heard_0 : ev_two 92 173 [(1, 0, 2147483647), (1, 0, 4294967295), (1, 0, 4294967295), (1, 2147483648, 2147483649)] = true := by decide +kernel
set_option maxRecDepth 1000000 in
theorem rg_heard_1 : ev_two 92 173 [(1, 2147483648, 4294967295), (1, 0, 4294967295), (1, 0, 4294967295), (1, 2147483648, 2147483649)] = true := by decide +kernel
set_option maxRecDepth 1000000 in
theorem rg_untell_0 : ev_two 93 174 [(1, 0, 2147483647)] = true := by decide +kernel
set_option maxRecDepth 1000000 in
theorem rg_untell_1 : ev_two 93 174 [(1, 2147483648, 4294967295)] = true := by decide +kernel
set_option maxRecDepth 1000000 in
theorem rg_later_0 : ev_two 94 175 [(1, 0, 2147483647)] = true := by decide +kernel
set_option maxRecDepth 1000000 in
theorem rg_later_1 : ev_two 94 175 [(1, 2147484649, 4294967295)] = true := by decide +kernel
set_option maxRecDepth 1000000 in
theorem rg_fit_0 : ev_two 95 178 [(1, 0, 4294967295)] = true := by decide +kernel
set_option maxRecDepth 1000000 in
theorem rg_sure_0 : ev_two 96 179 [(1, 0, 2147483647), (1, 0, 4294967295), (1, 0, 4294967295)] = true := by decide +kernel
set_option maxRecDepth 1000000 in
theorem rg_sure_1 : ev_two 96 179 [(1, 2147483648, 4294967295), (1, 0, 4294967295), (1, 0, 4294967295)] = true := by decide +kernel
set_option maxRecDepth 1000000 in
theorem rg_ask_0 : ev_two 97 180 [(1, 0, 2147483647), (1, 0, 4294967295)] = true := by decide +kernel
set_option maxRecDepth 1000000 in
theorem rg_ask_1 : ev_two 97 180 [(1, 2147483648, 2147483649), (1, 0, 4294967295)] = true := by decide +kernel
set_option maxRecDepth 1000000 in
theorem rg_ask_2 : ev_two 97 180 [(1, 2147483650, 4294967295), (1, 0, 4294967295)] = true := by decide +kernel
set_option maxRecDepth 1000000 in
theorem rg_image_0 : ev_two 98 181 [(1, 0, 2147483647)] = true := by decide +kernel
set_option maxRecDepth 1000000 in
theorem rg_image_1 : ev_two 98 181 [(1, 2147483651, 4294967295)] = true := by decide +kernel
set_option maxRecDepth 1000000 in
theorem rg_image_2 : ev_two 98 181 [(0, 0, 0)] = true := by decide +kernel
set_option maxRecDepth 1000000 in
theorem rg_image_3 : ev_two 98 181 [(0, 1, 0)] = true := by decide +kernel
set_option maxRecDepth 1000000 in
theorem rg_image_4 : ev_two 98 181 [(0, 2, 0)] = true := by decide +kernel
set_option maxRecDepth 1000000 in
theorem rg_back_0 : ev_two 99 182 [(1, 0, 2147483647)] = true := by decide +kernel
set_option maxRecDepth 1000000 in
theorem rg_back_1 : ev_two 99 182 [(1, 2147483651, 4294967295)] = true := by decide +kernel
set_option maxRecDepth 1000000 in
theorem rg_back_2 : ev_two 99 182 [(0, 0, 0)] = true := by decide +kernel
set_option maxRecDepth 1000000 in
theorem rg_back_3 : ev_two 99 182 [(0, 1, 0)] = true := by decide +kernel
set_option maxRecDepth 1000000 in
theorem rg_back_4 : ev_two 99 182 [(0, 2, 0)] = true := by decide +kernel
set_option maxRecDepth 1000000 in
theorem rg_about_0 : ev_two 100 183 [(1, 0, 2147483647)] = true := by decide +kernel
set_option maxRecDepth 1000000 in
theorem rg_about_1 : ev_two 100 183 [(0, 0, 0)] = true := by decide +kernel
set_option maxRecDepth 1000000 in
theorem rg_about_2 : ev_two 100 183 [(0, 1, 0)] = true := by decide +kernel
set_option maxRecDepth 1000000 in
theorem rg_about_3 : ev_two 100 183 [(0, 2, 0)] = true := by decide +kernel
set_option maxRecDepth 1000000 in
theorem rg_about_4 : ev_two 100 183 [(0, 3, 0)] = true := by decide +kernel
set_option maxRecDepth 1000000 in
theorem rg_about_5 : ev_two 100 183 [(0, 4, 0)] = true := by decide +kernel
set_option maxRecDepth 1000000 in
theorem rg_about_6 : ev_two 100 183 [(0, 5, 0)] = true := by decide +kernel
set_option maxRecDepth 1000000 in
theorem rg_about_7 : ev_two 100 183 [(0, 6, 0)] = true := by decide +kernel
set_option maxRecDepth 1000000 in
theorem rg_about_8 : ev_two 100 183 [(0, 7, 0)] = true := by decide +kernel
set_option maxRecDepth 1000000 in
theorem rg_about_9 : ev_two 100 183 [(0, 8, 0)] = true := by decide +kernel
set_option maxRecDepth 1000000 in
theorem rg_about_10 : ev_two 100 183 [(0, 9, 0)] = true := by decide +kernel
set_option maxRecDepth 1000000 in
theorem rg_about_11 : ev_two 100 183 [(0, 10, 0)] = true := by decide +kernel
set_option maxRecDepth 1000000 in
theorem rg_about_12 : ev_two 100 183 [(0, 11, 0)] = true := by decide +kernel
set_option maxRecDepth 1000000 in
theorem rg_about_13 : ev_two 100 183 [(0, 12, 0)] = true := by decide +kernel
set_option maxRecDepth 1000000 in
theorem rg_about_14 : ev_two 100 183 [(0, 13, 0)] = true := by decide +kernel
set_option maxRecDepth 1000000 in
theorem rg_about_15 : ev_two 100 183 [(0, 14, 0)] = true := by decide +kernel
set_option maxRecDepth 1000000 in
theorem rg_about_16 : ev_two 100 183 [(1, 2147483663, 4294967295)] = true := by decide +kernel
set_option maxRecDepth 1000000 in
theorem rg_later_x : (List.range 1001).all (fun u => ev_two 94 175 [(0, u, 0)]) = true := by decide +kernel
