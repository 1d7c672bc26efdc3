theorem dX7_pass_101 : decode cX7_pass 101 = .ok (.iload 5, 2) := by decide +kernel
theorem dX7_pass_103 : decode cX7_pass 103 = .ok (.invokevirtual 79, 3) := by decide +kernel
theorem dX7_pass_106 : decode cX7_pass 106 = .ok (.iinc 3 1, 3) := by decide +kernel
theorem dX7_pass_109 : decode cX7_pass 109 = .ok (.goto (-105), 3) := by decide +kernel
theorem dX7_pass_112 : decode cX7_pass 112 = .ok (.aload_n 0, 1) := by decide +kernel
theorem dX7_pass_113 : decode cX7_pass 113 = .ok (.dup, 1) := by decide +kernel
theorem dX7_pass_114 : decode cX7_pass 114 = .ok (.getfield 57, 3) := by decide +kernel
theorem dX7_pass_117 : decode cX7_pass 117 = .ok (.aload_n 0, 1) := by decide +kernel
theorem dX7_pass_118 : decode cX7_pass 118 = .ok (.getfield 12, 3) := by decide +kernel
theorem dX7_pass_121 : decode cX7_pass 121 = .ok (.getfield 101, 3) := by decide +kernel
theorem dX7_pass_124 : decode cX7_pass 124 = .ok (.lload_n 1, 1) := by decide +kernel
theorem dX7_pass_125 : decode cX7_pass 125 = .ok (.lsub, 1) := by decide +kernel
theorem dX7_pass_126 : decode cX7_pass 126 = .ok (.lsub, 1) := by decide +kernel
theorem dX7_pass_127 : decode cX7_pass 127 = .ok (.putfield 57, 3) := by decide +kernel
theorem dX7_pass_130 : decode cX7_pass 130 = .ok (.aload_n 0, 1) := by decide +kernel
theorem dX7_pass_131 : decode cX7_pass 131 = .ok (.getfield 65, 3) := by decide +kernel
theorem dX7_pass_134 : decode cX7_pass 134 = .ok (.ifCond .ne 26, 3) := by decide +kernel
theorem dX7_pass_137 : decode cX7_pass 137 = .ok (.aload_n 0, 1) := by decide +kernel
theorem dX7_pass_138 : decode cX7_pass 138 = .ok (.getfield 21, 3) := by decide +kernel
theorem dX7_pass_141 : decode cX7_pass 141 = .ok (.aload_n 0, 1) := by decide +kernel
theorem dX7_pass_142 : decode cX7_pass 142 = .ok (.getfield 12, 3) := by decide +kernel
theorem dX7_pass_145 : decode cX7_pass 145 = .ok (.getfield 117, 3) := by decide +kernel
theorem dX7_pass_148 : decode cX7_pass 148 = .ok (.l2i, 1) := by decide +kernel
theorem dX7_pass_149 : decode cX7_pass 149 = .ok (.aload_n 0, 1) := by decide +kernel
theorem dX7_pass_150 : decode cX7_pass 150 = .ok (.getfield 12, 3) := by decide +kernel
theorem dX7_pass_153 : decode cX7_pass 153 = .ok (.getfield 120, 3) := by decide +kernel
theorem dX7_pass_156 : decode cX7_pass 156 = .ok (.l2i, 1) := by decide +kernel
theorem dX7_pass_157 : decode cX7_pass 157 = .ok (.invokevirtual 111, 3) := by decide +kernel
theorem dX7_pass_160 : decode cX7_pass 160 = .ok (.return_, 1) := by decide +kernel
theorem dX7_reset_0 : decode cX7_reset 0 = .ok (.aload_n 0, 1) := by decide +kernel
theorem dX7_reset_1 : decode cX7_reset 1 = .ok (.iconst 0, 1) := by decide +kernel
theorem dX7_reset_2 : decode cX7_reset 2 = .ok (.putfield 37, 3) := by decide +kernel
theorem dX7_reset_5 : decode cX7_reset 5 = .ok (.return_, 1) := by decide +kernel
theorem dX7_takeNext_0 : decode cX7_takeNext 0 = .ok (.aload_n 0, 1) := by decide +kernel
theorem dX7_takeNext_1 : decode cX7_takeNext 1 = .ok (.invokevirtual 69, 3) := by decide +kernel
theorem dX7_takeNext_4 : decode cX7_takeNext 4 = .ok (.aload_n 0, 1) := by decide +kernel
theorem dX7_takeNext_5 : decode cX7_takeNext 5 = .ok (.aload_n 0, 1) := by decide +kernel
theorem dX7_takeNext_6 : decode cX7_takeNext 6 = .ok (.getfield 25, 3) := by decide +kernel
theorem dX7_takeNext_9 : decode cX7_takeNext 9 = .ok (.aload_n 0, 1) := by decide +kernel
theorem dX7_takeNext_10 : decode cX7_takeNext 10 = .ok (.getfield 50, 3) := by decide +kernel
theorem dX7_takeNext_13 : decode cX7_takeNext 13 = .ok (.invokevirtual 123, 3) := by decide +kernel
theorem dX7_takeNext_16 : decode cX7_takeNext 16 = .ok (.putfield 50, 3) := by decide +kernel
theorem dX7_takeNext_19 : decode cX7_takeNext 19 = .ok (.aload_n 0, 1) := by decide +kernel
theorem dX7_takeNext_20 : decode cX7_takeNext 20 = .ok (.aload_n 0, 1) := by decide +kernel
theorem dX7_takeNext_21 : decode cX7_takeNext 21 = .ok (.getfield 25, 3) := by decide +kernel
theorem dX7_takeNext_24 : decode cX7_takeNext 24 = .ok (.aload_n 0, 1) := by decide +kernel
theorem dX7_takeNext_25 : decode cX7_takeNext 25 = .ok (.getfield 50, 3) := by decide +kernel
theorem dX7_takeNext_28 : decode cX7_takeNext 28 = .ok (.invokevirtual 126, 3) := by decide +kernel
theorem dX7_takeNext_31 : decode cX7_takeNext 31 = .ok (.putfield 57, 3) := by decide +kernel
theorem dX7_takeNext_34 : decode cX7_takeNext 34 = .ok (.aload_n 0, 1) := by decide +kernel
theorem dX7_takeNext_35 : decode cX7_takeNext 35 = .ok (.aload_n 0, 1) := by decide +kernel
theorem dX7_takeNext_36 : decode cX7_takeNext 36 = .ok (.getfield 65, 3) := by decide +kernel
theorem dX7_takeNext_39 : decode cX7_takeNext 39 = .ok (.ifCond .ne 7, 3) := by decide +kernel
theorem dX7_takeNext_42 : decode cX7_takeNext 42 = .ok (.iconst 1, 1) := by decide +kernel
theorem dX7_takeNext_43 : decode cX7_takeNext 43 = .ok (.goto 4, 3) := by decide +kernel
theorem dX7_takeNext_46 : decode cX7_takeNext 46 = .ok (.iconst 0, 1) := by decide +kernel
theorem dX7_takeNext_47 : decode cX7_takeNext 47 = .ok (.putfield 65, 3) := by decide +kernel
theorem dX7_takeNext_50 : decode cX7_takeNext 50 = .ok (.return_, 1) := by decide +kernel
theorem dX7_taken_0 : decode cX7_taken 0 = .ok (.aload_n 0, 1) := by decide +kernel
theorem dX7_taken_1 : decode cX7_taken 1 = .ok (.getfield 37, 3) := by decide +kernel
theorem dX7_taken_4 : decode cX7_taken 4 = .ok (.ireturn, 1) := by decide +kernel
theorem dX8_clear_0 : decode cX8_clear 0 = .ok (.aload_n 0, 1) := by decide +kernel
theorem dX8_clear_1 : decode cX8_clear 1 = .ok (.getfield 33, 3) := by decide +kernel
theorem dX8_clear_4 : decode cX8_clear 4 = .ok (.invokevirtual 73, 3) := by decide +kernel
theorem dX8_clear_7 : decode cX8_clear 7 = .ok (.aload_n 0, 1) := by decide +kernel
theorem dX8_clear_8 : decode cX8_clear 8 = .ok (.getfield 12, 3) := by decide +kernel
theorem dX8_clear_11 : decode cX8_clear 11 = .ok (.invokevirtual 76, 3) := by decide +kernel
theorem dX8_clear_14 : decode cX8_clear 14 = .ok (.ireturn, 1) := by decide +kernel
theorem dX8_close_0 : decode cX8_close 0 = .ok (.aload_n 0, 1) := by decide +kernel
theorem dX8_close_1 : decode cX8_close 1 = .ok (.getfield 12, 3) := by decide +kernel
theorem dX8_close_4 : decode cX8_close 4 = .ok (.invokevirtual 69, 3) := by decide +kernel
theorem dX8_close_7 : decode cX8_close 7 = .ok (.ireturn, 1) := by decide +kernel
theorem dX8_corner_0 : decode cX8_corner 0 = .ok (.aload_n 0, 1) := by decide +kernel
theorem dX8_corner_1 : decode cX8_corner 1 = .ok (.getfield 33, 3) := by decide +kernel
theorem dX8_corner_4 : decode cX8_corner 4 = .ok (.iload_n 1, 1) := by decide +kernel
theorem dX8_corner_5 : decode cX8_corner 5 = .ok (.iload_n 2, 1) := by decide +kernel
theorem dX8_corner_6 : decode cX8_corner 6 = .ok (.iload_n 3, 1) := by decide +kernel
theorem dX8_corner_7 : decode cX8_corner 7 = .ok (.invokevirtual 121, 3) := by decide +kernel
theorem dX8_corner_10 : decode cX8_corner 10 = .ok (.ireturn, 1) := by decide +kernel
theorem dX8_dashes_0 : decode cX8_dashes 0 = .ok (.aload_n 0, 1) := by decide +kernel
theorem dX8_dashes_1 : decode cX8_dashes 1 = .ok (.getfield 26, 3) := by decide +kernel
theorem dX8_dashes_4 : decode cX8_dashes 4 = .ok (.iload_n 1, 1) := by decide +kernel
theorem dX8_dashes_5 : decode cX8_dashes 5 = .ok (.iload_n 2, 1) := by decide +kernel
theorem dX8_dashes_6 : decode cX8_dashes 6 = .ok (.invokevirtual 86, 3) := by decide +kernel
theorem dX8_dashes_9 : decode cX8_dashes 9 = .ok (.ireturn, 1) := by decide +kernel
theorem dX8_init_0 : decode cX8_init 0 = .ok (.aload_n 0, 1) := by decide +kernel
theorem dX8_init_1 : decode cX8_init 1 = .ok (.invokespecial 3, 3) := by decide +kernel
theorem dX8_init_4 : decode cX8_init 4 = .ok (.aload_n 0, 1) := by decide +kernel
theorem dX8_init_5 : decode cX8_init 5 = .ok (.new 9, 3) := by decide +kernel
theorem dX8_init_8 : decode cX8_init 8 = .ok (.dup, 1) := by decide +kernel
theorem dX8_init_9 : decode cX8_init 9 = .ok (.invokespecial 11, 3) := by decide +kernel
theorem dX8_init_12 : decode cX8_init 12 = .ok (.putfield 12, 3) := by decide +kernel
theorem dX8_init_15 : decode cX8_init 15 = .ok (.aload_n 0, 1) := by decide +kernel
theorem dX8_init_16 : decode cX8_init 16 = .ok (.new 16, 3) := by decide +kernel
theorem dX8_init_19 : decode cX8_init 19 = .ok (.dup, 1) := by decide +kernel
theorem dX8_init_20 : decode cX8_init 20 = .ok (.invokespecial 18, 3) := by decide +kernel
theorem dX8_init_23 : decode cX8_init 23 = .ok (.putfield 19, 3) := by decide +kernel
theorem dX8_init_26 : decode cX8_init 26 = .ok (.aload_n 0, 1) := by decide +kernel
theorem dX8_init_27 : decode cX8_init 27 = .ok (.new 23, 3) := by decide +kernel
theorem dX8_init_30 : decode cX8_init 30 = .ok (.dup, 1) := by decide +kernel
theorem dX8_init_31 : decode cX8_init 31 = .ok (.invokespecial 25, 3) := by decide +kernel
theorem dX8_init_34 : decode cX8_init 34 = .ok (.putfield 26, 3) := by decide +kernel
theorem dX8_init_37 : decode cX8_init 37 = .ok (.aload_n 0, 1) := by decide +kernel
theorem dX8_init_38 : decode cX8_init 38 = .ok (.new 30, 3) := by decide +kernel
theorem dX8_init_41 : decode cX8_init 41 = .ok (.dup, 1) := by decide +kernel
theorem dX8_init_42 : decode cX8_init 42 = .ok (.invokespecial 32, 3) := by decide +kernel
theorem dX8_init_45 : decode cX8_init 45 = .ok (.putfield 33, 3) := by decide +kernel
theorem dX8_init_48 : decode cX8_init 48 = .ok (.aload_n 0, 1) := by decide +kernel
theorem dX8_init_49 : decode cX8_init 49 = .ok (.new 37, 3) := by decide +kernel
theorem dX8_init_52 : decode cX8_init 52 = .ok (.dup, 1) := by decide +kernel
theorem dX8_init_53 : decode cX8_init 53 = .ok (.aload_n 0, 1) := by decide +kernel
theorem dX8_init_54 : decode cX8_init 54 = .ok (.getfield 19, 3) := by decide +kernel
theorem dX8_init_57 : decode cX8_init 57 = .ok (.aload_n 0, 1) := by decide +kernel
theorem dX8_init_58 : decode cX8_init 58 = .ok (.getfield 33, 3) := by decide +kernel
theorem dX8_init_61 : decode cX8_init 61 = .ok (.invokespecial 39, 3) := by decide +kernel
theorem dX8_init_64 : decode cX8_init 64 = .ok (.putfield 42, 3) := by decide +kernel
theorem dX8_init_67 : decode cX8_init 67 = .ok (.aload_n 0, 1) := by decide +kernel
theorem dX8_init_68 : decode cX8_init 68 = .ok (.new 46, 3) := by decide +kernel
theorem dX8_init_71 : decode cX8_init 71 = .ok (.dup, 1) := by decide +kernel
theorem dX8_init_72 : decode cX8_init 72 = .ok (.aload_n 0, 1) := by decide +kernel
theorem dX8_init_73 : decode cX8_init 73 = .ok (.getfield 26, 3) := by decide +kernel
theorem dX8_init_76 : decode cX8_init 76 = .ok (.aload_n 0, 1) := by decide +kernel
theorem dX8_init_77 : decode cX8_init 77 = .ok (.getfield 42, 3) := by decide +kernel
theorem dX8_init_80 : decode cX8_init 80 = .ok (.aload_n 0, 1) := by decide +kernel
theorem dX8_init_81 : decode cX8_init 81 = .ok (.getfield 33, 3) := by decide +kernel
theorem dX8_init_84 : decode cX8_init 84 = .ok (.invokespecial 48, 3) := by decide +kernel
theorem dX8_init_87 : decode cX8_init 87 = .ok (.putfield 51, 3) := by decide +kernel
theorem dX8_init_90 : decode cX8_init 90 = .ok (.aload_n 0, 1) := by decide +kernel
theorem dX8_init_91 : decode cX8_init 91 = .ok (.new 55, 3) := by decide +kernel
theorem dX8_init_94 : decode cX8_init 94 = .ok (.dup, 1) := by decide +kernel
theorem dX8_init_95 : decode cX8_init 95 = .ok (.invokespecial 57, 3) := by decide +kernel
theorem dX8_init_98 : decode cX8_init 98 = .ok (.putfield 58, 3) := by decide +kernel
theorem dX8_init_101 : decode cX8_init 101 = .ok (.return_, 1) := by decide +kernel
theorem dX8_isPlace_0 : decode cX8_isPlace 0 = .ok (.lload_n 0, 1) := by decide +kernel
theorem dX8_isPlace_1 : decode cX8_isPlace 1 = .ok (.ldc2_w 128, 3) := by decide +kernel
theorem dX8_isPlace_4 : decode cX8_isPlace 4 = .ok (.lcmp, 1) := by decide +kernel
theorem dX8_isPlace_5 : decode cX8_isPlace 5 = .ok (.ifCond .lt 15, 3) := by decide +kernel
theorem dX8_isPlace_8 : decode cX8_isPlace 8 = .ok (.lload_n 0, 1) := by decide +kernel
theorem dX8_isPlace_9 : decode cX8_isPlace 9 = .ok (.ldc2_w 130, 3) := by decide +kernel
theorem dX8_isPlace_12 : decode cX8_isPlace 12 = .ok (.lcmp, 1) := by decide +kernel
theorem dX8_isPlace_13 : decode cX8_isPlace 13 = .ok (.ifCond .gt 7, 3) := by decide +kernel
theorem dX8_isPlace_16 : decode cX8_isPlace 16 = .ok (.iconst 1, 1) := by decide +kernel
theorem dX8_isPlace_17 : decode cX8_isPlace 17 = .ok (.goto 4, 3) := by decide +kernel
theorem dX8_isPlace_20 : decode cX8_isPlace 20 = .ok (.iconst 0, 1) := by decide +kernel
theorem dX8_isPlace_21 : decode cX8_isPlace 21 = .ok (.ireturn, 1) := by decide +kernel
theorem dX8_isUnits_0 : decode cX8_isUnits 0 = .ok (.iload_n 0, 1) := by decide +kernel
theorem dX8_isUnits_1 : decode cX8_isUnits 1 = .ok (.ifCond .lt 13, 3) := by decide +kernel
theorem dX8_isUnits_4 : decode cX8_isUnits 4 = .ok (.iload_n 0, 1) := by decide +kernel
theorem dX8_isUnits_5 : decode cX8_isUnits 5 = .ok (.ldc 132, 2) := by decide +kernel
theorem dX8_isUnits_7 : decode cX8_isUnits 7 = .ok (.if_icmp .gt 7, 3) := by decide +kernel
theorem dX8_isUnits_10 : decode cX8_isUnits 10 = .ok (.iconst 1, 1) := by decide +kernel
theorem dX8_isUnits_11 : decode cX8_isUnits 11 = .ok (.goto 4, 3) := by decide +kernel
theorem dX8_isUnits_14 : decode cX8_isUnits 14 = .ok (.iconst 0, 1) := by decide +kernel
theorem dX8_isUnits_15 : decode cX8_isUnits 15 = .ok (.ireturn, 1) := by decide +kernel
theorem dX8_length_0 : decode cX8_length 0 = .ok (.aload_n 0, 1) := by decide +kernel
theorem dX8_length_1 : decode cX8_length 1 = .ok (.getfield 26, 3) := by decide +kernel
theorem dX8_length_4 : decode cX8_length 4 = .ok (.iload_n 1, 1) := by decide +kernel
theorem dX8_length_5 : decode cX8_length 5 = .ok (.iload_n 2, 1) := by decide +kernel
theorem dX8_length_6 : decode cX8_length 6 = .ok (.invokevirtual 82, 3) := by decide +kernel
theorem dX8_length_9 : decode cX8_length 9 = .ok (.ireturn, 1) := by decide +kernel
theorem dX8_line_0 : decode cX8_line 0 = .ok (.aload_n 0, 1) := by decide +kernel
theorem dX8_line_1 : decode cX8_line 1 = .ok (.getfield 12, 3) := by decide +kernel
theorem dX8_line_4 : decode cX8_line 4 = .ok (.iload_n 1, 1) := by decide +kernel
theorem dX8_line_5 : decode cX8_line 5 = .ok (.iload_n 2, 1) := by decide +kernel
theorem dX8_line_6 : decode cX8_line 6 = .ok (.invokevirtual 66, 3) := by decide +kernel
theorem dX8_line_9 : decode cX8_line 9 = .ok (.ireturn, 1) := by decide +kernel
theorem dX8_move_0 : decode cX8_move 0 = .ok (.aload_n 0, 1) := by decide +kernel
theorem dX8_move_1 : decode cX8_move 1 = .ok (.getfield 12, 3) := by decide +kernel
theorem dX8_move_4 : decode cX8_move 4 = .ok (.iload_n 1, 1) := by decide +kernel
theorem dX8_move_5 : decode cX8_move 5 = .ok (.iload_n 2, 1) := by decide +kernel
theorem dX8_move_6 : decode cX8_move 6 = .ok (.invokevirtual 62, 3) := by decide +kernel
theorem dX8_move_9 : decode cX8_move 9 = .ok (.ireturn, 1) := by decide +kernel
theorem dX8_pen_0 : decode cX8_pen 0 = .ok (.aload_n 0, 1) := by decide +kernel
theorem dX8_pen_1 : decode cX8_pen 1 = .ok (.getfield 19, 3) := by decide +kernel
theorem dX8_pen_4 : decode cX8_pen 4 = .ok (.iload_n 1, 1) := by decide +kernel
theorem dX8_pen_5 : decode cX8_pen 5 = .ok (.iload_n 2, 1) := by decide +kernel
theorem dX8_pen_6 : decode cX8_pen 6 = .ok (.iload_n 3, 1) := by decide +kernel
theorem dX8_pen_7 : decode cX8_pen 7 = .ok (.iload 4, 2) := by decide +kernel
theorem dX8_pen_9 : decode cX8_pen 9 = .ok (.invokevirtual 78, 3) := by decide +kernel
theorem dX8_pen_12 : decode cX8_pen 12 = .ok (.ireturn, 1) := by decide +kernel
theorem dX8_pieces_0 : decode cX8_pieces 0 = .ok (.aload_n 0, 1) := by decide +kernel
theorem dX8_pieces_1 : decode cX8_pieces 1 = .ok (.getfield 33, 3) := by decide +kernel
theorem dX8_pieces_4 : decode cX8_pieces 4 = .ok (.invokevirtual 113, 3) := by decide +kernel
theorem dX8_pieces_7 : decode cX8_pieces 7 = .ok (.ireturn, 1) := by decide +kernel
theorem dX8_root_0 : decode cX8_root 0 = .ok (.lload_n 0, 1) := by decide +kernel
theorem dX8_root_1 : decode cX8_root 1 = .ok (.lstore_n 2, 1) := by decide +kernel
theorem dX8_root_2 : decode cX8_root 2 = .ok (.lconst 0, 1) := by decide +kernel
theorem dX8_root_3 : decode cX8_root 3 = .ok (.lstore 4, 2) := by decide +kernel
theorem dX8_root_5 : decode cX8_root 5 = .ok (.ldc2_w 141, 3) := by decide +kernel
theorem dX8_root_8 : decode cX8_root 8 = .ok (.lstore 6, 2) := by decide +kernel
theorem dX8_root_10 : decode cX8_root 10 = .ok (.lload 6, 2) := by decide +kernel
theorem dX8_root_12 : decode cX8_root 12 = .ok (.lconst 0, 1) := by decide +kernel
theorem dX8_root_13 : decode cX8_root 13 = .ok (.lcmp, 1) := by decide +kernel
theorem dX8_root_14 : decode cX8_root 14 = .ok (.ifCond .le 48, 3) := by decide +kernel
theorem dX8_root_17 : decode cX8_root 17 = .ok (.lload_n 2, 1) := by decide +kernel
theorem dX8_root_18 : decode cX8_root 18 = .ok (.lload 4, 2) := by decide +kernel
theorem dX8_root_20 : decode cX8_root 20 = .ok (.lload 6, 2) := by decide +kernel
theorem dX8_root_22 : decode cX8_root 22 = .ok (.ladd, 1) := by decide +kernel
theorem dX8_root_23 : decode cX8_root 23 = .ok (.lcmp, 1) := by decide +kernel
theorem dX8_root_24 : decode cX8_root 24 = .ok (.ifCond .lt 23, 3) := by decide +kernel
theorem dX8_root_27 : decode cX8_root 27 = .ok (.lload_n 2, 1) := by decide +kernel
theorem dX8_root_28 : decode cX8_root 28 = .ok (.lload 4, 2) := by decide +kernel
theorem dX8_root_30 : decode cX8_root 30 = .ok (.lload 6, 2) := by decide +kernel
theorem dX8_root_32 : decode cX8_root 32 = .ok (.ladd, 1) := by decide +kernel
theorem dX8_root_33 : decode cX8_root 33 = .ok (.lsub, 1) := by decide +kernel
theorem dX8_root_34 : decode cX8_root 34 = .ok (.lstore_n 2, 1) := by decide +kernel
theorem dX8_root_35 : decode cX8_root 35 = .ok (.lload 4, 2) := by decide +kernel
theorem dX8_root_37 : decode cX8_root 37 = .ok (.iconst 1, 1) := by decide +kernel
theorem dX8_root_38 : decode cX8_root 38 = .ok (.lshr, 1) := by decide +kernel
theorem dX8_root_39 : decode cX8_root 39 = .ok (.lload 6, 2) := by decide +kernel
theorem dX8_root_41 : decode cX8_root 41 = .ok (.ladd, 1) := by decide +kernel
theorem dX8_root_42 : decode cX8_root 42 = .ok (.lstore 4, 2) := by decide +kernel
theorem dX8_root_44 : decode cX8_root 44 = .ok (.goto 9, 3) := by decide +kernel
theorem dX8_root_47 : decode cX8_root 47 = .ok (.lload 4, 2) := by decide +kernel
theorem dX8_root_49 : decode cX8_root 49 = .ok (.iconst 1, 1) := by decide +kernel
theorem dX8_root_50 : decode cX8_root 50 = .ok (.lshr, 1) := by decide +kernel
theorem dX8_root_51 : decode cX8_root 51 = .ok (.lstore 4, 2) := by decide +kernel
theorem dX8_root_53 : decode cX8_root 53 = .ok (.lload 6, 2) := by decide +kernel
theorem dX8_root_55 : decode cX8_root 55 = .ok (.iconst 2, 1) := by decide +kernel
theorem dX8_root_56 : decode cX8_root 56 = .ok (.lshr, 1) := by decide +kernel
theorem dX8_root_57 : decode cX8_root 57 = .ok (.lstore 6, 2) := by decide +kernel
theorem dX8_root_59 : decode cX8_root 59 = .ok (.goto (-49), 3) := by decide +kernel
theorem dX8_root_62 : decode cX8_root 62 = .ok (.lload 4, 2) := by decide +kernel
theorem dX8_root_64 : decode cX8_root 64 = .ok (.lreturn, 1) := by decide +kernel
theorem dX8_rounded_0 : decode cX8_rounded 0 = .ok (.lload_n 2, 1) := by decide +kernel
theorem dX8_rounded_1 : decode cX8_rounded 1 = .ok (.lconst 0, 1) := by decide +kernel
theorem dX8_rounded_2 : decode cX8_rounded 2 = .ok (.lcmp, 1) := by decide +kernel
theorem dX8_rounded_3 : decode cX8_rounded 3 = .ok (.ifCond .gt 5, 3) := by decide +kernel
theorem dX8_rounded_6 : decode cX8_rounded 6 = .ok (.lconst 0, 1) := by decide +kernel
theorem dX8_rounded_7 : decode cX8_rounded 7 = .ok (.lreturn, 1) := by decide +kernel
theorem dX8_rounded_8 : decode cX8_rounded 8 = .ok (.ldc2_w 133, 3) := by decide +kernel
theorem dX8_rounded_11 : decode cX8_rounded 11 = .ok (.lload_n 0, 1) := by decide +kernel
theorem dX8_rounded_12 : decode cX8_rounded 12 = .ok (.lmul, 1) := by decide +kernel
theorem dX8_rounded_13 : decode cX8_rounded 13 = .ok (.lload_n 2, 1) := by decide +kernel
theorem dX8_rounded_14 : decode cX8_rounded 14 = .ok (.ladd, 1) := by decide +kernel
theorem dX8_rounded_15 : decode cX8_rounded 15 = .ok (.ldc2_w 133, 3) := by decide +kernel
theorem dX8_rounded_18 : decode cX8_rounded 18 = .ok (.lload_n 2, 1) := by decide +kernel
theorem dX8_rounded_19 : decode cX8_rounded 19 = .ok (.lmul, 1) := by decide +kernel
theorem dX8_rounded_20 : decode cX8_rounded 20 = .ok (.invokestatic 135, 3) := by decide +kernel
theorem dX8_rounded_23 : decode cX8_rounded 23 = .ok (.lreturn, 1) := by decide +kernel
theorem dX8_sort_0 : decode cX8_sort 0 = .ok (.aload_n 0, 1) := by decide +kernel
theorem dX8_sort_1 : decode cX8_sort 1 = .ok (.getfield 33, 3) := by decide +kernel
theorem dX8_sort_4 : decode cX8_sort 4 = .ok (.iload_n 1, 1) := by decide +kernel
theorem dX8_sort_5 : decode cX8_sort 5 = .ok (.invokevirtual 117, 3) := by decide +kernel
theorem dX8_sort_8 : decode cX8_sort 8 = .ok (.ireturn, 1) := by decide +kernel
theorem dX8_stroke_0 : decode cX8_stroke 0 = .ok (.aload_n 0, 1) := by decide +kernel
theorem dX8_stroke_1 : decode cX8_stroke 1 = .ok (.getfield 33, 3) := by decide +kernel
theorem dX8_stroke_4 : decode cX8_stroke 4 = .ok (.invokevirtual 73, 3) := by decide +kernel
theorem dX8_stroke_7 : decode cX8_stroke 7 = .ok (.aload_n 0, 1) := by decide +kernel
theorem dX8_stroke_8 : decode cX8_stroke 8 = .ok (.getfield 51, 3) := by decide +kernel
theorem dX8_stroke_11 : decode cX8_stroke 11 = .ok (.invokevirtual 89, 3) := by decide +kernel
theorem dX8_stroke_14 : decode cX8_stroke 14 = .ok (.aload_n 0, 1) := by decide +kernel
theorem dX8_stroke_15 : decode cX8_stroke 15 = .ok (.getfield 12, 3) := by decide +kernel
theorem dX8_stroke_18 : decode cX8_stroke 18 = .ok (.invokevirtual 92, 3) := by decide +kernel
theorem dX8_stroke_21 : decode cX8_stroke 21 = .ok (.istore_n 1, 1) := by decide +kernel
theorem dX8_stroke_22 : decode cX8_stroke 22 = .ok (.iconst 0, 1) := by decide +kernel
theorem dX8_stroke_23 : decode cX8_stroke 23 = .ok (.istore_n 2, 1) := by decide +kernel
theorem dX8_stroke_24 : decode cX8_stroke 24 = .ok (.iload_n 2, 1) := by decide +kernel
theorem dX8_stroke_25 : decode cX8_stroke 25 = .ok (.iload_n 1, 1) := by decide +kernel
theorem dX8_stroke_26 : decode cX8_stroke 26 = .ok (.if_icmp .ge 66, 3) := by decide +kernel
theorem dX8_stroke_29 : decode cX8_stroke 29 = .ok (.aload_n 0, 1) := by decide +kernel
theorem dX8_stroke_30 : decode cX8_stroke 30 = .ok (.getfield 33, 3) := by decide +kernel
theorem dX8_stroke_33 : decode cX8_stroke 33 = .ok (.invokevirtual 95, 3) := by decide +kernel
theorem dX8_stroke_36 : decode cX8_stroke 36 = .ok (.ifCond .eq 56, 3) := by decide +kernel
theorem dX8_stroke_39 : decode cX8_stroke 39 = .ok (.aload_n 0, 1) := by decide +kernel
theorem dX8_stroke_40 : decode cX8_stroke 40 = .ok (.getfield 12, 3) := by decide +kernel
theorem dX8_stroke_43 : decode cX8_stroke 43 = .ok (.aload_n 0, 1) := by decide +kernel
theorem dX8_stroke_44 : decode cX8_stroke 44 = .ok (.getfield 58, 3) := by decide +kernel
theorem dX8_stroke_47 : decode cX8_stroke 47 = .ok (.iload_n 2, 1) := by decide +kernel
theorem dX8_stroke_48 : decode cX8_stroke 48 = .ok (.invokevirtual 99, 3) := by decide +kernel
theorem dX8_stroke_51 : decode cX8_stroke 51 = .ok (.aload_n 0, 1) := by decide +kernel
theorem dX8_stroke_52 : decode cX8_stroke 52 = .ok (.getfield 26, 3) := by decide +kernel
theorem dX8_stroke_55 : decode cX8_stroke 55 = .ok (.invokevirtual 103, 3) := by decide +kernel
theorem dX8_stroke_58 : decode cX8_stroke 58 = .ok (.ifCond .eq 17, 3) := by decide +kernel
theorem dX8_stroke_61 : decode cX8_stroke 61 = .ok (.aload_n 0, 1) := by decide +kernel
theorem dX8_stroke_62 : decode cX8_stroke 62 = .ok (.getfield 51, 3) := by decide +kernel
theorem dX8_stroke_65 : decode cX8_stroke 65 = .ok (.aload_n 0, 1) := by decide +kernel
theorem dX8_stroke_66 : decode cX8_stroke 66 = .ok (.getfield 58, 3) := by decide +kernel
theorem dX8_stroke_69 : decode cX8_stroke 69 = .ok (.invokevirtual 106, 3) := by decide +kernel
theorem dX8_stroke_72 : decode cX8_stroke 72 = .ok (.goto 14, 3) := by decide +kernel
theorem dX8_stroke_75 : decode cX8_stroke 75 = .ok (.aload_n 0, 1) := by decide +kernel
theorem dX8_stroke_76 : decode cX8_stroke 76 = .ok (.getfield 42, 3) := by decide +kernel
theorem dX8_stroke_79 : decode cX8_stroke 79 = .ok (.aload_n 0, 1) := by decide +kernel
theorem dX8_stroke_80 : decode cX8_stroke 80 = .ok (.getfield 58, 3) := by decide +kernel
theorem dX8_stroke_83 : decode cX8_stroke 83 = .ok (.invokevirtual 110, 3) := by decide +kernel
theorem dX8_stroke_86 : decode cX8_stroke 86 = .ok (.iinc 2 1, 3) := by decide +kernel
theorem dX8_stroke_89 : decode cX8_stroke 89 = .ok (.goto (-65), 3) := by decide +kernel
theorem dX8_stroke_92 : decode cX8_stroke 92 = .ok (.aload_n 0, 1) := by decide +kernel
theorem dX8_stroke_93 : decode cX8_stroke 93 = .ok (.getfield 33, 3) := by decide +kernel
theorem dX8_stroke_96 : decode cX8_stroke 96 = .ok (.invokevirtual 95, 3) := by decide +kernel
theorem dX8_stroke_99 : decode cX8_stroke 99 = .ok (.ifCond .eq 11, 3) := by decide +kernel
theorem dX8_stroke_102 : decode cX8_stroke 102 = .ok (.aload_n 0, 1) := by decide +kernel
theorem dX8_stroke_103 : decode cX8_stroke 103 = .ok (.getfield 33, 3) := by decide +kernel
theorem dX8_stroke_106 : decode cX8_stroke 106 = .ok (.invokevirtual 113, 3) := by decide +kernel
theorem dX8_stroke_109 : decode cX8_stroke 109 = .ok (.ireturn, 1) := by decide +kernel
theorem dX8_stroke_110 : decode cX8_stroke 110 = .ok (.aload_n 0, 1) := by decide +kernel
theorem dX8_stroke_111 : decode cX8_stroke 111 = .ok (.getfield 33, 3) := by decide +kernel
theorem dX8_stroke_114 : decode cX8_stroke 114 = .ok (.invokevirtual 114, 3) := by decide +kernel
theorem dX8_stroke_117 : decode cX8_stroke 117 = .ok (.istore_n 2, 1) := by decide +kernel
theorem dX8_stroke_118 : decode cX8_stroke 118 = .ok (.aload_n 0, 1) := by decide +kernel
theorem dX8_stroke_119 : decode cX8_stroke 119 = .ok (.getfield 33, 3) := by decide +kernel
theorem dX8_stroke_122 : decode cX8_stroke 122 = .ok (.invokevirtual 73, 3) := by decide +kernel
theorem dX8_stroke_125 : decode cX8_stroke 125 = .ok (.aload_n 0, 1) := by decide +kernel
theorem dX8_stroke_126 : decode cX8_stroke 126 = .ok (.getfield 51, 3) := by decide +kernel
theorem dX8_stroke_129 : decode cX8_stroke 129 = .ok (.invokevirtual 89, 3) := by decide +kernel
theorem dX8_stroke_132 : decode cX8_stroke 132 = .ok (.iload_n 2, 1) := by decide +kernel
theorem dX8_stroke_133 : decode cX8_stroke 133 = .ok (.ireturn, 1) := by decide +kernel
theorem dX8_walked_0 : decode cX8_walked 0 = .ok (.aload_n 0, 1) := by decide +kernel
theorem dX8_walked_1 : decode cX8_walked 1 = .ok (.getfield 51, 3) := by decide +kernel
theorem dX8_walked_4 : decode cX8_walked 4 = .ok (.invokevirtual 125, 3) := by decide +kernel
theorem dX8_walked_7 : decode cX8_walked 7 = .ok (.ireturn, 1) := by decide +kernel
theorem dX9_across_0 : decode cX9_across 0 = .ok (.iload_n 2, 1) := by decide +kernel
theorem dX9_across_1 : decode cX9_across 1 = .ok (.ifCond .eq 11, 3) := by decide +kernel
theorem dX9_across_4 : decode cX9_across 4 = .ok (.aload_n 0, 1) := by decide +kernel
theorem dX9_across_5 : decode cX9_across 5 = .ok (.iload_n 1, 1) := by decide +kernel
theorem dX9_across_6 : decode cX9_across 6 = .ok (.invokevirtual 109, 3) := by decide +kernel
theorem dX9_across_9 : decode cX9_across 9 = .ok (.goto 9, 3) := by decide +kernel
theorem dX9_across_12 : decode cX9_across 12 = .ok (.aload_n 0, 1) := by decide +kernel
theorem dX9_across_13 : decode cX9_across 13 = .ok (.iload_n 1, 1) := by decide +kernel
theorem dX9_across_14 : decode cX9_across 14 = .ok (.invokevirtual 113, 3) := by decide +kernel
theorem dX9_across_17 : decode cX9_across 17 = .ok (.lneg, 1) := by decide +kernel
theorem dX9_across_18 : decode cX9_across 18 = .ok (.aload_n 0, 1) := by decide +kernel
theorem dX9_across_19 : decode cX9_across 19 = .ok (.getfield 21, 3) := by decide +kernel
theorem dX9_across_22 : decode cX9_across 22 = .ok (.i2l, 1) := by decide +kernel
theorem dX9_across_23 : decode cX9_across 23 = .ok (.lmul, 1) := by decide +kernel
theorem dX9_across_24 : decode cX9_across 24 = .ok (.aload_n 0, 1) := by decide +kernel
theorem dX9_across_25 : decode cX9_across 25 = .ok (.iload_n 1, 1) := by decide +kernel
theorem dX9_across_26 : decode cX9_across 26 = .ok (.invokevirtual 109, 3) := by decide +kernel
theorem dX9_across_29 : decode cX9_across 29 = .ok (.aload_n 0, 1) := by decide +kernel
theorem dX9_across_30 : decode cX9_across 30 = .ok (.iload_n 1, 1) := by decide +kernel
theorem dX9_across_31 : decode cX9_across 31 = .ok (.invokevirtual 113, 3) := by decide +kernel
theorem dX9_across_34 : decode cX9_across 34 = .ok (.invokestatic 116, 3) := by decide +kernel
theorem dX9_across_37 : decode cX9_across 37 = .ok (.invokestatic 119, 3) := by decide +kernel
theorem dX9_across_40 : decode cX9_across 40 = .ok (.lreturn, 1) := by decide +kernel
theorem dX9_addRun_0 : decode cX9_addRun 0 = .ok (.aload_n 0, 1) := by decide +kernel
theorem dX9_addRun_1 : decode cX9_addRun 1 = .ok (.getfield 34, 3) := by decide +kernel
theorem dX9_addRun_4 : decode cX9_addRun 4 = .ok (.aload_n 0, 1) := by decide +kernel
theorem dX9_addRun_5 : decode cX9_addRun 5 = .ok (.getfield 146, 3) := by decide +kernel
theorem dX9_addRun_8 : decode cX9_addRun 8 = .ok (.lload_n 1, 1) := by decide +kernel
theorem dX9_addRun_9 : decode cX9_addRun 9 = .ok (.lastore, 1) := by decide +kernel
theorem dX9_addRun_10 : decode cX9_addRun 10 = .ok (.aload_n 0, 1) := by decide +kernel
theorem dX9_addRun_11 : decode cX9_addRun 11 = .ok (.getfield 38, 3) := by decide +kernel
theorem dX9_addRun_14 : decode cX9_addRun 14 = .ok (.aload_n 0, 1) := by decide +kernel
theorem dX9_addRun_15 : decode cX9_addRun 15 = .ok (.getfield 146, 3) := by decide +kernel
theorem dX9_addRun_18 : decode cX9_addRun 18 = .ok (.lload_n 3, 1) := by decide +kernel
theorem dX9_addRun_19 : decode cX9_addRun 19 = .ok (.lastore, 1) := by decide +kernel
theorem dX9_addRun_20 : decode cX9_addRun 20 = .ok (.aload_n 0, 1) := by decide +kernel
theorem dX9_addRun_21 : decode cX9_addRun 21 = .ok (.dup, 1) := by decide +kernel
theorem dX9_addRun_22 : decode cX9_addRun 22 = .ok (.getfield 146, 3) := by decide +kernel
theorem dX9_addRun_25 : decode cX9_addRun 25 = .ok (.iconst 1, 1) := by decide +kernel
theorem dX9_addRun_26 : decode cX9_addRun 26 = .ok (.iadd, 1) := by decide +kernel
theorem dX9_addRun_27 : decode cX9_addRun 27 = .ok (.putfield 146, 3) := by decide +kernel
theorem dX9_addRun_30 : decode cX9_addRun 30 = .ok (.return_, 1) := by decide +kernel
theorem dX9_along_0 : decode cX9_along 0 = .ok (.iload_n 2, 1) := by decide +kernel
theorem dX9_along_1 : decode cX9_along 1 = .ok (.ifCond .eq 11, 3) := by decide +kernel
theorem dX9_along_4 : decode cX9_along 4 = .ok (.aload_n 0, 1) := by decide +kernel
theorem dX9_along_5 : decode cX9_along 5 = .ok (.iload_n 1, 1) := by decide +kernel
theorem dX9_along_6 : decode cX9_along 6 = .ok (.invokevirtual 113, 3) := by decide +kernel
theorem dX9_along_9 : decode cX9_along 9 = .ok (.goto 8, 3) := by decide +kernel
theorem dX9_along_12 : decode cX9_along 12 = .ok (.aload_n 0, 1) := by decide +kernel
theorem dX9_along_13 : decode cX9_along 13 = .ok (.iload_n 1, 1) := by decide +kernel
theorem dX9_along_14 : decode cX9_along 14 = .ok (.invokevirtual 109, 3) := by decide +kernel
theorem dX9_along_17 : decode cX9_along 17 = .ok (.aload_n 0, 1) := by decide +kernel
theorem dX9_along_18 : decode cX9_along 18 = .ok (.getfield 21, 3) := by decide +kernel
theorem dX9_along_21 : decode cX9_along 21 = .ok (.i2l, 1) := by decide +kernel
theorem dX9_along_22 : decode cX9_along 22 = .ok (.lmul, 1) := by decide +kernel
theorem dX9_along_23 : decode cX9_along 23 = .ok (.aload_n 0, 1) := by decide +kernel
theorem dX9_along_24 : decode cX9_along 24 = .ok (.iload_n 1, 1) := by decide +kernel
theorem dX9_along_25 : decode cX9_along 25 = .ok (.invokevirtual 109, 3) := by decide +kernel
theorem dX9_along_28 : decode cX9_along 28 = .ok (.aload_n 0, 1) := by decide +kernel
theorem dX9_along_29 : decode cX9_along 29 = .ok (.iload_n 1, 1) := by decide +kernel
theorem dX9_along_30 : decode cX9_along 30 = .ok (.invokevirtual 113, 3) := by decide +kernel
theorem dX9_along_33 : decode cX9_along 33 = .ok (.invokestatic 116, 3) := by decide +kernel
theorem dX9_along_36 : decode cX9_along 36 = .ok (.invokestatic 119, 3) := by decide +kernel
theorem dX9_along_39 : decode cX9_along 39 = .ok (.lreturn, 1) := by decide +kernel
theorem dX9_begin_0 : decode cX9_begin 0 = .ok (.aload_n 0, 1) := by decide +kernel
theorem dX9_begin_1 : decode cX9_begin 1 = .ok (.getfield 102, 3) := by decide +kernel
theorem dX9_begin_4 : decode cX9_begin 4 = .ok (.ifCond .ne 19, 3) := by decide +kernel
theorem dX9_begin_7 : decode cX9_begin 7 = .ok (.aload_n 0, 1) := by decide +kernel
theorem dX9_begin_8 : decode cX9_begin 8 = .ok (.getfield 74, 3) := by decide +kernel
theorem dX9_begin_11 : decode cX9_begin 11 = .ok (.sipush 2000, 3) := by decide +kernel
theorem dX9_begin_14 : decode cX9_begin 14 = .ok (.if_icmp .ne 9, 3) := by decide +kernel
theorem dX9_begin_17 : decode cX9_begin 17 = .ok (.aload_n 0, 1) := by decide +kernel
theorem dX9_begin_18 : decode cX9_begin 18 = .ok (.bipush (-3), 2) := by decide +kernel
theorem dX9_begin_20 : decode cX9_begin 20 = .ok (.putfield 102, 3) := by decide +kernel
theorem dX9_begin_23 : decode cX9_begin 23 = .ok (.aload_n 0, 1) := by decide +kernel
theorem dX9_begin_24 : decode cX9_begin 24 = .ok (.getfield 102, 3) := by decide +kernel
theorem dX9_begin_27 : decode cX9_begin 27 = .ok (.ifCond .eq 5, 3) := by decide +kernel
theorem dX9_begin_30 : decode cX9_begin 30 = .ok (.iconst 0, 1) := by decide +kernel
theorem dX9_begin_31 : decode cX9_begin 31 = .ok (.ireturn, 1) := by decide +kernel
theorem dX9_begin_32 : decode cX9_begin 32 = .ok (.aload_n 0, 1) := by decide +kernel
theorem dX9_begin_33 : decode cX9_begin 33 = .ok (.getfield 47, 3) := by decide +kernel
theorem dX9_begin_36 : decode cX9_begin 36 = .ok (.aload_n 0, 1) := by decide +kernel
theorem dX9_begin_37 : decode cX9_begin 37 = .ok (.getfield 74, 3) := by decide +kernel
theorem dX9_begin_40 : decode cX9_begin 40 = .ok (.iload_n 1, 1) := by decide +kernel
theorem dX9_begin_41 : decode cX9_begin 41 = .ok (.i2b, 1) := by decide +kernel
theorem dX9_begin_42 : decode cX9_begin 42 = .ok (.bastore, 1) := by decide +kernel
theorem dX9_begin_43 : decode cX9_begin 43 = .ok (.iconst 1, 1) := by decide +kernel
theorem dX9_begin_44 : decode cX9_begin 44 = .ok (.ireturn, 1) := by decide +kernel
theorem dX9_capBeginning_0 : decode cX9_capBeginning 0 = .ok (.aload_n 0, 1) := by decide +kernel
theorem dX9_capBeginning_1 : decode cX9_capBeginning 1 = .ok (.getfield 80, 3) := by decide +kernel
theorem dX9_capBeginning_4 : decode cX9_capBeginning 4 = .ok (.ifCond .eq 11, 3) := by decide +kernel
theorem dX9_capBeginning_7 : decode cX9_capBeginning 7 = .ok (.aload_n 0, 1) := by decide +kernel
theorem dX9_capBeginning_8 : decode cX9_capBeginning 8 = .ok (.iconst 3, 1) := by decide +kernel
theorem dX9_capBeginning_9 : decode cX9_capBeginning 9 = .ok (.invokevirtual 122, 3) := by decide +kernel
theorem dX9_capBeginning_12 : decode cX9_capBeginning 12 = .ok (.ifCond .ne 4, 3) := by decide +kernel
theorem dX9_capBeginning_15 : decode cX9_capBeginning 15 = .ok (.return_, 1) := by decide +kernel
theorem dX9_capBeginning_16 : decode cX9_capBeginning 16 = .ok (.aload_n 0, 1) := by decide +kernel
theorem dX9_capBeginning_17 : decode cX9_capBeginning 17 = .ok (.iconst 0, 1) := by decide +kernel
theorem dX9_capBeginning_18 : decode cX9_capBeginning 18 = .ok (.iconst 0, 1) := by decide +kernel
theorem dX9_capBeginning_19 : decode cX9_capBeginning 19 = .ok (.invokevirtual 126, 3) := by decide +kernel
theorem dX9_capBeginning_22 : decode cX9_capBeginning 22 = .ok (.lstore_n 1, 1) := by decide +kernel
theorem dX9_capBeginning_23 : decode cX9_capBeginning 23 = .ok (.aload_n 0, 1) := by decide +kernel
theorem dX9_capBeginning_24 : decode cX9_capBeginning 24 = .ok (.iconst 0, 1) := by decide +kernel
theorem dX9_capBeginning_25 : decode cX9_capBeginning 25 = .ok (.iconst 1, 1) := by decide +kernel
theorem dX9_capBeginning_26 : decode cX9_capBeginning 26 = .ok (.invokevirtual 126, 3) := by decide +kernel
theorem dX9_capBeginning_29 : decode cX9_capBeginning 29 = .ok (.lstore_n 3, 1) := by decide +kernel
theorem dX9_capBeginning_30 : decode cX9_capBeginning 30 = .ok (.aload_n 0, 1) := by decide +kernel
theorem dX9_capBeginning_31 : decode cX9_capBeginning 31 = .ok (.getfield 34, 3) := by decide +kernel
theorem dX9_capBeginning_34 : decode cX9_capBeginning 34 = .ok (.iconst 0, 1) := by decide +kernel
theorem dX9_capBeginning_35 : decode cX9_capBeginning 35 = .ok (.laload, 1) := by decide +kernel
theorem dX9_capBeginning_36 : decode cX9_capBeginning 36 = .ok (.lstore 5, 2) := by decide +kernel
theorem dX9_capBeginning_38 : decode cX9_capBeginning 38 = .ok (.aload_n 0, 1) := by decide +kernel
theorem dX9_capBeginning_39 : decode cX9_capBeginning 39 = .ok (.getfield 38, 3) := by decide +kernel
theorem dX9_capBeginning_42 : decode cX9_capBeginning 42 = .ok (.iconst 0, 1) := by decide +kernel
theorem dX9_capBeginning_43 : decode cX9_capBeginning 43 = .ok (.laload, 1) := by decide +kernel
theorem dX9_capBeginning_44 : decode cX9_capBeginning 44 = .ok (.lstore 7, 2) := by decide +kernel
theorem dX9_capBeginning_46 : decode cX9_capBeginning 46 = .ok (.aload_n 0, 1) := by decide +kernel
theorem dX9_capBeginning_47 : decode cX9_capBeginning 47 = .ok (.iconst 0, 1) := by decide +kernel
theorem dX9_capBeginning_48 : decode cX9_capBeginning 48 = .ok (.lload 5, 2) := by decide +kernel
theorem dX9_capBeginning_50 : decode cX9_capBeginning 50 = .ok (.lload_n 1, 1) := by decide +kernel
theorem dX9_capBeginning_51 : decode cX9_capBeginning 51 = .ok (.lsub, 1) := by decide +kernel
theorem dX9_capBeginning_52 : decode cX9_capBeginning 52 = .ok (.lload 7, 2) := by decide +kernel
theorem dX9_capBeginning_54 : decode cX9_capBeginning 54 = .ok (.lload_n 3, 1) := by decide +kernel
theorem dX9_capBeginning_55 : decode cX9_capBeginning 55 = .ok (.lsub, 1) := by decide +kernel
theorem dX9_capBeginning_56 : decode cX9_capBeginning 56 = .ok (.invokevirtual 130, 3) := by decide +kernel
theorem dX9_capBeginning_59 : decode cX9_capBeginning 59 = .ok (.aload_n 0, 1) := by decide +kernel
theorem dX9_capBeginning_60 : decode cX9_capBeginning 60 = .ok (.iconst 1, 1) := by decide +kernel
theorem dX9_capBeginning_61 : decode cX9_capBeginning 61 = .ok (.lload 5, 2) := by decide +kernel
theorem dX9_capBeginning_63 : decode cX9_capBeginning 63 = .ok (.lload_n 1, 1) := by decide +kernel
theorem dX9_capBeginning_64 : decode cX9_capBeginning 64 = .ok (.lsub, 1) := by decide +kernel
theorem dX9_capBeginning_65 : decode cX9_capBeginning 65 = .ok (.aload_n 0, 1) := by decide +kernel
theorem dX9_capBeginning_66 : decode cX9_capBeginning 66 = .ok (.iconst 0, 1) := by decide +kernel
theorem dX9_capBeginning_67 : decode cX9_capBeginning 67 = .ok (.iconst 0, 1) := by decide +kernel
theorem dX9_capBeginning_68 : decode cX9_capBeginning 68 = .ok (.invokevirtual 137, 3) := by decide +kernel
theorem dX9_capBeginning_71 : decode cX9_capBeginning 71 = .ok (.lsub, 1) := by decide +kernel
theorem dX9_capBeginning_72 : decode cX9_capBeginning 72 = .ok (.lload 7, 2) := by decide +kernel
theorem dX9_capBeginning_74 : decode cX9_capBeginning 74 = .ok (.lload_n 3, 1) := by decide +kernel
theorem dX9_capBeginning_75 : decode cX9_capBeginning 75 = .ok (.lsub, 1) := by decide +kernel
theorem dX9_capBeginning_76 : decode cX9_capBeginning 76 = .ok (.aload_n 0, 1) := by decide +kernel
theorem dX9_capBeginning_77 : decode cX9_capBeginning 77 = .ok (.iconst 0, 1) := by decide +kernel
theorem dX9_capBeginning_78 : decode cX9_capBeginning 78 = .ok (.iconst 1, 1) := by decide +kernel
theorem dX9_capBeginning_79 : decode cX9_capBeginning 79 = .ok (.invokevirtual 137, 3) := by decide +kernel
theorem dX9_capBeginning_82 : decode cX9_capBeginning 82 = .ok (.lsub, 1) := by decide +kernel
theorem dX9_capBeginning_83 : decode cX9_capBeginning 83 = .ok (.invokevirtual 130, 3) := by decide +kernel
theorem dX9_capBeginning_86 : decode cX9_capBeginning 86 = .ok (.aload_n 0, 1) := by decide +kernel
theorem dX9_capBeginning_87 : decode cX9_capBeginning 87 = .ok (.iconst 2, 1) := by decide +kernel
theorem dX9_capBeginning_88 : decode cX9_capBeginning 88 = .ok (.lload 5, 2) := by decide +kernel
theorem dX9_capBeginning_90 : decode cX9_capBeginning 90 = .ok (.lload_n 1, 1) := by decide +kernel
theorem dX9_capBeginning_91 : decode cX9_capBeginning 91 = .ok (.ladd, 1) := by decide +kernel
theorem dX9_capBeginning_92 : decode cX9_capBeginning 92 = .ok (.aload_n 0, 1) := by decide +kernel
theorem dX9_capBeginning_93 : decode cX9_capBeginning 93 = .ok (.iconst 0, 1) := by decide +kernel
theorem dX9_capBeginning_94 : decode cX9_capBeginning 94 = .ok (.iconst 0, 1) := by decide +kernel
theorem dX9_capBeginning_95 : decode cX9_capBeginning 95 = .ok (.invokevirtual 137, 3) := by decide +kernel
theorem dX9_capBeginning_98 : decode cX9_capBeginning 98 = .ok (.lsub, 1) := by decide +kernel
theorem dX9_capBeginning_99 : decode cX9_capBeginning 99 = .ok (.lload 7, 2) := by decide +kernel
theorem dX9_capBeginning_101 : decode cX9_capBeginning 101 = .ok (.lload_n 3, 1) := by decide +kernel
theorem dX9_capBeginning_102 : decode cX9_capBeginning 102 = .ok (.ladd, 1) := by decide +kernel
theorem dX9_capBeginning_103 : decode cX9_capBeginning 103 = .ok (.aload_n 0, 1) := by decide +kernel
theorem dX9_capBeginning_104 : decode cX9_capBeginning 104 = .ok (.iconst 0, 1) := by decide +kernel
theorem dX9_capBeginning_105 : decode cX9_capBeginning 105 = .ok (.iconst 1, 1) := by decide +kernel
theorem dX9_capBeginning_106 : decode cX9_capBeginning 106 = .ok (.invokevirtual 137, 3) := by decide +kernel
theorem dX9_capBeginning_109 : decode cX9_capBeginning 109 = .ok (.lsub, 1) := by decide +kernel
theorem dX9_capBeginning_110 : decode cX9_capBeginning 110 = .ok (.invokevirtual 130, 3) := by decide +kernel
theorem dX9_capBeginning_113 : decode cX9_capBeginning 113 = .ok (.aload_n 0, 1) := by decide +kernel
theorem dX9_capBeginning_114 : decode cX9_capBeginning 114 = .ok (.iconst 3, 1) := by decide +kernel
theorem dX9_capBeginning_115 : decode cX9_capBeginning 115 = .ok (.lload 5, 2) := by decide +kernel
theorem dX9_capBeginning_117 : decode cX9_capBeginning 117 = .ok (.lload_n 1, 1) := by decide +kernel
theorem dX9_capBeginning_118 : decode cX9_capBeginning 118 = .ok (.ladd, 1) := by decide +kernel
theorem dX9_capBeginning_119 : decode cX9_capBeginning 119 = .ok (.lload 7, 2) := by decide +kernel
theorem dX9_capBeginning_121 : decode cX9_capBeginning 121 = .ok (.lload_n 3, 1) := by decide +kernel
theorem dX9_capBeginning_122 : decode cX9_capBeginning 122 = .ok (.ladd, 1) := by decide +kernel
theorem dX9_capBeginning_123 : decode cX9_capBeginning 123 = .ok (.invokevirtual 130, 3) := by decide +kernel
theorem dX9_capBeginning_126 : decode cX9_capBeginning 126 = .ok (.aload_n 0, 1) := by decide +kernel
theorem dX9_capBeginning_127 : decode cX9_capBeginning 127 = .ok (.invokevirtual 134, 3) := by decide +kernel
theorem dX9_capBeginning_130 : decode cX9_capBeginning 130 = .ok (.return_, 1) := by decide +kernel
theorem dX9_capEnd_0 : decode cX9_capEnd 0 = .ok (.aload_n 0, 1) := by decide +kernel
theorem dX9_capEnd_1 : decode cX9_capEnd 1 = .ok (.getfield 80, 3) := by decide +kernel
theorem dX9_capEnd_4 : decode cX9_capEnd 4 = .ok (.ifCond .eq 11, 3) := by decide +kernel
theorem dX9_capEnd_7 : decode cX9_capEnd 7 = .ok (.aload_n 0, 1) := by decide +kernel
theorem dX9_capEnd_8 : decode cX9_capEnd 8 = .ok (.iconst 3, 1) := by decide +kernel
theorem dX9_capEnd_9 : decode cX9_capEnd 9 = .ok (.invokevirtual 122, 3) := by decide +kernel
theorem dX9_capEnd_12 : decode cX9_capEnd 12 = .ok (.ifCond .ne 4, 3) := by decide +kernel
theorem dX9_capEnd_15 : decode cX9_capEnd 15 = .ok (.return_, 1) := by decide +kernel
theorem dX9_capEnd_16 : decode cX9_capEnd 16 = .ok (.aload_n 0, 1) := by decide +kernel
theorem dX9_capEnd_17 : decode cX9_capEnd 17 = .ok (.iload_n 1, 1) := by decide +kernel
theorem dX9_capEnd_18 : decode cX9_capEnd 18 = .ok (.iconst 0, 1) := by decide +kernel
theorem dX9_capEnd_19 : decode cX9_capEnd 19 = .ok (.invokevirtual 126, 3) := by decide +kernel
theorem dX9_capEnd_22 : decode cX9_capEnd 22 = .ok (.lstore_n 2, 1) := by decide +kernel
theorem dX9_capEnd_23 : decode cX9_capEnd 23 = .ok (.aload_n 0, 1) := by decide +kernel
