theorem dX9_capEnd_24 : decode cX9_capEnd 24 = .ok (.iload_n 1, 1) := by decide +kernel
theorem dX9_capEnd_25 : decode cX9_capEnd 25 = .ok (.iconst 1, 1) := by decide +kernel
theorem dX9_capEnd_26 : decode cX9_capEnd 26 = .ok (.invokevirtual 126, 3) := by decide +kernel
theorem dX9_capEnd_29 : decode cX9_capEnd 29 = .ok (.lstore 4, 2) := by decide +kernel
theorem dX9_capEnd_31 : decode cX9_capEnd 31 = .ok (.aload_n 0, 1) := by decide +kernel
theorem dX9_capEnd_32 : decode cX9_capEnd 32 = .ok (.getfield 34, 3) := by decide +kernel
theorem dX9_capEnd_35 : decode cX9_capEnd 35 = .ok (.iload_n 1, 1) := by decide +kernel
theorem dX9_capEnd_36 : decode cX9_capEnd 36 = .ok (.iconst 1, 1) := by decide +kernel
theorem dX9_capEnd_37 : decode cX9_capEnd 37 = .ok (.iadd, 1) := by decide +kernel
theorem dX9_capEnd_38 : decode cX9_capEnd 38 = .ok (.laload, 1) := by decide +kernel
theorem dX9_capEnd_39 : decode cX9_capEnd 39 = .ok (.lstore 6, 2) := by decide +kernel
theorem dX9_capEnd_41 : decode cX9_capEnd 41 = .ok (.aload_n 0, 1) := by decide +kernel
theorem dX9_capEnd_42 : decode cX9_capEnd 42 = .ok (.getfield 38, 3) := by decide +kernel
theorem dX9_capEnd_45 : decode cX9_capEnd 45 = .ok (.iload_n 1, 1) := by decide +kernel
theorem dX9_capEnd_46 : decode cX9_capEnd 46 = .ok (.iconst 1, 1) := by decide +kernel
theorem dX9_capEnd_47 : decode cX9_capEnd 47 = .ok (.iadd, 1) := by decide +kernel
theorem dX9_capEnd_48 : decode cX9_capEnd 48 = .ok (.laload, 1) := by decide +kernel
theorem dX9_capEnd_49 : decode cX9_capEnd 49 = .ok (.lstore 8, 2) := by decide +kernel
theorem dX9_capEnd_51 : decode cX9_capEnd 51 = .ok (.aload_n 0, 1) := by decide +kernel
theorem dX9_capEnd_52 : decode cX9_capEnd 52 = .ok (.iconst 0, 1) := by decide +kernel
theorem dX9_capEnd_53 : decode cX9_capEnd 53 = .ok (.lload 6, 2) := by decide +kernel
theorem dX9_capEnd_55 : decode cX9_capEnd 55 = .ok (.lload_n 2, 1) := by decide +kernel
theorem dX9_capEnd_56 : decode cX9_capEnd 56 = .ok (.ladd, 1) := by decide +kernel
theorem dX9_capEnd_57 : decode cX9_capEnd 57 = .ok (.lload 8, 2) := by decide +kernel
theorem dX9_capEnd_59 : decode cX9_capEnd 59 = .ok (.lload 4, 2) := by decide +kernel
theorem dX9_capEnd_61 : decode cX9_capEnd 61 = .ok (.ladd, 1) := by decide +kernel
theorem dX9_capEnd_62 : decode cX9_capEnd 62 = .ok (.invokevirtual 130, 3) := by decide +kernel
theorem dX9_capEnd_65 : decode cX9_capEnd 65 = .ok (.aload_n 0, 1) := by decide +kernel
theorem dX9_capEnd_66 : decode cX9_capEnd 66 = .ok (.iconst 1, 1) := by decide +kernel
theorem dX9_capEnd_67 : decode cX9_capEnd 67 = .ok (.lload 6, 2) := by decide +kernel
theorem dX9_capEnd_69 : decode cX9_capEnd 69 = .ok (.lload_n 2, 1) := by decide +kernel
theorem dX9_capEnd_70 : decode cX9_capEnd 70 = .ok (.ladd, 1) := by decide +kernel
theorem dX9_capEnd_71 : decode cX9_capEnd 71 = .ok (.aload_n 0, 1) := by decide +kernel
theorem dX9_capEnd_72 : decode cX9_capEnd 72 = .ok (.iload_n 1, 1) := by decide +kernel
theorem dX9_capEnd_73 : decode cX9_capEnd 73 = .ok (.iconst 0, 1) := by decide +kernel
theorem dX9_capEnd_74 : decode cX9_capEnd 74 = .ok (.invokevirtual 137, 3) := by decide +kernel
theorem dX9_capEnd_77 : decode cX9_capEnd 77 = .ok (.ladd, 1) := by decide +kernel
theorem dX9_capEnd_78 : decode cX9_capEnd 78 = .ok (.lload 8, 2) := by decide +kernel
theorem dX9_capEnd_80 : decode cX9_capEnd 80 = .ok (.lload 4, 2) := by decide +kernel
theorem dX9_capEnd_82 : decode cX9_capEnd 82 = .ok (.ladd, 1) := by decide +kernel
theorem dX9_capEnd_83 : decode cX9_capEnd 83 = .ok (.aload_n 0, 1) := by decide +kernel
theorem dX9_capEnd_84 : decode cX9_capEnd 84 = .ok (.iload_n 1, 1) := by decide +kernel
theorem dX9_capEnd_85 : decode cX9_capEnd 85 = .ok (.iconst 1, 1) := by decide +kernel
theorem dX9_capEnd_86 : decode cX9_capEnd 86 = .ok (.invokevirtual 137, 3) := by decide +kernel
theorem dX9_capEnd_89 : decode cX9_capEnd 89 = .ok (.ladd, 1) := by decide +kernel
theorem dX9_capEnd_90 : decode cX9_capEnd 90 = .ok (.invokevirtual 130, 3) := by decide +kernel
theorem dX9_capEnd_93 : decode cX9_capEnd 93 = .ok (.aload_n 0, 1) := by decide +kernel
theorem dX9_capEnd_94 : decode cX9_capEnd 94 = .ok (.iconst 2, 1) := by decide +kernel
theorem dX9_capEnd_95 : decode cX9_capEnd 95 = .ok (.lload 6, 2) := by decide +kernel
theorem dX9_capEnd_97 : decode cX9_capEnd 97 = .ok (.lload_n 2, 1) := by decide +kernel
theorem dX9_capEnd_98 : decode cX9_capEnd 98 = .ok (.lsub, 1) := by decide +kernel
theorem dX9_capEnd_99 : decode cX9_capEnd 99 = .ok (.aload_n 0, 1) := by decide +kernel
theorem dX9_capEnd_100 : decode cX9_capEnd 100 = .ok (.iload_n 1, 1) := by decide +kernel
theorem dX9_capEnd_101 : decode cX9_capEnd 101 = .ok (.iconst 0, 1) := by decide +kernel
theorem dX9_capEnd_102 : decode cX9_capEnd 102 = .ok (.invokevirtual 137, 3) := by decide +kernel
theorem dX9_capEnd_105 : decode cX9_capEnd 105 = .ok (.ladd, 1) := by decide +kernel
theorem dX9_capEnd_106 : decode cX9_capEnd 106 = .ok (.lload 8, 2) := by decide +kernel
theorem dX9_capEnd_108 : decode cX9_capEnd 108 = .ok (.lload 4, 2) := by decide +kernel
theorem dX9_capEnd_110 : decode cX9_capEnd 110 = .ok (.lsub, 1) := by decide +kernel
theorem dX9_capEnd_111 : decode cX9_capEnd 111 = .ok (.aload_n 0, 1) := by decide +kernel
theorem dX9_capEnd_112 : decode cX9_capEnd 112 = .ok (.iload_n 1, 1) := by decide +kernel
theorem dX9_capEnd_113 : decode cX9_capEnd 113 = .ok (.iconst 1, 1) := by decide +kernel
theorem dX9_capEnd_114 : decode cX9_capEnd 114 = .ok (.invokevirtual 137, 3) := by decide +kernel
theorem dX9_capEnd_117 : decode cX9_capEnd 117 = .ok (.ladd, 1) := by decide +kernel
theorem dX9_capEnd_118 : decode cX9_capEnd 118 = .ok (.invokevirtual 130, 3) := by decide +kernel
theorem dX9_capEnd_121 : decode cX9_capEnd 121 = .ok (.aload_n 0, 1) := by decide +kernel
theorem dX9_capEnd_122 : decode cX9_capEnd 122 = .ok (.iconst 3, 1) := by decide +kernel
theorem dX9_capEnd_123 : decode cX9_capEnd 123 = .ok (.lload 6, 2) := by decide +kernel
theorem dX9_capEnd_125 : decode cX9_capEnd 125 = .ok (.lload_n 2, 1) := by decide +kernel
theorem dX9_capEnd_126 : decode cX9_capEnd 126 = .ok (.lsub, 1) := by decide +kernel
theorem dX9_capEnd_127 : decode cX9_capEnd 127 = .ok (.lload 8, 2) := by decide +kernel
theorem dX9_capEnd_129 : decode cX9_capEnd 129 = .ok (.lload 4, 2) := by decide +kernel
theorem dX9_capEnd_131 : decode cX9_capEnd 131 = .ok (.lsub, 1) := by decide +kernel
theorem dX9_capEnd_132 : decode cX9_capEnd 132 = .ok (.invokevirtual 130, 3) := by decide +kernel
theorem dX9_capEnd_135 : decode cX9_capEnd 135 = .ok (.aload_n 0, 1) := by decide +kernel
theorem dX9_capEnd_136 : decode cX9_capEnd 136 = .ok (.invokevirtual 134, 3) := by decide +kernel
theorem dX9_capEnd_139 : decode cX9_capEnd 139 = .ok (.return_, 1) := by decide +kernel
theorem dX9_clear_0 : decode cX9_clear 0 = .ok (.aload_n 0, 1) := by decide +kernel
theorem dX9_clear_1 : decode cX9_clear 1 = .ok (.getfield 60, 3) := by decide +kernel
theorem dX9_clear_4 : decode cX9_clear 4 = .ok (.istore_n 1, 1) := by decide +kernel
theorem dX9_clear_5 : decode cX9_clear 5 = .ok (.aload_n 0, 1) := by decide +kernel
theorem dX9_clear_6 : decode cX9_clear 6 = .ok (.iconst 0, 1) := by decide +kernel
theorem dX9_clear_7 : decode cX9_clear 7 = .ok (.putfield 60, 3) := by decide +kernel
theorem dX9_clear_10 : decode cX9_clear 10 = .ok (.aload_n 0, 1) := by decide +kernel
theorem dX9_clear_11 : decode cX9_clear 11 = .ok (.iconst 0, 1) := by decide +kernel
theorem dX9_clear_12 : decode cX9_clear 12 = .ok (.putfield 74, 3) := by decide +kernel
theorem dX9_clear_15 : decode cX9_clear 15 = .ok (.iload_n 1, 1) := by decide +kernel
theorem dX9_clear_16 : decode cX9_clear 16 = .ok (.ireturn, 1) := by decide +kernel
theorem dX9_close_0 : decode cX9_close 0 = .ok (.aload_n 0, 1) := by decide +kernel
theorem dX9_close_1 : decode cX9_close 1 = .ok (.getfield 60, 3) := by decide +kernel
theorem dX9_close_4 : decode cX9_close 4 = .ok (.ifCond .ne 6, 3) := by decide +kernel
theorem dX9_close_7 : decode cX9_close 7 = .ok (.bipush (-2), 2) := by decide +kernel
theorem dX9_close_9 : decode cX9_close 9 = .ok (.ireturn, 1) := by decide +kernel
theorem dX9_close_10 : decode cX9_close 10 = .ok (.aload_n 0, 1) := by decide +kernel
theorem dX9_close_11 : decode cX9_close 11 = .ok (.getfield 16, 3) := by decide +kernel
theorem dX9_close_14 : decode cX9_close 14 = .ok (.aload_n 0, 1) := by decide +kernel
theorem dX9_close_15 : decode cX9_close 15 = .ok (.getfield 71, 3) := by decide +kernel
theorem dX9_close_18 : decode cX9_close 18 = .ok (.iconst 3, 1) := by decide +kernel
theorem dX9_close_19 : decode cX9_close 19 = .ok (.bastore, 1) := by decide +kernel
theorem dX9_close_20 : decode cX9_close 20 = .ok (.aload_n 0, 1) := by decide +kernel
theorem dX9_close_21 : decode cX9_close 21 = .ok (.getfield 60, 3) := by decide +kernel
theorem dX9_close_24 : decode cX9_close 24 = .ok (.ireturn, 1) := by decide +kernel
theorem dX9_collect_0 : decode cX9_collect 0 = .ok (.aload_n 0, 1) := by decide +kernel
theorem dX9_collect_1 : decode cX9_collect 1 = .ok (.iconst 0, 1) := by decide +kernel
theorem dX9_collect_2 : decode cX9_collect 2 = .ok (.putfield 199, 3) := by decide +kernel
theorem dX9_collect_5 : decode cX9_collect 5 = .ok (.iload_n 1, 1) := by decide +kernel
theorem dX9_collect_6 : decode cX9_collect 6 = .ok (.istore_n 2, 1) := by decide +kernel
theorem dX9_collect_7 : decode cX9_collect 7 = .ok (.iload_n 2, 1) := by decide +kernel
theorem dX9_collect_8 : decode cX9_collect 8 = .ok (.aload_n 0, 1) := by decide +kernel
theorem dX9_collect_9 : decode cX9_collect 9 = .ok (.getfield 60, 3) := by decide +kernel
theorem dX9_collect_12 : decode cX9_collect 12 = .ok (.if_icmp .ge 110, 3) := by decide +kernel
theorem dX9_collect_15 : decode cX9_collect 15 = .ok (.iload_n 2, 1) := by decide +kernel
theorem dX9_collect_16 : decode cX9_collect 16 = .ok (.iload_n 1, 1) := by decide +kernel
theorem dX9_collect_17 : decode cX9_collect 17 = .ok (.if_icmp .eq 12, 3) := by decide +kernel
theorem dX9_collect_20 : decode cX9_collect 20 = .ok (.aload_n 0, 1) := by decide +kernel
theorem dX9_collect_21 : decode cX9_collect 21 = .ok (.getfield 16, 3) := by decide +kernel
theorem dX9_collect_24 : decode cX9_collect 24 = .ok (.iload_n 2, 1) := by decide +kernel
theorem dX9_collect_25 : decode cX9_collect 25 = .ok (.baload, 1) := by decide +kernel
theorem dX9_collect_26 : decode cX9_collect 26 = .ok (.ifCond .ne 96, 3) := by decide +kernel
theorem dX9_collect_29 : decode cX9_collect 29 = .ok (.aload_n 0, 1) := by decide +kernel
theorem dX9_collect_30 : decode cX9_collect 30 = .ok (.getfield 199, 3) := by decide +kernel
theorem dX9_collect_33 : decode cX9_collect 33 = .ok (.ifCond .eq 43, 3) := by decide +kernel
theorem dX9_collect_36 : decode cX9_collect 36 = .ok (.aload_n 0, 1) := by decide +kernel
theorem dX9_collect_37 : decode cX9_collect 37 = .ok (.getfield 41, 3) := by decide +kernel
theorem dX9_collect_40 : decode cX9_collect 40 = .ok (.aload_n 0, 1) := by decide +kernel
theorem dX9_collect_41 : decode cX9_collect 41 = .ok (.getfield 199, 3) := by decide +kernel
theorem dX9_collect_44 : decode cX9_collect 44 = .ok (.iconst 1, 1) := by decide +kernel
theorem dX9_collect_45 : decode cX9_collect 45 = .ok (.isub, 1) := by decide +kernel
theorem dX9_collect_46 : decode cX9_collect 46 = .ok (.iaload, 1) := by decide +kernel
theorem dX9_collect_47 : decode cX9_collect 47 = .ok (.aload_n 0, 1) := by decide +kernel
theorem dX9_collect_48 : decode cX9_collect 48 = .ok (.getfield 7, 3) := by decide +kernel
theorem dX9_collect_51 : decode cX9_collect 51 = .ok (.iload_n 2, 1) := by decide +kernel
theorem dX9_collect_52 : decode cX9_collect 52 = .ok (.iaload, 1) := by decide +kernel
theorem dX9_collect_53 : decode cX9_collect 53 = .ok (.if_icmp .ne 23, 3) := by decide +kernel
theorem dX9_collect_56 : decode cX9_collect 56 = .ok (.aload_n 0, 1) := by decide +kernel
theorem dX9_collect_57 : decode cX9_collect 57 = .ok (.getfield 44, 3) := by decide +kernel
theorem dX9_collect_60 : decode cX9_collect 60 = .ok (.aload_n 0, 1) := by decide +kernel
theorem dX9_collect_61 : decode cX9_collect 61 = .ok (.getfield 199, 3) := by decide +kernel
theorem dX9_collect_64 : decode cX9_collect 64 = .ok (.iconst 1, 1) := by decide +kernel
theorem dX9_collect_65 : decode cX9_collect 65 = .ok (.isub, 1) := by decide +kernel
theorem dX9_collect_66 : decode cX9_collect 66 = .ok (.iaload, 1) := by decide +kernel
theorem dX9_collect_67 : decode cX9_collect 67 = .ok (.aload_n 0, 1) := by decide +kernel
theorem dX9_collect_68 : decode cX9_collect 68 = .ok (.getfield 13, 3) := by decide +kernel
theorem dX9_collect_71 : decode cX9_collect 71 = .ok (.iload_n 2, 1) := by decide +kernel
theorem dX9_collect_72 : decode cX9_collect 72 = .ok (.iaload, 1) := by decide +kernel
theorem dX9_collect_73 : decode cX9_collect 73 = .ok (.if_icmp .eq 43, 3) := by decide +kernel
theorem dX9_collect_76 : decode cX9_collect 76 = .ok (.aload_n 0, 1) := by decide +kernel
theorem dX9_collect_77 : decode cX9_collect 77 = .ok (.getfield 41, 3) := by decide +kernel
theorem dX9_collect_80 : decode cX9_collect 80 = .ok (.aload_n 0, 1) := by decide +kernel
theorem dX9_collect_81 : decode cX9_collect 81 = .ok (.getfield 199, 3) := by decide +kernel
theorem dX9_collect_84 : decode cX9_collect 84 = .ok (.aload_n 0, 1) := by decide +kernel
theorem dX9_collect_85 : decode cX9_collect 85 = .ok (.getfield 7, 3) := by decide +kernel
theorem dX9_collect_88 : decode cX9_collect 88 = .ok (.iload_n 2, 1) := by decide +kernel
theorem dX9_collect_89 : decode cX9_collect 89 = .ok (.iaload, 1) := by decide +kernel
theorem dX9_collect_90 : decode cX9_collect 90 = .ok (.iastore, 1) := by decide +kernel
theorem dX9_collect_91 : decode cX9_collect 91 = .ok (.aload_n 0, 1) := by decide +kernel
theorem dX9_collect_92 : decode cX9_collect 92 = .ok (.getfield 44, 3) := by decide +kernel
theorem dX9_collect_95 : decode cX9_collect 95 = .ok (.aload_n 0, 1) := by decide +kernel
theorem dX9_collect_96 : decode cX9_collect 96 = .ok (.getfield 199, 3) := by decide +kernel
theorem dX9_collect_99 : decode cX9_collect 99 = .ok (.aload_n 0, 1) := by decide +kernel
theorem dX9_collect_100 : decode cX9_collect 100 = .ok (.getfield 13, 3) := by decide +kernel
theorem dX9_collect_103 : decode cX9_collect 103 = .ok (.iload_n 2, 1) := by decide +kernel
theorem dX9_collect_104 : decode cX9_collect 104 = .ok (.iaload, 1) := by decide +kernel
theorem dX9_collect_105 : decode cX9_collect 105 = .ok (.iastore, 1) := by decide +kernel
theorem dX9_collect_106 : decode cX9_collect 106 = .ok (.aload_n 0, 1) := by decide +kernel
theorem dX9_collect_107 : decode cX9_collect 107 = .ok (.dup, 1) := by decide +kernel
theorem dX9_collect_108 : decode cX9_collect 108 = .ok (.getfield 199, 3) := by decide +kernel
theorem dX9_collect_111 : decode cX9_collect 111 = .ok (.iconst 1, 1) := by decide +kernel
theorem dX9_collect_112 : decode cX9_collect 112 = .ok (.iadd, 1) := by decide +kernel
theorem dX9_collect_113 : decode cX9_collect 113 = .ok (.putfield 199, 3) := by decide +kernel
theorem dX9_collect_116 : decode cX9_collect 116 = .ok (.iinc 2 1, 3) := by decide +kernel
theorem dX9_collect_119 : decode cX9_collect 119 = .ok (.goto (-112), 3) := by decide +kernel
theorem dX9_collect_122 : decode cX9_collect 122 = .ok (.aload_n 0, 1) := by decide +kernel
theorem dX9_collect_123 : decode cX9_collect 123 = .ok (.getfield 16, 3) := by decide +kernel
theorem dX9_collect_126 : decode cX9_collect 126 = .ok (.iload_n 1, 1) := by decide +kernel
theorem dX9_collect_127 : decode cX9_collect 127 = .ok (.baload, 1) := by decide +kernel
theorem dX9_collect_128 : decode cX9_collect 128 = .ok (.iconst 3, 1) := by decide +kernel
theorem dX9_collect_129 : decode cX9_collect 129 = .ok (.if_icmp .ne 64, 3) := by decide +kernel
theorem dX9_collect_132 : decode cX9_collect 132 = .ok (.aload_n 0, 1) := by decide +kernel
theorem dX9_collect_133 : decode cX9_collect 133 = .ok (.getfield 199, 3) := by decide +kernel
theorem dX9_collect_136 : decode cX9_collect 136 = .ok (.iconst 1, 1) := by decide +kernel
theorem dX9_collect_137 : decode cX9_collect 137 = .ok (.if_icmp .le 56, 3) := by decide +kernel
theorem dX9_collect_140 : decode cX9_collect 140 = .ok (.aload_n 0, 1) := by decide +kernel
theorem dX9_collect_141 : decode cX9_collect 141 = .ok (.getfield 41, 3) := by decide +kernel
theorem dX9_collect_144 : decode cX9_collect 144 = .ok (.aload_n 0, 1) := by decide +kernel
theorem dX9_collect_145 : decode cX9_collect 145 = .ok (.getfield 199, 3) := by decide +kernel
theorem dX9_collect_148 : decode cX9_collect 148 = .ok (.iconst 1, 1) := by decide +kernel
theorem dX9_collect_149 : decode cX9_collect 149 = .ok (.isub, 1) := by decide +kernel
theorem dX9_collect_150 : decode cX9_collect 150 = .ok (.iaload, 1) := by decide +kernel
theorem dX9_collect_151 : decode cX9_collect 151 = .ok (.aload_n 0, 1) := by decide +kernel
theorem dX9_collect_152 : decode cX9_collect 152 = .ok (.getfield 41, 3) := by decide +kernel
theorem dX9_collect_155 : decode cX9_collect 155 = .ok (.iconst 0, 1) := by decide +kernel
theorem dX9_collect_156 : decode cX9_collect 156 = .ok (.iaload, 1) := by decide +kernel
theorem dX9_collect_157 : decode cX9_collect 157 = .ok (.if_icmp .ne 36, 3) := by decide +kernel
theorem dX9_collect_160 : decode cX9_collect 160 = .ok (.aload_n 0, 1) := by decide +kernel
theorem dX9_collect_161 : decode cX9_collect 161 = .ok (.getfield 44, 3) := by decide +kernel
theorem dX9_collect_164 : decode cX9_collect 164 = .ok (.aload_n 0, 1) := by decide +kernel
theorem dX9_collect_165 : decode cX9_collect 165 = .ok (.getfield 199, 3) := by decide +kernel
theorem dX9_collect_168 : decode cX9_collect 168 = .ok (.iconst 1, 1) := by decide +kernel
theorem dX9_collect_169 : decode cX9_collect 169 = .ok (.isub, 1) := by decide +kernel
theorem dX9_collect_170 : decode cX9_collect 170 = .ok (.iaload, 1) := by decide +kernel
theorem dX9_collect_171 : decode cX9_collect 171 = .ok (.aload_n 0, 1) := by decide +kernel
theorem dX9_collect_172 : decode cX9_collect 172 = .ok (.getfield 44, 3) := by decide +kernel
theorem dX9_collect_175 : decode cX9_collect 175 = .ok (.iconst 0, 1) := by decide +kernel
theorem dX9_collect_176 : decode cX9_collect 176 = .ok (.iaload, 1) := by decide +kernel
theorem dX9_collect_177 : decode cX9_collect 177 = .ok (.if_icmp .ne 16, 3) := by decide +kernel
theorem dX9_collect_180 : decode cX9_collect 180 = .ok (.aload_n 0, 1) := by decide +kernel
theorem dX9_collect_181 : decode cX9_collect 181 = .ok (.dup, 1) := by decide +kernel
theorem dX9_collect_182 : decode cX9_collect 182 = .ok (.getfield 199, 3) := by decide +kernel
theorem dX9_collect_185 : decode cX9_collect 185 = .ok (.iconst 1, 1) := by decide +kernel
theorem dX9_collect_186 : decode cX9_collect 186 = .ok (.isub, 1) := by decide +kernel
theorem dX9_collect_187 : decode cX9_collect 187 = .ok (.putfield 199, 3) := by decide +kernel
theorem dX9_collect_190 : decode cX9_collect 190 = .ok (.goto (-68), 3) := by decide +kernel
theorem dX9_collect_193 : decode cX9_collect 193 = .ok (.iload_n 2, 1) := by decide +kernel
theorem dX9_collect_194 : decode cX9_collect 194 = .ok (.ireturn, 1) := by decide +kernel
theorem dX9_corner_0 : decode cX9_corner 0 = .ok (.iload_n 1, 1) := by decide +kernel
theorem dX9_corner_1 : decode cX9_corner 1 = .ok (.ifCond .lt 43, 3) := by decide +kernel
theorem dX9_corner_4 : decode cX9_corner 4 = .ok (.iload_n 1, 1) := by decide +kernel
theorem dX9_corner_5 : decode cX9_corner 5 = .ok (.aload_n 0, 1) := by decide +kernel
theorem dX9_corner_6 : decode cX9_corner 6 = .ok (.getfield 74, 3) := by decide +kernel
theorem dX9_corner_9 : decode cX9_corner 9 = .ok (.if_icmp .ge 35, 3) := by decide +kernel
theorem dX9_corner_12 : decode cX9_corner 12 = .ok (.iload_n 2, 1) := by decide +kernel
theorem dX9_corner_13 : decode cX9_corner 13 = .ok (.ifCond .lt 31, 3) := by decide +kernel
theorem dX9_corner_16 : decode cX9_corner 16 = .ok (.iload_n 2, 1) := by decide +kernel
theorem dX9_corner_17 : decode cX9_corner 17 = .ok (.aload_n 0, 1) := by decide +kernel
theorem dX9_corner_18 : decode cX9_corner 18 = .ok (.getfield 47, 3) := by decide +kernel
theorem dX9_corner_21 : decode cX9_corner 21 = .ok (.iload_n 1, 1) := by decide +kernel
theorem dX9_corner_22 : decode cX9_corner 22 = .ok (.baload, 1) := by decide +kernel
theorem dX9_corner_23 : decode cX9_corner 23 = .ok (.iconst 1, 1) := by decide +kernel
theorem dX9_corner_24 : decode cX9_corner 24 = .ok (.if_icmp .ne 7, 3) := by decide +kernel
theorem dX9_corner_27 : decode cX9_corner 27 = .ok (.iconst 3, 1) := by decide +kernel
theorem dX9_corner_28 : decode cX9_corner 28 = .ok (.goto 4, 3) := by decide +kernel
theorem dX9_corner_31 : decode cX9_corner 31 = .ok (.iconst 4, 1) := by decide +kernel
theorem dX9_corner_32 : decode cX9_corner 32 = .ok (.if_icmp .ge 12, 3) := by decide +kernel
theorem dX9_corner_35 : decode cX9_corner 35 = .ok (.iload_n 3, 1) := by decide +kernel
theorem dX9_corner_36 : decode cX9_corner 36 = .ok (.ifCond .lt 8, 3) := by decide +kernel
theorem dX9_corner_39 : decode cX9_corner 39 = .ok (.iload_n 3, 1) := by decide +kernel
theorem dX9_corner_40 : decode cX9_corner 40 = .ok (.iconst 1, 1) := by decide +kernel
theorem dX9_corner_41 : decode cX9_corner 41 = .ok (.if_icmp .le 5, 3) := by decide +kernel
theorem dX9_corner_44 : decode cX9_corner 44 = .ok (.iconst 0, 1) := by decide +kernel
theorem dX9_corner_45 : decode cX9_corner 45 = .ok (.ireturn, 1) := by decide +kernel
theorem dX9_corner_46 : decode cX9_corner 46 = .ok (.aload_n 0, 1) := by decide +kernel
theorem dX9_corner_47 : decode cX9_corner 47 = .ok (.getfield 50, 3) := by decide +kernel
theorem dX9_corner_50 : decode cX9_corner 50 = .ok (.bipush 8, 2) := by decide +kernel
theorem dX9_corner_52 : decode cX9_corner 52 = .ok (.iload_n 1, 1) := by decide +kernel
theorem dX9_corner_53 : decode cX9_corner 53 = .ok (.imul, 1) := by decide +kernel
theorem dX9_corner_54 : decode cX9_corner 54 = .ok (.iconst 2, 1) := by decide +kernel
theorem dX9_corner_55 : decode cX9_corner 55 = .ok (.iload_n 2, 1) := by decide +kernel
theorem dX9_corner_56 : decode cX9_corner 56 = .ok (.imul, 1) := by decide +kernel
theorem dX9_corner_57 : decode cX9_corner 57 = .ok (.iadd, 1) := by decide +kernel
theorem dX9_corner_58 : decode cX9_corner 58 = .ok (.iload_n 3, 1) := by decide +kernel
theorem dX9_corner_59 : decode cX9_corner 59 = .ok (.iadd, 1) := by decide +kernel
theorem dX9_corner_60 : decode cX9_corner 60 = .ok (.iaload, 1) := by decide +kernel
theorem dX9_corner_61 : decode cX9_corner 61 = .ok (.ireturn, 1) := by decide +kernel
theorem dX9_dashes_0 : decode cX9_dashes 0 = .ok (.iload_n 1, 1) := by decide +kernel
theorem dX9_dashes_1 : decode cX9_dashes 1 = .ok (.ifCond .lt 22, 3) := by decide +kernel
theorem dX9_dashes_4 : decode cX9_dashes 4 = .ok (.iload_n 1, 1) := by decide +kernel
theorem dX9_dashes_5 : decode cX9_dashes 5 = .ok (.bipush 8, 2) := by decide +kernel
theorem dX9_dashes_7 : decode cX9_dashes 7 = .ok (.if_icmp .gt 16, 3) := by decide +kernel
theorem dX9_dashes_10 : decode cX9_dashes 10 = .ok (.iload_n 2, 1) := by decide +kernel
theorem dX9_dashes_11 : decode cX9_dashes 11 = .ok (.ifCond .lt 12, 3) := by decide +kernel
theorem dX9_dashes_14 : decode cX9_dashes 14 = .ok (.iload_n 2, 1) := by decide +kernel
theorem dX9_dashes_15 : decode cX9_dashes 15 = .ok (.i2l, 1) := by decide +kernel
theorem dX9_dashes_16 : decode cX9_dashes 16 = .ok (.ldc2_w 58, 3) := by decide +kernel
theorem dX9_dashes_19 : decode cX9_dashes 19 = .ok (.lcmp, 1) := by decide +kernel
theorem dX9_dashes_20 : decode cX9_dashes 20 = .ok (.ifCond .le 5, 3) := by decide +kernel
theorem dX9_dashes_23 : decode cX9_dashes 23 = .ok (.iconst 0, 1) := by decide +kernel
theorem dX9_dashes_24 : decode cX9_dashes 24 = .ok (.ireturn, 1) := by decide +kernel
theorem dX9_dashes_25 : decode cX9_dashes 25 = .ok (.lconst 0, 1) := by decide +kernel
theorem dX9_dashes_26 : decode cX9_dashes 26 = .ok (.lstore_n 3, 1) := by decide +kernel
theorem dX9_dashes_27 : decode cX9_dashes 27 = .ok (.iconst 0, 1) := by decide +kernel
theorem dX9_dashes_28 : decode cX9_dashes 28 = .ok (.istore 5, 2) := by decide +kernel
theorem dX9_dashes_30 : decode cX9_dashes 30 = .ok (.iload 5, 2) := by decide +kernel
theorem dX9_dashes_32 : decode cX9_dashes 32 = .ok (.iload_n 1, 1) := by decide +kernel
theorem dX9_dashes_33 : decode cX9_dashes 33 = .ok (.if_icmp .ge 20, 3) := by decide +kernel
theorem dX9_dashes_36 : decode cX9_dashes 36 = .ok (.lload_n 3, 1) := by decide +kernel
theorem dX9_dashes_37 : decode cX9_dashes 37 = .ok (.aload_n 0, 1) := by decide +kernel
theorem dX9_dashes_38 : decode cX9_dashes 38 = .ok (.getfield 31, 3) := by decide +kernel
theorem dX9_dashes_41 : decode cX9_dashes 41 = .ok (.iload 5, 2) := by decide +kernel
theorem dX9_dashes_43 : decode cX9_dashes 43 = .ok (.iaload, 1) := by decide +kernel
theorem dX9_dashes_44 : decode cX9_dashes 44 = .ok (.i2l, 1) := by decide +kernel
theorem dX9_dashes_45 : decode cX9_dashes 45 = .ok (.ladd, 1) := by decide +kernel
theorem dX9_dashes_46 : decode cX9_dashes 46 = .ok (.lstore_n 3, 1) := by decide +kernel
theorem dX9_dashes_47 : decode cX9_dashes 47 = .ok (.iinc 5 1, 3) := by decide +kernel
theorem dX9_dashes_50 : decode cX9_dashes 50 = .ok (.goto (-20), 3) := by decide +kernel
theorem dX9_dashes_53 : decode cX9_dashes 53 = .ok (.iload_n 1, 1) := by decide +kernel
theorem dX9_dashes_54 : decode cX9_dashes 54 = .ok (.ifCond .le 11, 3) := by decide +kernel
theorem dX9_dashes_57 : decode cX9_dashes 57 = .ok (.lload_n 3, 1) := by decide +kernel
theorem dX9_dashes_58 : decode cX9_dashes 58 = .ok (.lconst 0, 1) := by decide +kernel
theorem dX9_dashes_59 : decode cX9_dashes 59 = .ok (.lcmp, 1) := by decide +kernel
theorem dX9_dashes_60 : decode cX9_dashes 60 = .ok (.ifCond .ne 5, 3) := by decide +kernel
theorem dX9_dashes_63 : decode cX9_dashes 63 = .ok (.iconst 0, 1) := by decide +kernel
theorem dX9_dashes_64 : decode cX9_dashes 64 = .ok (.ireturn, 1) := by decide +kernel
theorem dX9_dashes_65 : decode cX9_dashes 65 = .ok (.iconst 0, 1) := by decide +kernel
theorem dX9_dashes_66 : decode cX9_dashes 66 = .ok (.istore 5, 2) := by decide +kernel
theorem dX9_dashes_68 : decode cX9_dashes 68 = .ok (.iload 5, 2) := by decide +kernel
theorem dX9_dashes_70 : decode cX9_dashes 70 = .ok (.iload_n 1, 1) := by decide +kernel
theorem dX9_dashes_71 : decode cX9_dashes 71 = .ok (.if_icmp .ge 23, 3) := by decide +kernel
theorem dX9_dashes_74 : decode cX9_dashes 74 = .ok (.aload_n 0, 1) := by decide +kernel
theorem dX9_dashes_75 : decode cX9_dashes 75 = .ok (.getfield 53, 3) := by decide +kernel
theorem dX9_dashes_78 : decode cX9_dashes 78 = .ok (.iload 5, 2) := by decide +kernel
theorem dX9_dashes_80 : decode cX9_dashes 80 = .ok (.aload_n 0, 1) := by decide +kernel
theorem dX9_dashes_81 : decode cX9_dashes 81 = .ok (.getfield 31, 3) := by decide +kernel
theorem dX9_dashes_84 : decode cX9_dashes 84 = .ok (.iload 5, 2) := by decide +kernel
theorem dX9_dashes_86 : decode cX9_dashes 86 = .ok (.iaload, 1) := by decide +kernel
theorem dX9_dashes_87 : decode cX9_dashes 87 = .ok (.iastore, 1) := by decide +kernel
theorem dX9_dashes_88 : decode cX9_dashes 88 = .ok (.iinc 5 1, 3) := by decide +kernel
theorem dX9_dashes_91 : decode cX9_dashes 91 = .ok (.goto (-23), 3) := by decide +kernel
theorem dX9_dashes_94 : decode cX9_dashes 94 = .ok (.aload_n 0, 1) := by decide +kernel
theorem dX9_dashes_95 : decode cX9_dashes 95 = .ok (.iload_n 1, 1) := by decide +kernel
theorem dX9_dashes_96 : decode cX9_dashes 96 = .ok (.putfield 86, 3) := by decide +kernel
theorem dX9_dashes_99 : decode cX9_dashes 99 = .ok (.aload_n 0, 1) := by decide +kernel
theorem dX9_dashes_100 : decode cX9_dashes 100 = .ok (.iload_n 2, 1) := by decide +kernel
theorem dX9_dashes_101 : decode cX9_dashes 101 = .ok (.putfield 89, 3) := by decide +kernel
theorem dX9_dashes_104 : decode cX9_dashes 104 = .ok (.iconst 1, 1) := by decide +kernel
theorem dX9_dashes_105 : decode cX9_dashes 105 = .ok (.ireturn, 1) := by decide +kernel
theorem dX9_dx_0 : decode cX9_dx 0 = .ok (.aload_n 0, 1) := by decide +kernel
theorem dX9_dx_1 : decode cX9_dx 1 = .ok (.getfield 34, 3) := by decide +kernel
theorem dX9_dx_4 : decode cX9_dx 4 = .ok (.iload_n 1, 1) := by decide +kernel
theorem dX9_dx_5 : decode cX9_dx 5 = .ok (.iconst 1, 1) := by decide +kernel
theorem dX9_dx_6 : decode cX9_dx 6 = .ok (.iadd, 1) := by decide +kernel
theorem dX9_dx_7 : decode cX9_dx 7 = .ok (.laload, 1) := by decide +kernel
theorem dX9_dx_8 : decode cX9_dx 8 = .ok (.aload_n 0, 1) := by decide +kernel
theorem dX9_dx_9 : decode cX9_dx 9 = .ok (.getfield 34, 3) := by decide +kernel
theorem dX9_dx_12 : decode cX9_dx 12 = .ok (.iload_n 1, 1) := by decide +kernel
theorem dX9_dx_13 : decode cX9_dx 13 = .ok (.laload, 1) := by decide +kernel
theorem dX9_dx_14 : decode cX9_dx 14 = .ok (.lsub, 1) := by decide +kernel
theorem dX9_dx_15 : decode cX9_dx 15 = .ok (.lreturn, 1) := by decide +kernel
theorem dX9_dy_0 : decode cX9_dy 0 = .ok (.aload_n 0, 1) := by decide +kernel
theorem dX9_dy_1 : decode cX9_dy 1 = .ok (.getfield 38, 3) := by decide +kernel
theorem dX9_dy_4 : decode cX9_dy 4 = .ok (.iload_n 1, 1) := by decide +kernel
theorem dX9_dy_5 : decode cX9_dy 5 = .ok (.iconst 1, 1) := by decide +kernel
theorem dX9_dy_6 : decode cX9_dy 6 = .ok (.iadd, 1) := by decide +kernel
theorem dX9_dy_7 : decode cX9_dy 7 = .ok (.laload, 1) := by decide +kernel
theorem dX9_dy_8 : decode cX9_dy 8 = .ok (.aload_n 0, 1) := by decide +kernel
theorem dX9_dy_9 : decode cX9_dy 9 = .ok (.getfield 38, 3) := by decide +kernel
theorem dX9_dy_12 : decode cX9_dy 12 = .ok (.iload_n 1, 1) := by decide +kernel
theorem dX9_dy_13 : decode cX9_dy 13 = .ok (.laload, 1) := by decide +kernel
theorem dX9_dy_14 : decode cX9_dy 14 = .ok (.lsub, 1) := by decide +kernel
theorem dX9_dy_15 : decode cX9_dy 15 = .ok (.lreturn, 1) := by decide +kernel
theorem dX9_end_0 : decode cX9_end 0 = .ok (.aload_n 0, 1) := by decide +kernel
theorem dX9_end_1 : decode cX9_end 1 = .ok (.dup, 1) := by decide +kernel
theorem dX9_end_2 : decode cX9_end 2 = .ok (.getfield 74, 3) := by decide +kernel
theorem dX9_end_5 : decode cX9_end 5 = .ok (.aload_n 0, 1) := by decide +kernel
theorem dX9_end_6 : decode cX9_end 6 = .ok (.getfield 102, 3) := by decide +kernel
theorem dX9_end_9 : decode cX9_end 9 = .ok (.ifCond .ne 7, 3) := by decide +kernel
theorem dX9_end_12 : decode cX9_end 12 = .ok (.iconst 1, 1) := by decide +kernel
theorem dX9_end_13 : decode cX9_end 13 = .ok (.goto 4, 3) := by decide +kernel
theorem dX9_end_16 : decode cX9_end 16 = .ok (.iconst 0, 1) := by decide +kernel
theorem dX9_end_17 : decode cX9_end 17 = .ok (.iadd, 1) := by decide +kernel
theorem dX9_end_18 : decode cX9_end 18 = .ok (.putfield 74, 3) := by decide +kernel
theorem dX9_end_21 : decode cX9_end 21 = .ok (.return_, 1) := by decide +kernel
theorem dX9_endDash_0 : decode cX9_endDash 0 = .ok (.aload_n 0, 1) := by decide +kernel
theorem dX9_endDash_1 : decode cX9_endDash 1 = .ok (.getfield 170, 3) := by decide +kernel
theorem dX9_endDash_4 : decode cX9_endDash 4 = .ok (.ifCond .ne 8, 3) := by decide +kernel
theorem dX9_endDash_7 : decode cX9_endDash 7 = .ok (.aload_n 0, 1) := by decide +kernel
theorem dX9_endDash_8 : decode cX9_endDash 8 = .ok (.iconst 0, 1) := by decide +kernel
theorem dX9_endDash_9 : decode cX9_endDash 9 = .ok (.invokevirtual 186, 3) := by decide +kernel
theorem dX9_endDash_12 : decode cX9_endDash 12 = .ok (.aload_n 0, 1) := by decide +kernel
theorem dX9_endDash_13 : decode cX9_endDash 13 = .ok (.iconst 0, 1) := by decide +kernel
theorem dX9_endDash_14 : decode cX9_endDash 14 = .ok (.putfield 146, 3) := by decide +kernel
theorem dX9_endDash_17 : decode cX9_endDash 17 = .ok (.return_, 1) := by decide +kernel
theorem dX9_init_0 : decode cX9_init 0 = .ok (.aload_n 0, 1) := by decide +kernel
theorem dX9_init_1 : decode cX9_init 1 = .ok (.invokespecial 1, 3) := by decide +kernel
theorem dX9_init_4 : decode cX9_init 4 = .ok (.aload_n 0, 1) := by decide +kernel
theorem dX9_init_5 : decode cX9_init 5 = .ok (.sipush 2000, 3) := by decide +kernel
theorem dX9_init_8 : decode cX9_init 8 = .ok (.newarray .int, 2) := by decide +kernel
theorem dX9_init_10 : decode cX9_init 10 = .ok (.putfield 7, 3) := by decide +kernel
theorem dX9_init_13 : decode cX9_init 13 = .ok (.aload_n 0, 1) := by decide +kernel
theorem dX9_init_14 : decode cX9_init 14 = .ok (.sipush 2000, 3) := by decide +kernel
theorem dX9_init_17 : decode cX9_init 17 = .ok (.newarray .int, 2) := by decide +kernel
theorem dX9_init_19 : decode cX9_init 19 = .ok (.putfield 13, 3) := by decide +kernel
theorem dX9_init_22 : decode cX9_init 22 = .ok (.aload_n 0, 1) := by decide +kernel
theorem dX9_init_23 : decode cX9_init 23 = .ok (.sipush 2000, 3) := by decide +kernel
theorem dX9_init_26 : decode cX9_init 26 = .ok (.newarray .byte, 2) := by decide +kernel
theorem dX9_init_28 : decode cX9_init 28 = .ok (.putfield 16, 3) := by decide +kernel
theorem dX9_init_31 : decode cX9_init 31 = .ok (.aload_n 0, 1) := by decide +kernel
theorem dX9_init_32 : decode cX9_init 32 = .ok (.ldc 20, 2) := by decide +kernel
theorem dX9_init_34 : decode cX9_init 34 = .ok (.putfield 21, 3) := by decide +kernel
theorem dX9_init_37 : decode cX9_init 37 = .ok (.aload_n 0, 1) := by decide +kernel
theorem dX9_init_38 : decode cX9_init 38 = .ok (.ldc2_w 25, 3) := by decide +kernel
theorem dX9_init_41 : decode cX9_init 41 = .ok (.putfield 27, 3) := by decide +kernel
theorem dX9_init_44 : decode cX9_init 44 = .ok (.aload_n 0, 1) := by decide +kernel
theorem dX9_init_45 : decode cX9_init 45 = .ok (.bipush 8, 2) := by decide +kernel
theorem dX9_init_47 : decode cX9_init 47 = .ok (.newarray .int, 2) := by decide +kernel
theorem dX9_init_49 : decode cX9_init 49 = .ok (.putfield 31, 3) := by decide +kernel
theorem dX9_init_52 : decode cX9_init 52 = .ok (.aload_n 0, 1) := by decide +kernel
theorem dX9_init_53 : decode cX9_init 53 = .ok (.sipush 2004, 3) := by decide +kernel
theorem dX9_init_56 : decode cX9_init 56 = .ok (.newarray .long, 2) := by decide +kernel
theorem dX9_init_58 : decode cX9_init 58 = .ok (.putfield 34, 3) := by decide +kernel
theorem dX9_init_61 : decode cX9_init 61 = .ok (.aload_n 0, 1) := by decide +kernel
theorem dX9_init_62 : decode cX9_init 62 = .ok (.sipush 2004, 3) := by decide +kernel
theorem dX9_init_65 : decode cX9_init 65 = .ok (.newarray .long, 2) := by decide +kernel
theorem dX9_init_67 : decode cX9_init 67 = .ok (.putfield 38, 3) := by decide +kernel
theorem dX9_init_70 : decode cX9_init 70 = .ok (.aload_n 0, 1) := by decide +kernel
theorem dX9_init_71 : decode cX9_init 71 = .ok (.sipush 2000, 3) := by decide +kernel
theorem dX9_init_74 : decode cX9_init 74 = .ok (.newarray .int, 2) := by decide +kernel
theorem dX9_init_76 : decode cX9_init 76 = .ok (.putfield 41, 3) := by decide +kernel
theorem dX9_init_79 : decode cX9_init 79 = .ok (.aload_n 0, 1) := by decide +kernel
theorem dX9_init_80 : decode cX9_init 80 = .ok (.sipush 2000, 3) := by decide +kernel
theorem dX9_init_83 : decode cX9_init 83 = .ok (.newarray .int, 2) := by decide +kernel
theorem dX9_init_85 : decode cX9_init 85 = .ok (.putfield 44, 3) := by decide +kernel
theorem dX9_init_88 : decode cX9_init 88 = .ok (.aload_n 0, 1) := by decide +kernel
theorem dX9_init_89 : decode cX9_init 89 = .ok (.sipush 2000, 3) := by decide +kernel
theorem dX9_init_92 : decode cX9_init 92 = .ok (.newarray .byte, 2) := by decide +kernel
theorem dX9_init_94 : decode cX9_init 94 = .ok (.putfield 47, 3) := by decide +kernel
theorem dX9_init_97 : decode cX9_init 97 = .ok (.aload_n 0, 1) := by decide +kernel
theorem dX9_init_98 : decode cX9_init 98 = .ok (.sipush 16000, 3) := by decide +kernel
theorem dX9_init_101 : decode cX9_init 101 = .ok (.newarray .int, 2) := by decide +kernel
theorem dX9_init_103 : decode cX9_init 103 = .ok (.putfield 50, 3) := by decide +kernel
theorem dX9_init_106 : decode cX9_init 106 = .ok (.aload_n 0, 1) := by decide +kernel
theorem dX9_init_107 : decode cX9_init 107 = .ok (.bipush 8, 2) := by decide +kernel
theorem dX9_init_109 : decode cX9_init 109 = .ok (.newarray .int, 2) := by decide +kernel
theorem dX9_init_111 : decode cX9_init 111 = .ok (.putfield 53, 3) := by decide +kernel
theorem dX9_init_114 : decode cX9_init 114 = .ok (.return_, 1) := by decide +kernel
theorem dX9_isFar_0 : decode cX9_isFar 0 = .ok (.lload_n 0, 1) := by decide +kernel
theorem dX9_isFar_1 : decode cX9_isFar 1 = .ok (.ldc2_w 56, 3) := by decide +kernel
theorem dX9_isFar_4 : decode cX9_isFar 4 = .ok (.lcmp, 1) := by decide +kernel
theorem dX9_isFar_5 : decode cX9_isFar 5 = .ok (.ifCond .lt 11, 3) := by decide +kernel
theorem dX9_isFar_8 : decode cX9_isFar 8 = .ok (.lload_n 0, 1) := by decide +kernel
theorem dX9_isFar_9 : decode cX9_isFar 9 = .ok (.ldc2_w 58, 3) := by decide +kernel
theorem dX9_isFar_12 : decode cX9_isFar 12 = .ok (.lcmp, 1) := by decide +kernel
theorem dX9_isFar_13 : decode cX9_isFar 13 = .ok (.ifCond .le 7, 3) := by decide +kernel
theorem dX9_isFar_16 : decode cX9_isFar 16 = .ok (.iconst 1, 1) := by decide +kernel
theorem dX9_isFar_17 : decode cX9_isFar 17 = .ok (.goto 4, 3) := by decide +kernel
theorem dX9_isFar_20 : decode cX9_isFar 20 = .ok (.iconst 0, 1) := by decide +kernel
theorem dX9_isFar_21 : decode cX9_isFar 21 = .ok (.ireturn, 1) := by decide +kernel
theorem dX9_length_0 : decode cX9_length 0 = .ok (.iload_n 1, 1) := by decide +kernel
theorem dX9_length_1 : decode cX9_length 1 = .ok (.ifCond .lt 22, 3) := by decide +kernel
theorem dX9_length_4 : decode cX9_length 4 = .ok (.iload_n 1, 1) := by decide +kernel
theorem dX9_length_5 : decode cX9_length 5 = .ok (.bipush 7, 2) := by decide +kernel
theorem dX9_length_7 : decode cX9_length 7 = .ok (.if_icmp .gt 16, 3) := by decide +kernel
theorem dX9_length_10 : decode cX9_length 10 = .ok (.iload_n 2, 1) := by decide +kernel
theorem dX9_length_11 : decode cX9_length 11 = .ok (.ifCond .lt 12, 3) := by decide +kernel
theorem dX9_length_14 : decode cX9_length 14 = .ok (.iload_n 2, 1) := by decide +kernel
theorem dX9_length_15 : decode cX9_length 15 = .ok (.i2l, 1) := by decide +kernel
theorem dX9_length_16 : decode cX9_length 16 = .ok (.ldc2_w 58, 3) := by decide +kernel
theorem dX9_length_19 : decode cX9_length 19 = .ok (.lcmp, 1) := by decide +kernel
theorem dX9_length_20 : decode cX9_length 20 = .ok (.ifCond .le 5, 3) := by decide +kernel
theorem dX9_length_23 : decode cX9_length 23 = .ok (.iconst 0, 1) := by decide +kernel
theorem dX9_length_24 : decode cX9_length 24 = .ok (.ireturn, 1) := by decide +kernel
theorem dX9_length_25 : decode cX9_length 25 = .ok (.aload_n 0, 1) := by decide +kernel
theorem dX9_length_26 : decode cX9_length 26 = .ok (.getfield 31, 3) := by decide +kernel
theorem dX9_length_29 : decode cX9_length 29 = .ok (.iload_n 1, 1) := by decide +kernel
theorem dX9_length_30 : decode cX9_length 30 = .ok (.iload_n 2, 1) := by decide +kernel
theorem dX9_length_31 : decode cX9_length 31 = .ok (.iastore, 1) := by decide +kernel
theorem dX9_length_32 : decode cX9_length 32 = .ok (.iconst 1, 1) := by decide +kernel
theorem dX9_length_33 : decode cX9_length 33 = .ok (.ireturn, 1) := by decide +kernel
theorem dX9_lengthOf_0 : decode cX9_lengthOf 0 = .ok (.lload_n 0, 1) := by decide +kernel
theorem dX9_lengthOf_1 : decode cX9_lengthOf 1 = .ok (.lload_n 0, 1) := by decide +kernel
theorem dX9_lengthOf_2 : decode cX9_lengthOf 2 = .ok (.lmul, 1) := by decide +kernel
theorem dX9_lengthOf_3 : decode cX9_lengthOf 3 = .ok (.lload_n 2, 1) := by decide +kernel
theorem dX9_lengthOf_4 : decode cX9_lengthOf 4 = .ok (.lload_n 2, 1) := by decide +kernel
theorem dX9_lengthOf_5 : decode cX9_lengthOf 5 = .ok (.lmul, 1) := by decide +kernel
theorem dX9_lengthOf_6 : decode cX9_lengthOf 6 = .ok (.ladd, 1) := by decide +kernel
theorem dX9_lengthOf_7 : decode cX9_lengthOf 7 = .ok (.invokestatic 105, 3) := by decide +kernel
theorem dX9_lengthOf_10 : decode cX9_lengthOf 10 = .ok (.lreturn, 1) := by decide +kernel
theorem dX9_line_0 : decode cX9_line 0 = .ok (.aload_n 0, 1) := by decide +kernel
theorem dX9_line_1 : decode cX9_line 1 = .ok (.getfield 60, 3) := by decide +kernel
theorem dX9_line_4 : decode cX9_line 4 = .ok (.ifCond .eq 16, 3) := by decide +kernel
theorem dX9_line_7 : decode cX9_line 7 = .ok (.aload_n 0, 1) := by decide +kernel
theorem dX9_line_8 : decode cX9_line 8 = .ok (.getfield 16, 3) := by decide +kernel
theorem dX9_line_11 : decode cX9_line 11 = .ok (.aload_n 0, 1) := by decide +kernel
theorem dX9_line_12 : decode cX9_line 12 = .ok (.getfield 71, 3) := by decide +kernel
theorem dX9_line_15 : decode cX9_line 15 = .ok (.baload, 1) := by decide +kernel
theorem dX9_line_16 : decode cX9_line 16 = .ok (.iconst 3, 1) := by decide +kernel
theorem dX9_line_17 : decode cX9_line 17 = .ok (.if_icmp .ne 6, 3) := by decide +kernel
theorem dX9_line_20 : decode cX9_line 20 = .ok (.bipush (-2), 2) := by decide +kernel
theorem dX9_line_22 : decode cX9_line 22 = .ok (.ireturn, 1) := by decide +kernel
theorem dX9_line_23 : decode cX9_line 23 = .ok (.iload_n 1, 1) := by decide +kernel
theorem dX9_line_24 : decode cX9_line 24 = .ok (.i2l, 1) := by decide +kernel
theorem dX9_line_25 : decode cX9_line 25 = .ok (.invokestatic 63, 3) := by decide +kernel
theorem dX9_line_28 : decode cX9_line 28 = .ok (.ifCond .ne 11, 3) := by decide +kernel
theorem dX9_line_31 : decode cX9_line 31 = .ok (.iload_n 2, 1) := by decide +kernel
theorem dX9_line_32 : decode cX9_line 32 = .ok (.i2l, 1) := by decide +kernel
theorem dX9_line_33 : decode cX9_line 33 = .ok (.invokestatic 63, 3) := by decide +kernel
theorem dX9_line_36 : decode cX9_line 36 = .ok (.ifCond .eq 8, 3) := by decide +kernel
theorem dX9_line_39 : decode cX9_line 39 = .ok (.bipush (-4), 2) := by decide +kernel
theorem dX9_line_41 : decode cX9_line 41 = .ok (.goto 10, 3) := by decide +kernel
theorem dX9_line_44 : decode cX9_line 44 = .ok (.aload_n 0, 1) := by decide +kernel
theorem dX9_line_45 : decode cX9_line 45 = .ok (.iload_n 1, 1) := by decide +kernel
theorem dX9_line_46 : decode cX9_line 46 = .ok (.iload_n 2, 1) := by decide +kernel
theorem dX9_line_47 : decode cX9_line 47 = .ok (.iconst 0, 1) := by decide +kernel
theorem dX9_line_48 : decode cX9_line 48 = .ok (.invokevirtual 67, 3) := by decide +kernel
theorem dX9_line_51 : decode cX9_line 51 = .ok (.ireturn, 1) := by decide +kernel
theorem dX9_make_0 : decode cX9_make 0 = .ok (.iload_n 1, 1) := by decide +kernel
theorem dX9_make_1 : decode cX9_make 1 = .ok (.ifCond .eq 10, 3) := by decide +kernel
theorem dX9_make_4 : decode cX9_make 4 = .ok (.aload_n 0, 1) := by decide +kernel
theorem dX9_make_5 : decode cX9_make 5 = .ok (.getfield 146, 3) := by decide +kernel
theorem dX9_make_8 : decode cX9_make 8 = .ok (.goto 9, 3) := by decide +kernel
theorem dX9_make_11 : decode cX9_make 11 = .ok (.aload_n 0, 1) := by decide +kernel
theorem dX9_make_12 : decode cX9_make 12 = .ok (.getfield 146, 3) := by decide +kernel
theorem dX9_make_15 : decode cX9_make 15 = .ok (.iconst 1, 1) := by decide +kernel
theorem dX9_make_16 : decode cX9_make 16 = .ok (.isub, 1) := by decide +kernel
theorem dX9_make_17 : decode cX9_make 17 = .ok (.istore_n 2, 1) := by decide +kernel
theorem dX9_make_18 : decode cX9_make 18 = .ok (.aload_n 0, 1) := by decide +kernel
theorem dX9_make_19 : decode cX9_make 19 = .ok (.getfield 146, 3) := by decide +kernel
theorem dX9_make_22 : decode cX9_make 22 = .ok (.iconst 2, 1) := by decide +kernel
theorem dX9_make_23 : decode cX9_make 23 = .ok (.if_icmp .ge 4, 3) := by decide +kernel
theorem dX9_make_26 : decode cX9_make 26 = .ok (.return_, 1) := by decide +kernel
