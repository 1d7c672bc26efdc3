theorem dX0_shut_0 : decode cX0_shut 0 = .ok (.aload_n 0, 1) := by decide +kernel
theorem dX0_shut_1 : decode cX0_shut 1 = .ok (.getfield 25, 3) := by decide +kernel
theorem dX0_shut_4 : decode cX0_shut 4 = .ok (.iconst 1, 1) := by decide +kernel
theorem dX0_shut_5 : decode cX0_shut 5 = .ok (.isub, 1) := by decide +kernel
theorem dX0_shut_6 : decode cX0_shut 6 = .ok (.istore_n 1, 1) := by decide +kernel
theorem dX0_shut_7 : decode cX0_shut 7 = .ok (.iload_n 1, 1) := by decide +kernel
theorem dX0_shut_8 : decode cX0_shut 8 = .ok (.ifCond .lt 10, 3) := by decide +kernel
theorem dX0_shut_11 : decode cX0_shut 11 = .ok (.iload_n 1, 1) := by decide +kernel
theorem dX0_shut_12 : decode cX0_shut 12 = .ok (.sipush 2000, 3) := by decide +kernel
theorem dX0_shut_15 : decode cX0_shut 15 = .ok (.if_icmp .lt 6, 3) := by decide +kernel
theorem dX0_shut_18 : decode cX0_shut 18 = .ok (.bipush (-2), 2) := by decide +kernel
theorem dX0_shut_20 : decode cX0_shut 20 = .ok (.ireturn, 1) := by decide +kernel
theorem dX0_shut_21 : decode cX0_shut 21 = .ok (.aload_n 0, 1) := by decide +kernel
theorem dX0_shut_22 : decode cX0_shut 22 = .ok (.getfield 21, 3) := by decide +kernel
theorem dX0_shut_25 : decode cX0_shut 25 = .ok (.iload_n 1, 1) := by decide +kernel
theorem dX0_shut_26 : decode cX0_shut 26 = .ok (.iconst 1, 1) := by decide +kernel
theorem dX0_shut_27 : decode cX0_shut 27 = .ok (.bastore, 1) := by decide +kernel
theorem dX0_shut_28 : decode cX0_shut 28 = .ok (.aload_n 0, 1) := by decide +kernel
theorem dX0_shut_29 : decode cX0_shut 29 = .ok (.getfield 33, 3) := by decide +kernel
theorem dX0_shut_32 : decode cX0_shut 32 = .ok (.ireturn, 1) := by decide +kernel
theorem dX1_capBeginning_0 : decode cX1_capBeginning 0 = .ok (.aload_n 0, 1) := by decide +kernel
theorem dX1_capBeginning_1 : decode cX1_capBeginning 1 = .ok (.getfield 25, 3) := by decide +kernel
theorem dX1_capBeginning_4 : decode cX1_capBeginning 4 = .ok (.iconst 3, 1) := by decide +kernel
theorem dX1_capBeginning_5 : decode cX1_capBeginning 5 = .ok (.invokevirtual 76, 3) := by decide +kernel
theorem dX1_capBeginning_8 : decode cX1_capBeginning 8 = .ok (.aload_n 0, 1) := by decide +kernel
theorem dX1_capBeginning_9 : decode cX1_capBeginning 9 = .ok (.getfield 25, 3) := by decide +kernel
theorem dX1_capBeginning_12 : decode cX1_capBeginning 12 = .ok (.aload_n 0, 1) := by decide +kernel
theorem dX1_capBeginning_13 : decode cX1_capBeginning 13 = .ok (.getfield 12, 3) := by decide +kernel
theorem dX1_capBeginning_16 : decode cX1_capBeginning 16 = .ok (.getfield 80, 3) := by decide +kernel
theorem dX1_capBeginning_19 : decode cX1_capBeginning 19 = .ok (.aload_n 0, 1) := by decide +kernel
theorem dX1_capBeginning_20 : decode cX1_capBeginning 20 = .ok (.getfield 12, 3) := by decide +kernel
theorem dX1_capBeginning_23 : decode cX1_capBeginning 23 = .ok (.getfield 84, 3) := by decide +kernel
theorem dX1_capBeginning_26 : decode cX1_capBeginning 26 = .ok (.lsub, 1) := by decide +kernel
theorem dX1_capBeginning_27 : decode cX1_capBeginning 27 = .ok (.aload_n 0, 1) := by decide +kernel
theorem dX1_capBeginning_28 : decode cX1_capBeginning 28 = .ok (.getfield 12, 3) := by decide +kernel
theorem dX1_capBeginning_31 : decode cX1_capBeginning 31 = .ok (.getfield 87, 3) := by decide +kernel
theorem dX1_capBeginning_34 : decode cX1_capBeginning 34 = .ok (.aload_n 0, 1) := by decide +kernel
theorem dX1_capBeginning_35 : decode cX1_capBeginning 35 = .ok (.getfield 12, 3) := by decide +kernel
theorem dX1_capBeginning_38 : decode cX1_capBeginning 38 = .ok (.getfield 90, 3) := by decide +kernel
theorem dX1_capBeginning_41 : decode cX1_capBeginning 41 = .ok (.lsub, 1) := by decide +kernel
theorem dX1_capBeginning_42 : decode cX1_capBeginning 42 = .ok (.invokevirtual 93, 3) := by decide +kernel
theorem dX1_capBeginning_45 : decode cX1_capBeginning 45 = .ok (.aload_n 0, 1) := by decide +kernel
theorem dX1_capBeginning_46 : decode cX1_capBeginning 46 = .ok (.getfield 25, 3) := by decide +kernel
theorem dX1_capBeginning_49 : decode cX1_capBeginning 49 = .ok (.aload_n 0, 1) := by decide +kernel
theorem dX1_capBeginning_50 : decode cX1_capBeginning 50 = .ok (.getfield 12, 3) := by decide +kernel
theorem dX1_capBeginning_53 : decode cX1_capBeginning 53 = .ok (.getfield 80, 3) := by decide +kernel
theorem dX1_capBeginning_56 : decode cX1_capBeginning 56 = .ok (.aload_n 0, 1) := by decide +kernel
theorem dX1_capBeginning_57 : decode cX1_capBeginning 57 = .ok (.getfield 12, 3) := by decide +kernel
theorem dX1_capBeginning_60 : decode cX1_capBeginning 60 = .ok (.getfield 84, 3) := by decide +kernel
theorem dX1_capBeginning_63 : decode cX1_capBeginning 63 = .ok (.lsub, 1) := by decide +kernel
theorem dX1_capBeginning_64 : decode cX1_capBeginning 64 = .ok (.aload_n 0, 1) := by decide +kernel
theorem dX1_capBeginning_65 : decode cX1_capBeginning 65 = .ok (.getfield 12, 3) := by decide +kernel
theorem dX1_capBeginning_68 : decode cX1_capBeginning 68 = .ok (.getfield 103, 3) := by decide +kernel
theorem dX1_capBeginning_71 : decode cX1_capBeginning 71 = .ok (.lsub, 1) := by decide +kernel
theorem dX1_capBeginning_72 : decode cX1_capBeginning 72 = .ok (.aload_n 0, 1) := by decide +kernel
theorem dX1_capBeginning_73 : decode cX1_capBeginning 73 = .ok (.getfield 12, 3) := by decide +kernel
theorem dX1_capBeginning_76 : decode cX1_capBeginning 76 = .ok (.getfield 87, 3) := by decide +kernel
theorem dX1_capBeginning_79 : decode cX1_capBeginning 79 = .ok (.aload_n 0, 1) := by decide +kernel
theorem dX1_capBeginning_80 : decode cX1_capBeginning 80 = .ok (.getfield 12, 3) := by decide +kernel
theorem dX1_capBeginning_83 : decode cX1_capBeginning 83 = .ok (.getfield 90, 3) := by decide +kernel
theorem dX1_capBeginning_86 : decode cX1_capBeginning 86 = .ok (.lsub, 1) := by decide +kernel
theorem dX1_capBeginning_87 : decode cX1_capBeginning 87 = .ok (.aload_n 0, 1) := by decide +kernel
theorem dX1_capBeginning_88 : decode cX1_capBeginning 88 = .ok (.getfield 12, 3) := by decide +kernel
theorem dX1_capBeginning_91 : decode cX1_capBeginning 91 = .ok (.getfield 106, 3) := by decide +kernel
theorem dX1_capBeginning_94 : decode cX1_capBeginning 94 = .ok (.lsub, 1) := by decide +kernel
theorem dX1_capBeginning_95 : decode cX1_capBeginning 95 = .ok (.invokevirtual 93, 3) := by decide +kernel
theorem dX1_capBeginning_98 : decode cX1_capBeginning 98 = .ok (.aload_n 0, 1) := by decide +kernel
theorem dX1_capBeginning_99 : decode cX1_capBeginning 99 = .ok (.getfield 25, 3) := by decide +kernel
theorem dX1_capBeginning_102 : decode cX1_capBeginning 102 = .ok (.aload_n 0, 1) := by decide +kernel
theorem dX1_capBeginning_103 : decode cX1_capBeginning 103 = .ok (.getfield 12, 3) := by decide +kernel
theorem dX1_capBeginning_106 : decode cX1_capBeginning 106 = .ok (.getfield 80, 3) := by decide +kernel
theorem dX1_capBeginning_109 : decode cX1_capBeginning 109 = .ok (.aload_n 0, 1) := by decide +kernel
theorem dX1_capBeginning_110 : decode cX1_capBeginning 110 = .ok (.getfield 12, 3) := by decide +kernel
theorem dX1_capBeginning_113 : decode cX1_capBeginning 113 = .ok (.getfield 84, 3) := by decide +kernel
theorem dX1_capBeginning_116 : decode cX1_capBeginning 116 = .ok (.ladd, 1) := by decide +kernel
theorem dX1_capBeginning_117 : decode cX1_capBeginning 117 = .ok (.aload_n 0, 1) := by decide +kernel
theorem dX1_capBeginning_118 : decode cX1_capBeginning 118 = .ok (.getfield 12, 3) := by decide +kernel
theorem dX1_capBeginning_121 : decode cX1_capBeginning 121 = .ok (.getfield 103, 3) := by decide +kernel
theorem dX1_capBeginning_124 : decode cX1_capBeginning 124 = .ok (.lsub, 1) := by decide +kernel
theorem dX1_capBeginning_125 : decode cX1_capBeginning 125 = .ok (.aload_n 0, 1) := by decide +kernel
theorem dX1_capBeginning_126 : decode cX1_capBeginning 126 = .ok (.getfield 12, 3) := by decide +kernel
theorem dX1_capBeginning_129 : decode cX1_capBeginning 129 = .ok (.getfield 87, 3) := by decide +kernel
theorem dX1_capBeginning_132 : decode cX1_capBeginning 132 = .ok (.aload_n 0, 1) := by decide +kernel
theorem dX1_capBeginning_133 : decode cX1_capBeginning 133 = .ok (.getfield 12, 3) := by decide +kernel
theorem dX1_capBeginning_136 : decode cX1_capBeginning 136 = .ok (.getfield 90, 3) := by decide +kernel
theorem dX1_capBeginning_139 : decode cX1_capBeginning 139 = .ok (.ladd, 1) := by decide +kernel
theorem dX1_capBeginning_140 : decode cX1_capBeginning 140 = .ok (.aload_n 0, 1) := by decide +kernel
theorem dX1_capBeginning_141 : decode cX1_capBeginning 141 = .ok (.getfield 12, 3) := by decide +kernel
theorem dX1_capBeginning_144 : decode cX1_capBeginning 144 = .ok (.getfield 106, 3) := by decide +kernel
theorem dX1_capBeginning_147 : decode cX1_capBeginning 147 = .ok (.lsub, 1) := by decide +kernel
theorem dX1_capBeginning_148 : decode cX1_capBeginning 148 = .ok (.invokevirtual 93, 3) := by decide +kernel
theorem dX1_capBeginning_151 : decode cX1_capBeginning 151 = .ok (.aload_n 0, 1) := by decide +kernel
theorem dX1_capBeginning_152 : decode cX1_capBeginning 152 = .ok (.getfield 25, 3) := by decide +kernel
theorem dX1_capBeginning_155 : decode cX1_capBeginning 155 = .ok (.aload_n 0, 1) := by decide +kernel
theorem dX1_capBeginning_156 : decode cX1_capBeginning 156 = .ok (.getfield 12, 3) := by decide +kernel
theorem dX1_capBeginning_159 : decode cX1_capBeginning 159 = .ok (.getfield 80, 3) := by decide +kernel
theorem dX1_capBeginning_162 : decode cX1_capBeginning 162 = .ok (.aload_n 0, 1) := by decide +kernel
theorem dX1_capBeginning_163 : decode cX1_capBeginning 163 = .ok (.getfield 12, 3) := by decide +kernel
theorem dX1_capBeginning_166 : decode cX1_capBeginning 166 = .ok (.getfield 84, 3) := by decide +kernel
theorem dX1_capBeginning_169 : decode cX1_capBeginning 169 = .ok (.ladd, 1) := by decide +kernel
theorem dX1_capBeginning_170 : decode cX1_capBeginning 170 = .ok (.aload_n 0, 1) := by decide +kernel
theorem dX1_capBeginning_171 : decode cX1_capBeginning 171 = .ok (.getfield 12, 3) := by decide +kernel
theorem dX1_capBeginning_174 : decode cX1_capBeginning 174 = .ok (.getfield 87, 3) := by decide +kernel
theorem dX1_capBeginning_177 : decode cX1_capBeginning 177 = .ok (.aload_n 0, 1) := by decide +kernel
theorem dX1_capBeginning_178 : decode cX1_capBeginning 178 = .ok (.getfield 12, 3) := by decide +kernel
theorem dX1_capBeginning_181 : decode cX1_capBeginning 181 = .ok (.getfield 90, 3) := by decide +kernel
theorem dX1_capBeginning_184 : decode cX1_capBeginning 184 = .ok (.ladd, 1) := by decide +kernel
theorem dX1_capBeginning_185 : decode cX1_capBeginning 185 = .ok (.invokevirtual 93, 3) := by decide +kernel
theorem dX1_capBeginning_188 : decode cX1_capBeginning 188 = .ok (.return_, 1) := by decide +kernel
theorem dX1_capEnd_0 : decode cX1_capEnd 0 = .ok (.aload_n 0, 1) := by decide +kernel
theorem dX1_capEnd_1 : decode cX1_capEnd 1 = .ok (.getfield 25, 3) := by decide +kernel
theorem dX1_capEnd_4 : decode cX1_capEnd 4 = .ok (.iconst 3, 1) := by decide +kernel
theorem dX1_capEnd_5 : decode cX1_capEnd 5 = .ok (.invokevirtual 76, 3) := by decide +kernel
theorem dX1_capEnd_8 : decode cX1_capEnd 8 = .ok (.aload_n 0, 1) := by decide +kernel
theorem dX1_capEnd_9 : decode cX1_capEnd 9 = .ok (.getfield 25, 3) := by decide +kernel
theorem dX1_capEnd_12 : decode cX1_capEnd 12 = .ok (.aload_n 0, 1) := by decide +kernel
theorem dX1_capEnd_13 : decode cX1_capEnd 13 = .ok (.getfield 12, 3) := by decide +kernel
theorem dX1_capEnd_16 : decode cX1_capEnd 16 = .ok (.getfield 97, 3) := by decide +kernel
theorem dX1_capEnd_19 : decode cX1_capEnd 19 = .ok (.aload_n 0, 1) := by decide +kernel
theorem dX1_capEnd_20 : decode cX1_capEnd 20 = .ok (.getfield 12, 3) := by decide +kernel
theorem dX1_capEnd_23 : decode cX1_capEnd 23 = .ok (.getfield 84, 3) := by decide +kernel
theorem dX1_capEnd_26 : decode cX1_capEnd 26 = .ok (.ladd, 1) := by decide +kernel
theorem dX1_capEnd_27 : decode cX1_capEnd 27 = .ok (.aload_n 0, 1) := by decide +kernel
theorem dX1_capEnd_28 : decode cX1_capEnd 28 = .ok (.getfield 12, 3) := by decide +kernel
theorem dX1_capEnd_31 : decode cX1_capEnd 31 = .ok (.getfield 100, 3) := by decide +kernel
theorem dX1_capEnd_34 : decode cX1_capEnd 34 = .ok (.aload_n 0, 1) := by decide +kernel
theorem dX1_capEnd_35 : decode cX1_capEnd 35 = .ok (.getfield 12, 3) := by decide +kernel
theorem dX1_capEnd_38 : decode cX1_capEnd 38 = .ok (.getfield 90, 3) := by decide +kernel
theorem dX1_capEnd_41 : decode cX1_capEnd 41 = .ok (.ladd, 1) := by decide +kernel
theorem dX1_capEnd_42 : decode cX1_capEnd 42 = .ok (.invokevirtual 93, 3) := by decide +kernel
theorem dX1_capEnd_45 : decode cX1_capEnd 45 = .ok (.aload_n 0, 1) := by decide +kernel
theorem dX1_capEnd_46 : decode cX1_capEnd 46 = .ok (.getfield 25, 3) := by decide +kernel
theorem dX1_capEnd_49 : decode cX1_capEnd 49 = .ok (.aload_n 0, 1) := by decide +kernel
theorem dX1_capEnd_50 : decode cX1_capEnd 50 = .ok (.getfield 12, 3) := by decide +kernel
theorem dX1_capEnd_53 : decode cX1_capEnd 53 = .ok (.getfield 97, 3) := by decide +kernel
theorem dX1_capEnd_56 : decode cX1_capEnd 56 = .ok (.aload_n 0, 1) := by decide +kernel
theorem dX1_capEnd_57 : decode cX1_capEnd 57 = .ok (.getfield 12, 3) := by decide +kernel
theorem dX1_capEnd_60 : decode cX1_capEnd 60 = .ok (.getfield 84, 3) := by decide +kernel
theorem dX1_capEnd_63 : decode cX1_capEnd 63 = .ok (.ladd, 1) := by decide +kernel
theorem dX1_capEnd_64 : decode cX1_capEnd 64 = .ok (.aload_n 0, 1) := by decide +kernel
theorem dX1_capEnd_65 : decode cX1_capEnd 65 = .ok (.getfield 12, 3) := by decide +kernel
theorem dX1_capEnd_68 : decode cX1_capEnd 68 = .ok (.getfield 103, 3) := by decide +kernel
theorem dX1_capEnd_71 : decode cX1_capEnd 71 = .ok (.ladd, 1) := by decide +kernel
theorem dX1_capEnd_72 : decode cX1_capEnd 72 = .ok (.aload_n 0, 1) := by decide +kernel
theorem dX1_capEnd_73 : decode cX1_capEnd 73 = .ok (.getfield 12, 3) := by decide +kernel
theorem dX1_capEnd_76 : decode cX1_capEnd 76 = .ok (.getfield 100, 3) := by decide +kernel
theorem dX1_capEnd_79 : decode cX1_capEnd 79 = .ok (.aload_n 0, 1) := by decide +kernel
theorem dX1_capEnd_80 : decode cX1_capEnd 80 = .ok (.getfield 12, 3) := by decide +kernel
theorem dX1_capEnd_83 : decode cX1_capEnd 83 = .ok (.getfield 90, 3) := by decide +kernel
theorem dX1_capEnd_86 : decode cX1_capEnd 86 = .ok (.ladd, 1) := by decide +kernel
theorem dX1_capEnd_87 : decode cX1_capEnd 87 = .ok (.aload_n 0, 1) := by decide +kernel
theorem dX1_capEnd_88 : decode cX1_capEnd 88 = .ok (.getfield 12, 3) := by decide +kernel
theorem dX1_capEnd_91 : decode cX1_capEnd 91 = .ok (.getfield 106, 3) := by decide +kernel
theorem dX1_capEnd_94 : decode cX1_capEnd 94 = .ok (.ladd, 1) := by decide +kernel
theorem dX1_capEnd_95 : decode cX1_capEnd 95 = .ok (.invokevirtual 93, 3) := by decide +kernel
theorem dX1_capEnd_98 : decode cX1_capEnd 98 = .ok (.aload_n 0, 1) := by decide +kernel
theorem dX1_capEnd_99 : decode cX1_capEnd 99 = .ok (.getfield 25, 3) := by decide +kernel
theorem dX1_capEnd_102 : decode cX1_capEnd 102 = .ok (.aload_n 0, 1) := by decide +kernel
theorem dX1_capEnd_103 : decode cX1_capEnd 103 = .ok (.getfield 12, 3) := by decide +kernel
theorem dX1_capEnd_106 : decode cX1_capEnd 106 = .ok (.getfield 97, 3) := by decide +kernel
theorem dX1_capEnd_109 : decode cX1_capEnd 109 = .ok (.aload_n 0, 1) := by decide +kernel
theorem dX1_capEnd_110 : decode cX1_capEnd 110 = .ok (.getfield 12, 3) := by decide +kernel
theorem dX1_capEnd_113 : decode cX1_capEnd 113 = .ok (.getfield 84, 3) := by decide +kernel
theorem dX1_capEnd_116 : decode cX1_capEnd 116 = .ok (.lsub, 1) := by decide +kernel
theorem dX1_capEnd_117 : decode cX1_capEnd 117 = .ok (.aload_n 0, 1) := by decide +kernel
theorem dX1_capEnd_118 : decode cX1_capEnd 118 = .ok (.getfield 12, 3) := by decide +kernel
theorem dX1_capEnd_121 : decode cX1_capEnd 121 = .ok (.getfield 103, 3) := by decide +kernel
theorem dX1_capEnd_124 : decode cX1_capEnd 124 = .ok (.ladd, 1) := by decide +kernel
theorem dX1_capEnd_125 : decode cX1_capEnd 125 = .ok (.aload_n 0, 1) := by decide +kernel
theorem dX1_capEnd_126 : decode cX1_capEnd 126 = .ok (.getfield 12, 3) := by decide +kernel
theorem dX1_capEnd_129 : decode cX1_capEnd 129 = .ok (.getfield 100, 3) := by decide +kernel
theorem dX1_capEnd_132 : decode cX1_capEnd 132 = .ok (.aload_n 0, 1) := by decide +kernel
theorem dX1_capEnd_133 : decode cX1_capEnd 133 = .ok (.getfield 12, 3) := by decide +kernel
theorem dX1_capEnd_136 : decode cX1_capEnd 136 = .ok (.getfield 90, 3) := by decide +kernel
theorem dX1_capEnd_139 : decode cX1_capEnd 139 = .ok (.lsub, 1) := by decide +kernel
theorem dX1_capEnd_140 : decode cX1_capEnd 140 = .ok (.aload_n 0, 1) := by decide +kernel
theorem dX1_capEnd_141 : decode cX1_capEnd 141 = .ok (.getfield 12, 3) := by decide +kernel
theorem dX1_capEnd_144 : decode cX1_capEnd 144 = .ok (.getfield 106, 3) := by decide +kernel
theorem dX1_capEnd_147 : decode cX1_capEnd 147 = .ok (.ladd, 1) := by decide +kernel
theorem dX1_capEnd_148 : decode cX1_capEnd 148 = .ok (.invokevirtual 93, 3) := by decide +kernel
theorem dX1_capEnd_151 : decode cX1_capEnd 151 = .ok (.aload_n 0, 1) := by decide +kernel
theorem dX1_capEnd_152 : decode cX1_capEnd 152 = .ok (.getfield 25, 3) := by decide +kernel
theorem dX1_capEnd_155 : decode cX1_capEnd 155 = .ok (.aload_n 0, 1) := by decide +kernel
theorem dX1_capEnd_156 : decode cX1_capEnd 156 = .ok (.getfield 12, 3) := by decide +kernel
theorem dX1_capEnd_159 : decode cX1_capEnd 159 = .ok (.getfield 97, 3) := by decide +kernel
theorem dX1_capEnd_162 : decode cX1_capEnd 162 = .ok (.aload_n 0, 1) := by decide +kernel
theorem dX1_capEnd_163 : decode cX1_capEnd 163 = .ok (.getfield 12, 3) := by decide +kernel
theorem dX1_capEnd_166 : decode cX1_capEnd 166 = .ok (.getfield 84, 3) := by decide +kernel
theorem dX1_capEnd_169 : decode cX1_capEnd 169 = .ok (.lsub, 1) := by decide +kernel
theorem dX1_capEnd_170 : decode cX1_capEnd 170 = .ok (.aload_n 0, 1) := by decide +kernel
theorem dX1_capEnd_171 : decode cX1_capEnd 171 = .ok (.getfield 12, 3) := by decide +kernel
theorem dX1_capEnd_174 : decode cX1_capEnd 174 = .ok (.getfield 100, 3) := by decide +kernel
theorem dX1_capEnd_177 : decode cX1_capEnd 177 = .ok (.aload_n 0, 1) := by decide +kernel
theorem dX1_capEnd_178 : decode cX1_capEnd 178 = .ok (.getfield 12, 3) := by decide +kernel
theorem dX1_capEnd_181 : decode cX1_capEnd 181 = .ok (.getfield 90, 3) := by decide +kernel
theorem dX1_capEnd_184 : decode cX1_capEnd 184 = .ok (.lsub, 1) := by decide +kernel
theorem dX1_capEnd_185 : decode cX1_capEnd 185 = .ok (.invokevirtual 93, 3) := by decide +kernel
theorem dX1_capEnd_188 : decode cX1_capEnd 188 = .ok (.return_, 1) := by decide +kernel
theorem dX1_goOn_0 : decode cX1_goOn 0 = .ok (.aload_n 0, 1) := by decide +kernel
theorem dX1_goOn_1 : decode cX1_goOn 1 = .ok (.getfield 12, 3) := by decide +kernel
theorem dX1_goOn_4 : decode cX1_goOn 4 = .ok (.astore_n 1, 1) := by decide +kernel
theorem dX1_goOn_5 : decode cX1_goOn 5 = .ok (.aload_n 0, 1) := by decide +kernel
theorem dX1_goOn_6 : decode cX1_goOn 6 = .ok (.aload_n 0, 1) := by decide +kernel
theorem dX1_goOn_7 : decode cX1_goOn 7 = .ok (.getfield 18, 3) := by decide +kernel
theorem dX1_goOn_10 : decode cX1_goOn 10 = .ok (.putfield 12, 3) := by decide +kernel
theorem dX1_goOn_13 : decode cX1_goOn 13 = .ok (.aload_n 0, 1) := by decide +kernel
theorem dX1_goOn_14 : decode cX1_goOn 14 = .ok (.aload_n 1, 1) := by decide +kernel
theorem dX1_goOn_15 : decode cX1_goOn 15 = .ok (.putfield 18, 3) := by decide +kernel
theorem dX1_goOn_18 : decode cX1_goOn 18 = .ok (.return_, 1) := by decide +kernel
theorem dX1_init_0 : decode cX1_init 0 = .ok (.aload_n 0, 1) := by decide +kernel
theorem dX1_init_1 : decode cX1_init 1 = .ok (.invokespecial 3, 3) := by decide +kernel
theorem dX1_init_4 : decode cX1_init 4 = .ok (.aload_n 0, 1) := by decide +kernel
theorem dX1_init_5 : decode cX1_init 5 = .ok (.new 9, 3) := by decide +kernel
theorem dX1_init_8 : decode cX1_init 8 = .ok (.dup, 1) := by decide +kernel
theorem dX1_init_9 : decode cX1_init 9 = .ok (.invokespecial 11, 3) := by decide +kernel
theorem dX1_init_12 : decode cX1_init 12 = .ok (.putfield 12, 3) := by decide +kernel
theorem dX1_init_15 : decode cX1_init 15 = .ok (.aload_n 0, 1) := by decide +kernel
theorem dX1_init_16 : decode cX1_init 16 = .ok (.new 9, 3) := by decide +kernel
theorem dX1_init_19 : decode cX1_init 19 = .ok (.dup, 1) := by decide +kernel
theorem dX1_init_20 : decode cX1_init 20 = .ok (.invokespecial 11, 3) := by decide +kernel
theorem dX1_init_23 : decode cX1_init 23 = .ok (.putfield 18, 3) := by decide +kernel
theorem dX1_init_26 : decode cX1_init 26 = .ok (.aload_n 0, 1) := by decide +kernel
theorem dX1_init_27 : decode cX1_init 27 = .ok (.aload_n 1, 1) := by decide +kernel
theorem dX1_init_28 : decode cX1_init 28 = .ok (.putfield 21, 3) := by decide +kernel
theorem dX1_init_31 : decode cX1_init 31 = .ok (.aload_n 0, 1) := by decide +kernel
theorem dX1_init_32 : decode cX1_init 32 = .ok (.aload_n 2, 1) := by decide +kernel
theorem dX1_init_33 : decode cX1_init 33 = .ok (.putfield 25, 3) := by decide +kernel
theorem dX1_init_36 : decode cX1_init 36 = .ok (.return_, 1) := by decide +kernel
theorem dX1_joinBoth_0 : decode cX1_joinBoth 0 = .ok (.aload_n 0, 1) := by decide +kernel
theorem dX1_joinBoth_1 : decode cX1_joinBoth 1 = .ok (.getfield 12, 3) := by decide +kernel
theorem dX1_joinBoth_4 : decode cX1_joinBoth 4 = .ok (.getfield 109, 3) := by decide +kernel
theorem dX1_joinBoth_7 : decode cX1_joinBoth 7 = .ok (.aload_n 0, 1) := by decide +kernel
theorem dX1_joinBoth_8 : decode cX1_joinBoth 8 = .ok (.getfield 18, 3) := by decide +kernel
theorem dX1_joinBoth_11 : decode cX1_joinBoth 11 = .ok (.getfield 112, 3) := by decide +kernel
theorem dX1_joinBoth_14 : decode cX1_joinBoth 14 = .ok (.lmul, 1) := by decide +kernel
theorem dX1_joinBoth_15 : decode cX1_joinBoth 15 = .ok (.aload_n 0, 1) := by decide +kernel
theorem dX1_joinBoth_16 : decode cX1_joinBoth 16 = .ok (.getfield 12, 3) := by decide +kernel
theorem dX1_joinBoth_19 : decode cX1_joinBoth 19 = .ok (.getfield 112, 3) := by decide +kernel
theorem dX1_joinBoth_22 : decode cX1_joinBoth 22 = .ok (.aload_n 0, 1) := by decide +kernel
theorem dX1_joinBoth_23 : decode cX1_joinBoth 23 = .ok (.getfield 18, 3) := by decide +kernel
theorem dX1_joinBoth_26 : decode cX1_joinBoth 26 = .ok (.getfield 109, 3) := by decide +kernel
theorem dX1_joinBoth_29 : decode cX1_joinBoth 29 = .ok (.lmul, 1) := by decide +kernel
theorem dX1_joinBoth_30 : decode cX1_joinBoth 30 = .ok (.lsub, 1) := by decide +kernel
theorem dX1_joinBoth_31 : decode cX1_joinBoth 31 = .ok (.lstore_n 1, 1) := by decide +kernel
theorem dX1_joinBoth_32 : decode cX1_joinBoth 32 = .ok (.lload_n 1, 1) := by decide +kernel
theorem dX1_joinBoth_33 : decode cX1_joinBoth 33 = .ok (.lconst 0, 1) := by decide +kernel
theorem dX1_joinBoth_34 : decode cX1_joinBoth 34 = .ok (.lcmp, 1) := by decide +kernel
theorem dX1_joinBoth_35 : decode cX1_joinBoth 35 = .ok (.ifCond .ne 4, 3) := by decide +kernel
theorem dX1_joinBoth_38 : decode cX1_joinBoth 38 = .ok (.return_, 1) := by decide +kernel
theorem dX1_joinBoth_39 : decode cX1_joinBoth 39 = .ok (.lload_n 1, 1) := by decide +kernel
theorem dX1_joinBoth_40 : decode cX1_joinBoth 40 = .ok (.lconst 0, 1) := by decide +kernel
theorem dX1_joinBoth_41 : decode cX1_joinBoth 41 = .ok (.lcmp, 1) := by decide +kernel
theorem dX1_joinBoth_42 : decode cX1_joinBoth 42 = .ok (.ifCond .le 9, 3) := by decide +kernel
theorem dX1_joinBoth_45 : decode cX1_joinBoth 45 = .ok (.ldc2_w 115, 3) := by decide +kernel
theorem dX1_joinBoth_48 : decode cX1_joinBoth 48 = .ok (.goto 4, 3) := by decide +kernel
theorem dX1_joinBoth_51 : decode cX1_joinBoth 51 = .ok (.lconst 1, 1) := by decide +kernel
theorem dX1_joinBoth_52 : decode cX1_joinBoth 52 = .ok (.lstore_n 3, 1) := by decide +kernel
theorem dX1_joinBoth_53 : decode cX1_joinBoth 53 = .ok (.aload_n 0, 1) := by decide +kernel
theorem dX1_joinBoth_54 : decode cX1_joinBoth 54 = .ok (.getfield 12, 3) := by decide +kernel
theorem dX1_joinBoth_57 : decode cX1_joinBoth 57 = .ok (.getfield 84, 3) := by decide +kernel
theorem dX1_joinBoth_60 : decode cX1_joinBoth 60 = .ok (.aload_n 0, 1) := by decide +kernel
theorem dX1_joinBoth_61 : decode cX1_joinBoth 61 = .ok (.getfield 18, 3) := by decide +kernel
theorem dX1_joinBoth_64 : decode cX1_joinBoth 64 = .ok (.getfield 84, 3) := by decide +kernel
theorem dX1_joinBoth_67 : decode cX1_joinBoth 67 = .ok (.lmul, 1) := by decide +kernel
theorem dX1_joinBoth_68 : decode cX1_joinBoth 68 = .ok (.aload_n 0, 1) := by decide +kernel
theorem dX1_joinBoth_69 : decode cX1_joinBoth 69 = .ok (.getfield 12, 3) := by decide +kernel
theorem dX1_joinBoth_72 : decode cX1_joinBoth 72 = .ok (.getfield 90, 3) := by decide +kernel
theorem dX1_joinBoth_75 : decode cX1_joinBoth 75 = .ok (.aload_n 0, 1) := by decide +kernel
theorem dX1_joinBoth_76 : decode cX1_joinBoth 76 = .ok (.getfield 18, 3) := by decide +kernel
theorem dX1_joinBoth_79 : decode cX1_joinBoth 79 = .ok (.getfield 90, 3) := by decide +kernel
theorem dX1_joinBoth_82 : decode cX1_joinBoth 82 = .ok (.lmul, 1) := by decide +kernel
theorem dX1_joinBoth_83 : decode cX1_joinBoth 83 = .ok (.ladd, 1) := by decide +kernel
theorem dX1_joinBoth_84 : decode cX1_joinBoth 84 = .ok (.lstore 5, 2) := by decide +kernel
theorem dX1_joinBoth_86 : decode cX1_joinBoth 86 = .ok (.aload_n 0, 1) := by decide +kernel
theorem dX1_joinBoth_87 : decode cX1_joinBoth 87 = .ok (.getfield 21, 3) := by decide +kernel
theorem dX1_joinBoth_90 : decode cX1_joinBoth 90 = .ok (.lload 5, 2) := by decide +kernel
theorem dX1_joinBoth_92 : decode cX1_joinBoth 92 = .ok (.invokevirtual 117, 3) := by decide +kernel
theorem dX1_joinBoth_95 : decode cX1_joinBoth 95 = .ok (.istore 7, 2) := by decide +kernel
theorem dX1_joinBoth_97 : decode cX1_joinBoth 97 = .ok (.aload_n 0, 1) := by decide +kernel
theorem dX1_joinBoth_98 : decode cX1_joinBoth 98 = .ok (.getfield 25, 3) := by decide +kernel
theorem dX1_joinBoth_101 : decode cX1_joinBoth 101 = .ok (.iload 7, 2) := by decide +kernel
theorem dX1_joinBoth_103 : decode cX1_joinBoth 103 = .ok (.ifCond .eq 7, 3) := by decide +kernel
theorem dX1_joinBoth_106 : decode cX1_joinBoth 106 = .ok (.iconst 2, 1) := by decide +kernel
theorem dX1_joinBoth_107 : decode cX1_joinBoth 107 = .ok (.goto 4, 3) := by decide +kernel
theorem dX1_joinBoth_110 : decode cX1_joinBoth 110 = .ok (.iconst 1, 1) := by decide +kernel
theorem dX1_joinBoth_111 : decode cX1_joinBoth 111 = .ok (.invokevirtual 76, 3) := by decide +kernel
theorem dX1_joinBoth_114 : decode cX1_joinBoth 114 = .ok (.aload_n 0, 1) := by decide +kernel
theorem dX1_joinBoth_115 : decode cX1_joinBoth 115 = .ok (.getfield 25, 3) := by decide +kernel
theorem dX1_joinBoth_118 : decode cX1_joinBoth 118 = .ok (.aload_n 0, 1) := by decide +kernel
theorem dX1_joinBoth_119 : decode cX1_joinBoth 119 = .ok (.getfield 12, 3) := by decide +kernel
theorem dX1_joinBoth_122 : decode cX1_joinBoth 122 = .ok (.getfield 97, 3) := by decide +kernel
theorem dX1_joinBoth_125 : decode cX1_joinBoth 125 = .ok (.aload_n 0, 1) := by decide +kernel
theorem dX1_joinBoth_126 : decode cX1_joinBoth 126 = .ok (.getfield 12, 3) := by decide +kernel
theorem dX1_joinBoth_129 : decode cX1_joinBoth 129 = .ok (.getfield 100, 3) := by decide +kernel
theorem dX1_joinBoth_132 : decode cX1_joinBoth 132 = .ok (.invokevirtual 93, 3) := by decide +kernel
theorem dX1_joinBoth_135 : decode cX1_joinBoth 135 = .ok (.aload_n 0, 1) := by decide +kernel
theorem dX1_joinBoth_136 : decode cX1_joinBoth 136 = .ok (.getfield 25, 3) := by decide +kernel
theorem dX1_joinBoth_139 : decode cX1_joinBoth 139 = .ok (.aload_n 0, 1) := by decide +kernel
theorem dX1_joinBoth_140 : decode cX1_joinBoth 140 = .ok (.getfield 12, 3) := by decide +kernel
theorem dX1_joinBoth_143 : decode cX1_joinBoth 143 = .ok (.getfield 97, 3) := by decide +kernel
theorem dX1_joinBoth_146 : decode cX1_joinBoth 146 = .ok (.lload_n 3, 1) := by decide +kernel
theorem dX1_joinBoth_147 : decode cX1_joinBoth 147 = .ok (.aload_n 0, 1) := by decide +kernel
theorem dX1_joinBoth_148 : decode cX1_joinBoth 148 = .ok (.getfield 12, 3) := by decide +kernel
theorem dX1_joinBoth_151 : decode cX1_joinBoth 151 = .ok (.getfield 84, 3) := by decide +kernel
theorem dX1_joinBoth_154 : decode cX1_joinBoth 154 = .ok (.lmul, 1) := by decide +kernel
theorem dX1_joinBoth_155 : decode cX1_joinBoth 155 = .ok (.ladd, 1) := by decide +kernel
theorem dX1_joinBoth_156 : decode cX1_joinBoth 156 = .ok (.aload_n 0, 1) := by decide +kernel
theorem dX1_joinBoth_157 : decode cX1_joinBoth 157 = .ok (.getfield 12, 3) := by decide +kernel
theorem dX1_joinBoth_160 : decode cX1_joinBoth 160 = .ok (.getfield 100, 3) := by decide +kernel
theorem dX1_joinBoth_163 : decode cX1_joinBoth 163 = .ok (.lload_n 3, 1) := by decide +kernel
theorem dX1_joinBoth_164 : decode cX1_joinBoth 164 = .ok (.aload_n 0, 1) := by decide +kernel
theorem dX1_joinBoth_165 : decode cX1_joinBoth 165 = .ok (.getfield 12, 3) := by decide +kernel
theorem dX1_joinBoth_168 : decode cX1_joinBoth 168 = .ok (.getfield 90, 3) := by decide +kernel
theorem dX1_joinBoth_171 : decode cX1_joinBoth 171 = .ok (.lmul, 1) := by decide +kernel
theorem dX1_joinBoth_172 : decode cX1_joinBoth 172 = .ok (.ladd, 1) := by decide +kernel
theorem dX1_joinBoth_173 : decode cX1_joinBoth 173 = .ok (.invokevirtual 93, 3) := by decide +kernel
theorem dX1_joinBoth_176 : decode cX1_joinBoth 176 = .ok (.iload 7, 2) := by decide +kernel
theorem dX1_joinBoth_178 : decode cX1_joinBoth 178 = .ok (.ifCond .eq 97, 3) := by decide +kernel
theorem dX1_joinBoth_181 : decode cX1_joinBoth 181 = .ok (.aload_n 0, 1) := by decide +kernel
theorem dX1_joinBoth_182 : decode cX1_joinBoth 182 = .ok (.getfield 21, 3) := by decide +kernel
theorem dX1_joinBoth_185 : decode cX1_joinBoth 185 = .ok (.lload 5, 2) := by decide +kernel
theorem dX1_joinBoth_187 : decode cX1_joinBoth 187 = .ok (.invokevirtual 121, 3) := by decide +kernel
theorem dX1_joinBoth_190 : decode cX1_joinBoth 190 = .ok (.lstore 8, 2) := by decide +kernel
theorem dX1_joinBoth_192 : decode cX1_joinBoth 192 = .ok (.aload_n 0, 1) := by decide +kernel
theorem dX1_joinBoth_193 : decode cX1_joinBoth 193 = .ok (.getfield 12, 3) := by decide +kernel
theorem dX1_joinBoth_196 : decode cX1_joinBoth 196 = .ok (.getfield 84, 3) := by decide +kernel
theorem dX1_joinBoth_199 : decode cX1_joinBoth 199 = .ok (.aload_n 0, 1) := by decide +kernel
theorem dX1_joinBoth_200 : decode cX1_joinBoth 200 = .ok (.getfield 18, 3) := by decide +kernel
theorem dX1_joinBoth_203 : decode cX1_joinBoth 203 = .ok (.getfield 84, 3) := by decide +kernel
theorem dX1_joinBoth_206 : decode cX1_joinBoth 206 = .ok (.ladd, 1) := by decide +kernel
theorem dX1_joinBoth_207 : decode cX1_joinBoth 207 = .ok (.lload 8, 2) := by decide +kernel
theorem dX1_joinBoth_209 : decode cX1_joinBoth 209 = .ok (.lmul, 1) := by decide +kernel
theorem dX1_joinBoth_210 : decode cX1_joinBoth 210 = .ok (.ldc2_w 125, 3) := by decide +kernel
theorem dX1_joinBoth_213 : decode cX1_joinBoth 213 = .ok (.invokestatic 127, 3) := by decide +kernel
theorem dX1_joinBoth_216 : decode cX1_joinBoth 216 = .ok (.lstore 10, 2) := by decide +kernel
theorem dX1_joinBoth_218 : decode cX1_joinBoth 218 = .ok (.aload_n 0, 1) := by decide +kernel
theorem dX1_joinBoth_219 : decode cX1_joinBoth 219 = .ok (.getfield 12, 3) := by decide +kernel
theorem dX1_joinBoth_222 : decode cX1_joinBoth 222 = .ok (.getfield 90, 3) := by decide +kernel
theorem dX1_joinBoth_225 : decode cX1_joinBoth 225 = .ok (.aload_n 0, 1) := by decide +kernel
theorem dX1_joinBoth_226 : decode cX1_joinBoth 226 = .ok (.getfield 18, 3) := by decide +kernel
theorem dX1_joinBoth_229 : decode cX1_joinBoth 229 = .ok (.getfield 90, 3) := by decide +kernel
theorem dX1_joinBoth_232 : decode cX1_joinBoth 232 = .ok (.ladd, 1) := by decide +kernel
theorem dX1_joinBoth_233 : decode cX1_joinBoth 233 = .ok (.lload 8, 2) := by decide +kernel
theorem dX1_joinBoth_235 : decode cX1_joinBoth 235 = .ok (.lmul, 1) := by decide +kernel
theorem dX1_joinBoth_236 : decode cX1_joinBoth 236 = .ok (.ldc2_w 125, 3) := by decide +kernel
theorem dX1_joinBoth_239 : decode cX1_joinBoth 239 = .ok (.invokestatic 127, 3) := by decide +kernel
theorem dX1_joinBoth_242 : decode cX1_joinBoth 242 = .ok (.lstore 12, 2) := by decide +kernel
theorem dX1_joinBoth_244 : decode cX1_joinBoth 244 = .ok (.aload_n 0, 1) := by decide +kernel
theorem dX1_joinBoth_245 : decode cX1_joinBoth 245 = .ok (.getfield 25, 3) := by decide +kernel
theorem dX1_joinBoth_248 : decode cX1_joinBoth 248 = .ok (.aload_n 0, 1) := by decide +kernel
theorem dX1_joinBoth_249 : decode cX1_joinBoth 249 = .ok (.getfield 12, 3) := by decide +kernel
theorem dX1_joinBoth_252 : decode cX1_joinBoth 252 = .ok (.getfield 97, 3) := by decide +kernel
theorem dX1_joinBoth_255 : decode cX1_joinBoth 255 = .ok (.lload_n 3, 1) := by decide +kernel
theorem dX1_joinBoth_256 : decode cX1_joinBoth 256 = .ok (.lload 10, 2) := by decide +kernel
theorem dX1_joinBoth_258 : decode cX1_joinBoth 258 = .ok (.lmul, 1) := by decide +kernel
theorem dX1_joinBoth_259 : decode cX1_joinBoth 259 = .ok (.ladd, 1) := by decide +kernel
theorem dX1_joinBoth_260 : decode cX1_joinBoth 260 = .ok (.aload_n 0, 1) := by decide +kernel
theorem dX1_joinBoth_261 : decode cX1_joinBoth 261 = .ok (.getfield 12, 3) := by decide +kernel
theorem dX1_joinBoth_264 : decode cX1_joinBoth 264 = .ok (.getfield 100, 3) := by decide +kernel
theorem dX1_joinBoth_267 : decode cX1_joinBoth 267 = .ok (.lload_n 3, 1) := by decide +kernel
theorem dX1_joinBoth_268 : decode cX1_joinBoth 268 = .ok (.lload 12, 2) := by decide +kernel
theorem dX1_joinBoth_270 : decode cX1_joinBoth 270 = .ok (.lmul, 1) := by decide +kernel
theorem dX1_joinBoth_271 : decode cX1_joinBoth 271 = .ok (.ladd, 1) := by decide +kernel
theorem dX1_joinBoth_272 : decode cX1_joinBoth 272 = .ok (.invokevirtual 93, 3) := by decide +kernel
theorem dX1_joinBoth_275 : decode cX1_joinBoth 275 = .ok (.aload_n 0, 1) := by decide +kernel
theorem dX1_joinBoth_276 : decode cX1_joinBoth 276 = .ok (.getfield 25, 3) := by decide +kernel
theorem dX1_joinBoth_279 : decode cX1_joinBoth 279 = .ok (.aload_n 0, 1) := by decide +kernel
theorem dX1_joinBoth_280 : decode cX1_joinBoth 280 = .ok (.getfield 12, 3) := by decide +kernel
theorem dX1_joinBoth_283 : decode cX1_joinBoth 283 = .ok (.getfield 97, 3) := by decide +kernel
theorem dX1_joinBoth_286 : decode cX1_joinBoth 286 = .ok (.lload_n 3, 1) := by decide +kernel
theorem dX1_joinBoth_287 : decode cX1_joinBoth 287 = .ok (.aload_n 0, 1) := by decide +kernel
theorem dX1_joinBoth_288 : decode cX1_joinBoth 288 = .ok (.getfield 18, 3) := by decide +kernel
theorem dX1_joinBoth_291 : decode cX1_joinBoth 291 = .ok (.getfield 84, 3) := by decide +kernel
theorem dX1_joinBoth_294 : decode cX1_joinBoth 294 = .ok (.lmul, 1) := by decide +kernel
theorem dX1_joinBoth_295 : decode cX1_joinBoth 295 = .ok (.ladd, 1) := by decide +kernel
theorem dX1_joinBoth_296 : decode cX1_joinBoth 296 = .ok (.aload_n 0, 1) := by decide +kernel
theorem dX1_joinBoth_297 : decode cX1_joinBoth 297 = .ok (.getfield 12, 3) := by decide +kernel
theorem dX1_joinBoth_300 : decode cX1_joinBoth 300 = .ok (.getfield 100, 3) := by decide +kernel
theorem dX1_joinBoth_303 : decode cX1_joinBoth 303 = .ok (.lload_n 3, 1) := by decide +kernel
theorem dX1_joinBoth_304 : decode cX1_joinBoth 304 = .ok (.aload_n 0, 1) := by decide +kernel
theorem dX1_joinBoth_305 : decode cX1_joinBoth 305 = .ok (.getfield 18, 3) := by decide +kernel
theorem dX1_joinBoth_308 : decode cX1_joinBoth 308 = .ok (.getfield 90, 3) := by decide +kernel
theorem dX1_joinBoth_311 : decode cX1_joinBoth 311 = .ok (.lmul, 1) := by decide +kernel
theorem dX1_joinBoth_312 : decode cX1_joinBoth 312 = .ok (.ladd, 1) := by decide +kernel
theorem dX1_joinBoth_313 : decode cX1_joinBoth 313 = .ok (.invokevirtual 93, 3) := by decide +kernel
theorem dX1_joinBoth_316 : decode cX1_joinBoth 316 = .ok (.return_, 1) := by decide +kernel
theorem dX1_make_0 : decode cX1_make 0 = .ok (.aload_n 1, 1) := by decide +kernel
theorem dX1_make_1 : decode cX1_make 1 = .ok (.invokevirtual 29, 3) := by decide +kernel
theorem dX1_make_4 : decode cX1_make 4 = .ok (.istore_n 2, 1) := by decide +kernel
theorem dX1_make_5 : decode cX1_make 5 = .ok (.iload_n 2, 1) := by decide +kernel
theorem dX1_make_6 : decode cX1_make 6 = .ok (.ifCond .ne 4, 3) := by decide +kernel
theorem dX1_make_9 : decode cX1_make 9 = .ok (.return_, 1) := by decide +kernel
theorem dX1_make_10 : decode cX1_make 10 = .ok (.aload_n 0, 1) := by decide +kernel
theorem dX1_make_11 : decode cX1_make 11 = .ok (.getfield 21, 3) := by decide +kernel
theorem dX1_make_14 : decode cX1_make 14 = .ok (.invokevirtual 35, 3) := by decide +kernel
theorem dX1_make_17 : decode cX1_make 17 = .ok (.ifCond .eq 14, 3) := by decide +kernel
theorem dX1_make_20 : decode cX1_make 20 = .ok (.aload_n 1, 1) := by decide +kernel
theorem dX1_make_21 : decode cX1_make 21 = .ok (.invokevirtual 41, 3) := by decide +kernel
theorem dX1_make_24 : decode cX1_make 24 = .ok (.ifCond .ne 7, 3) := by decide +kernel
theorem dX1_make_27 : decode cX1_make 27 = .ok (.iconst 1, 1) := by decide +kernel
theorem dX1_make_28 : decode cX1_make 28 = .ok (.goto 4, 3) := by decide +kernel
theorem dX1_make_31 : decode cX1_make 31 = .ok (.iconst 0, 1) := by decide +kernel
theorem dX1_make_32 : decode cX1_make 32 = .ok (.istore_n 3, 1) := by decide +kernel
theorem dX1_make_33 : decode cX1_make 33 = .ok (.aload_n 0, 1) := by decide +kernel
theorem dX1_make_34 : decode cX1_make 34 = .ok (.getfield 12, 3) := by decide +kernel
theorem dX1_make_37 : decode cX1_make 37 = .ok (.aload_n 1, 1) := by decide +kernel
theorem dX1_make_38 : decode cX1_make 38 = .ok (.iconst 0, 1) := by decide +kernel
theorem dX1_make_39 : decode cX1_make 39 = .ok (.invokevirtual 44, 3) := by decide +kernel
theorem dX1_make_42 : decode cX1_make 42 = .ok (.aload_n 0, 1) := by decide +kernel
theorem dX1_make_43 : decode cX1_make 43 = .ok (.getfield 12, 3) := by decide +kernel
theorem dX1_make_46 : decode cX1_make 46 = .ok (.aload_n 0, 1) := by decide +kernel
theorem dX1_make_47 : decode cX1_make 47 = .ok (.getfield 21, 3) := by decide +kernel
theorem dX1_make_50 : decode cX1_make 50 = .ok (.invokevirtual 48, 3) := by decide +kernel
theorem dX1_make_53 : decode cX1_make 53 = .ok (.invokevirtual 52, 3) := by decide +kernel
theorem dX1_make_56 : decode cX1_make 56 = .ok (.iload_n 3, 1) := by decide +kernel
theorem dX1_make_57 : decode cX1_make 57 = .ok (.ifCond .eq 7, 3) := by decide +kernel
theorem dX1_make_60 : decode cX1_make 60 = .ok (.aload_n 0, 1) := by decide +kernel
theorem dX1_make_61 : decode cX1_make 61 = .ok (.invokevirtual 56, 3) := by decide +kernel
theorem dX1_make_64 : decode cX1_make 64 = .ok (.iconst 0, 1) := by decide +kernel
theorem dX1_make_65 : decode cX1_make 65 = .ok (.istore 4, 2) := by decide +kernel
theorem dX1_make_67 : decode cX1_make 67 = .ok (.iload 4, 2) := by decide +kernel
theorem dX1_make_69 : decode cX1_make 69 = .ok (.iload_n 2, 1) := by decide +kernel
theorem dX1_make_70 : decode cX1_make 70 = .ok (.if_icmp .ge 84, 3) := by decide +kernel
theorem dX1_make_73 : decode cX1_make 73 = .ok (.aload_n 0, 1) := by decide +kernel
theorem dX1_make_74 : decode cX1_make 74 = .ok (.getfield 25, 3) := by decide +kernel
theorem dX1_make_77 : decode cX1_make 77 = .ok (.invokevirtual 59, 3) := by decide +kernel
theorem dX1_make_80 : decode cX1_make 80 = .ok (.ifCond .eq 74, 3) := by decide +kernel
theorem dX1_make_83 : decode cX1_make 83 = .ok (.aload_n 0, 1) := by decide +kernel
theorem dX1_make_84 : decode cX1_make 84 = .ok (.invokevirtual 64, 3) := by decide +kernel
theorem dX1_make_87 : decode cX1_make 87 = .ok (.iload 4, 2) := by decide +kernel
theorem dX1_make_89 : decode cX1_make 89 = .ok (.iconst 1, 1) := by decide +kernel
theorem dX1_make_90 : decode cX1_make 90 = .ok (.iadd, 1) := by decide +kernel
theorem dX1_make_91 : decode cX1_make 91 = .ok (.iload_n 2, 1) := by decide +kernel
theorem dX1_make_92 : decode cX1_make 92 = .ok (.if_icmp .lt 10, 3) := by decide +kernel
theorem dX1_make_95 : decode cX1_make 95 = .ok (.aload_n 1, 1) := by decide +kernel
theorem dX1_make_96 : decode cX1_make 96 = .ok (.invokevirtual 41, 3) := by decide +kernel
theorem dX1_make_99 : decode cX1_make 99 = .ok (.ifCond .eq 49, 3) := by decide +kernel
theorem dX1_make_102 : decode cX1_make 102 = .ok (.aload_n 0, 1) := by decide +kernel
theorem dX1_make_103 : decode cX1_make 103 = .ok (.getfield 18, 3) := by decide +kernel
theorem dX1_make_106 : decode cX1_make 106 = .ok (.aload_n 1, 1) := by decide +kernel
theorem dX1_make_107 : decode cX1_make 107 = .ok (.iload 4, 2) := by decide +kernel
theorem dX1_make_109 : decode cX1_make 109 = .ok (.iconst 1, 1) := by decide +kernel
theorem dX1_make_110 : decode cX1_make 110 = .ok (.iadd, 1) := by decide +kernel
theorem dX1_make_111 : decode cX1_make 111 = .ok (.iload_n 2, 1) := by decide +kernel
theorem dX1_make_112 : decode cX1_make 112 = .ok (.if_icmp .ge 10, 3) := by decide +kernel
theorem dX1_make_115 : decode cX1_make 115 = .ok (.iload 4, 2) := by decide +kernel
theorem dX1_make_117 : decode cX1_make 117 = .ok (.iconst 1, 1) := by decide +kernel
theorem dX1_make_118 : decode cX1_make 118 = .ok (.iadd, 1) := by decide +kernel
theorem dX1_make_119 : decode cX1_make 119 = .ok (.goto 4, 3) := by decide +kernel
theorem dX1_make_122 : decode cX1_make 122 = .ok (.iconst 0, 1) := by decide +kernel
theorem dX1_make_123 : decode cX1_make 123 = .ok (.invokevirtual 44, 3) := by decide +kernel
theorem dX1_make_126 : decode cX1_make 126 = .ok (.aload_n 0, 1) := by decide +kernel
theorem dX1_make_127 : decode cX1_make 127 = .ok (.getfield 18, 3) := by decide +kernel
theorem dX1_make_130 : decode cX1_make 130 = .ok (.aload_n 0, 1) := by decide +kernel
theorem dX1_make_131 : decode cX1_make 131 = .ok (.getfield 21, 3) := by decide +kernel
theorem dX1_make_134 : decode cX1_make 134 = .ok (.invokevirtual 48, 3) := by decide +kernel
theorem dX1_make_137 : decode cX1_make 137 = .ok (.invokevirtual 52, 3) := by decide +kernel
theorem dX1_make_140 : decode cX1_make 140 = .ok (.aload_n 0, 1) := by decide +kernel
theorem dX1_make_141 : decode cX1_make 141 = .ok (.invokevirtual 67, 3) := by decide +kernel
theorem dX1_make_144 : decode cX1_make 144 = .ok (.aload_n 0, 1) := by decide +kernel
theorem dX1_make_145 : decode cX1_make 145 = .ok (.invokevirtual 70, 3) := by decide +kernel
theorem dX1_make_148 : decode cX1_make 148 = .ok (.iinc 4 1, 3) := by decide +kernel
theorem dX1_make_151 : decode cX1_make 151 = .ok (.goto (-84), 3) := by decide +kernel
theorem dX1_make_154 : decode cX1_make 154 = .ok (.iload_n 3, 1) := by decide +kernel
theorem dX1_make_155 : decode cX1_make 155 = .ok (.ifCond .eq 7, 3) := by decide +kernel
theorem dX1_make_158 : decode cX1_make 158 = .ok (.aload_n 0, 1) := by decide +kernel
theorem dX1_make_159 : decode cX1_make 159 = .ok (.invokevirtual 73, 3) := by decide +kernel
theorem dX1_make_162 : decode cX1_make 162 = .ok (.return_, 1) := by decide +kernel
theorem dX1_side_0 : decode cX1_side 0 = .ok (.aload_n 0, 1) := by decide +kernel
theorem dX1_side_1 : decode cX1_side 1 = .ok (.getfield 25, 3) := by decide +kernel
theorem dX1_side_4 : decode cX1_side 4 = .ok (.iconst 0, 1) := by decide +kernel
theorem dX1_side_5 : decode cX1_side 5 = .ok (.invokevirtual 76, 3) := by decide +kernel
theorem dX1_side_8 : decode cX1_side 8 = .ok (.aload_n 0, 1) := by decide +kernel
theorem dX1_side_9 : decode cX1_side 9 = .ok (.getfield 25, 3) := by decide +kernel
theorem dX1_side_12 : decode cX1_side 12 = .ok (.aload_n 0, 1) := by decide +kernel
theorem dX1_side_13 : decode cX1_side 13 = .ok (.getfield 12, 3) := by decide +kernel
theorem dX1_side_16 : decode cX1_side 16 = .ok (.getfield 80, 3) := by decide +kernel
theorem dX1_side_19 : decode cX1_side 19 = .ok (.aload_n 0, 1) := by decide +kernel
theorem dX1_side_20 : decode cX1_side 20 = .ok (.getfield 12, 3) := by decide +kernel
theorem dX1_side_23 : decode cX1_side 23 = .ok (.getfield 84, 3) := by decide +kernel
theorem dX1_side_26 : decode cX1_side 26 = .ok (.ladd, 1) := by decide +kernel
theorem dX1_side_27 : decode cX1_side 27 = .ok (.aload_n 0, 1) := by decide +kernel
theorem dX1_side_28 : decode cX1_side 28 = .ok (.getfield 12, 3) := by decide +kernel
theorem dX1_side_31 : decode cX1_side 31 = .ok (.getfield 87, 3) := by decide +kernel
theorem dX1_side_34 : decode cX1_side 34 = .ok (.aload_n 0, 1) := by decide +kernel
theorem dX1_side_35 : decode cX1_side 35 = .ok (.getfield 12, 3) := by decide +kernel
theorem dX1_side_38 : decode cX1_side 38 = .ok (.getfield 90, 3) := by decide +kernel
theorem dX1_side_41 : decode cX1_side 41 = .ok (.ladd, 1) := by decide +kernel
theorem dX1_side_42 : decode cX1_side 42 = .ok (.invokevirtual 93, 3) := by decide +kernel
theorem dX1_side_45 : decode cX1_side 45 = .ok (.aload_n 0, 1) := by decide +kernel
theorem dX1_side_46 : decode cX1_side 46 = .ok (.getfield 25, 3) := by decide +kernel
theorem dX1_side_49 : decode cX1_side 49 = .ok (.aload_n 0, 1) := by decide +kernel
theorem dX1_side_50 : decode cX1_side 50 = .ok (.getfield 12, 3) := by decide +kernel
theorem dX1_side_53 : decode cX1_side 53 = .ok (.getfield 97, 3) := by decide +kernel
theorem dX1_side_56 : decode cX1_side 56 = .ok (.aload_n 0, 1) := by decide +kernel
theorem dX1_side_57 : decode cX1_side 57 = .ok (.getfield 12, 3) := by decide +kernel
theorem dX1_side_60 : decode cX1_side 60 = .ok (.getfield 84, 3) := by decide +kernel
theorem dX1_side_63 : decode cX1_side 63 = .ok (.ladd, 1) := by decide +kernel
theorem dX1_side_64 : decode cX1_side 64 = .ok (.aload_n 0, 1) := by decide +kernel
theorem dX1_side_65 : decode cX1_side 65 = .ok (.getfield 12, 3) := by decide +kernel
