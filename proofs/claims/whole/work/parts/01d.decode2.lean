theorem dX1_side_68 : decode cX1_side 68 = .ok (.getfield 100, 3) := by decide +kernel
theorem dX1_side_71 : decode cX1_side 71 = .ok (.aload_n 0, 1) := by decide +kernel
theorem dX1_side_72 : decode cX1_side 72 = .ok (.getfield 12, 3) := by decide +kernel
theorem dX1_side_75 : decode cX1_side 75 = .ok (.getfield 90, 3) := by decide +kernel
theorem dX1_side_78 : decode cX1_side 78 = .ok (.ladd, 1) := by decide +kernel
theorem dX1_side_79 : decode cX1_side 79 = .ok (.invokevirtual 93, 3) := by decide +kernel
theorem dX1_side_82 : decode cX1_side 82 = .ok (.aload_n 0, 1) := by decide +kernel
theorem dX1_side_83 : decode cX1_side 83 = .ok (.getfield 25, 3) := by decide +kernel
theorem dX1_side_86 : decode cX1_side 86 = .ok (.aload_n 0, 1) := by decide +kernel
theorem dX1_side_87 : decode cX1_side 87 = .ok (.getfield 12, 3) := by decide +kernel
theorem dX1_side_90 : decode cX1_side 90 = .ok (.getfield 97, 3) := by decide +kernel
theorem dX1_side_93 : decode cX1_side 93 = .ok (.aload_n 0, 1) := by decide +kernel
theorem dX1_side_94 : decode cX1_side 94 = .ok (.getfield 12, 3) := by decide +kernel
theorem dX1_side_97 : decode cX1_side 97 = .ok (.getfield 84, 3) := by decide +kernel
theorem dX1_side_100 : decode cX1_side 100 = .ok (.lsub, 1) := by decide +kernel
theorem dX1_side_101 : decode cX1_side 101 = .ok (.aload_n 0, 1) := by decide +kernel
theorem dX1_side_102 : decode cX1_side 102 = .ok (.getfield 12, 3) := by decide +kernel
theorem dX1_side_105 : decode cX1_side 105 = .ok (.getfield 100, 3) := by decide +kernel
theorem dX1_side_108 : decode cX1_side 108 = .ok (.aload_n 0, 1) := by decide +kernel
theorem dX1_side_109 : decode cX1_side 109 = .ok (.getfield 12, 3) := by decide +kernel
theorem dX1_side_112 : decode cX1_side 112 = .ok (.getfield 90, 3) := by decide +kernel
theorem dX1_side_115 : decode cX1_side 115 = .ok (.lsub, 1) := by decide +kernel
theorem dX1_side_116 : decode cX1_side 116 = .ok (.invokevirtual 93, 3) := by decide +kernel
theorem dX1_side_119 : decode cX1_side 119 = .ok (.aload_n 0, 1) := by decide +kernel
theorem dX1_side_120 : decode cX1_side 120 = .ok (.getfield 25, 3) := by decide +kernel
theorem dX1_side_123 : decode cX1_side 123 = .ok (.aload_n 0, 1) := by decide +kernel
theorem dX1_side_124 : decode cX1_side 124 = .ok (.getfield 12, 3) := by decide +kernel
theorem dX1_side_127 : decode cX1_side 127 = .ok (.getfield 80, 3) := by decide +kernel
theorem dX1_side_130 : decode cX1_side 130 = .ok (.aload_n 0, 1) := by decide +kernel
theorem dX1_side_131 : decode cX1_side 131 = .ok (.getfield 12, 3) := by decide +kernel
theorem dX1_side_134 : decode cX1_side 134 = .ok (.getfield 84, 3) := by decide +kernel
theorem dX1_side_137 : decode cX1_side 137 = .ok (.lsub, 1) := by decide +kernel
theorem dX1_side_138 : decode cX1_side 138 = .ok (.aload_n 0, 1) := by decide +kernel
theorem dX1_side_139 : decode cX1_side 139 = .ok (.getfield 12, 3) := by decide +kernel
theorem dX1_side_142 : decode cX1_side 142 = .ok (.getfield 87, 3) := by decide +kernel
theorem dX1_side_145 : decode cX1_side 145 = .ok (.aload_n 0, 1) := by decide +kernel
theorem dX1_side_146 : decode cX1_side 146 = .ok (.getfield 12, 3) := by decide +kernel
theorem dX1_side_149 : decode cX1_side 149 = .ok (.getfield 90, 3) := by decide +kernel
theorem dX1_side_152 : decode cX1_side 152 = .ok (.lsub, 1) := by decide +kernel
theorem dX1_side_153 : decode cX1_side 153 = .ok (.invokevirtual 93, 3) := by decide +kernel
theorem dX1_side_156 : decode cX1_side 156 = .ok (.return_, 1) := by decide +kernel
theorem dX2_behind_0 : decode cX2_behind 0 = .ok (.iload_n 1, 1) := by decide +kernel
theorem dX2_behind_1 : decode cX2_behind 1 = .ok (.iconst 1, 1) := by decide +kernel
theorem dX2_behind_2 : decode cX2_behind 2 = .ok (.iadd, 1) := by decide +kernel
theorem dX2_behind_3 : decode cX2_behind 3 = .ok (.aload_n 0, 1) := by decide +kernel
theorem dX2_behind_4 : decode cX2_behind 4 = .ok (.getfield 22, 3) := by decide +kernel
theorem dX2_behind_7 : decode cX2_behind 7 = .ok (.if_icmp .ge 9, 3) := by decide +kernel
theorem dX2_behind_10 : decode cX2_behind 10 = .ok (.iload_n 1, 1) := by decide +kernel
theorem dX2_behind_11 : decode cX2_behind 11 = .ok (.iconst 1, 1) := by decide +kernel
theorem dX2_behind_12 : decode cX2_behind 12 = .ok (.iadd, 1) := by decide +kernel
theorem dX2_behind_13 : decode cX2_behind 13 = .ok (.goto 4, 3) := by decide +kernel
theorem dX2_behind_16 : decode cX2_behind 16 = .ok (.iconst 0, 1) := by decide +kernel
theorem dX2_behind_17 : decode cX2_behind 17 = .ok (.ireturn, 1) := by decide +kernel
theorem dX2_firstAt_0 : decode cX2_firstAt 0 = .ok (.aload_n 0, 1) := by decide +kernel
theorem dX2_firstAt_1 : decode cX2_firstAt 1 = .ok (.getfield 30, 3) := by decide +kernel
theorem dX2_firstAt_4 : decode cX2_firstAt 4 = .ok (.ireturn, 1) := by decide +kernel
theorem dX2_firstGap_0 : decode cX2_firstGap 0 = .ok (.aload_n 0, 1) := by decide +kernel
theorem dX2_firstGap_1 : decode cX2_firstGap 1 = .ok (.getfield 37, 3) := by decide +kernel
theorem dX2_firstGap_4 : decode cX2_firstGap 4 = .ok (.ireturn, 1) := by decide +kernel
theorem dX2_firstLeft_0 : decode cX2_firstLeft 0 = .ok (.aload_n 0, 1) := by decide +kernel
theorem dX2_firstLeft_1 : decode cX2_firstLeft 1 = .ok (.getfield 33, 3) := by decide +kernel
theorem dX2_firstLeft_4 : decode cX2_firstLeft 4 = .ok (.lreturn, 1) := by decide +kernel
theorem dX2_give_0 : decode cX2_give 0 = .ok (.iload_n 1, 1) := by decide +kernel
theorem dX2_give_1 : decode cX2_give 1 = .ok (.ifCond .lt 16, 3) := by decide +kernel
theorem dX2_give_4 : decode cX2_give 4 = .ok (.iload_n 1, 1) := by decide +kernel
theorem dX2_give_5 : decode cX2_give 5 = .ok (.bipush 8, 2) := by decide +kernel
theorem dX2_give_7 : decode cX2_give 7 = .ok (.if_icmp .ge 10, 3) := by decide +kernel
theorem dX2_give_10 : decode cX2_give 10 = .ok (.iload_n 2, 1) := by decide +kernel
theorem dX2_give_11 : decode cX2_give 11 = .ok (.invokestatic 18, 3) := by decide +kernel
theorem dX2_give_14 : decode cX2_give 14 = .ok (.ifCond .ne 5, 3) := by decide +kernel
theorem dX2_give_17 : decode cX2_give 17 = .ok (.iconst 0, 1) := by decide +kernel
theorem dX2_give_18 : decode cX2_give 18 = .ok (.ireturn, 1) := by decide +kernel
theorem dX2_give_19 : decode cX2_give 19 = .ok (.aload_n 0, 1) := by decide +kernel
theorem dX2_give_20 : decode cX2_give 20 = .ok (.getfield 9, 3) := by decide +kernel
theorem dX2_give_23 : decode cX2_give 23 = .ok (.iload_n 1, 1) := by decide +kernel
theorem dX2_give_24 : decode cX2_give 24 = .ok (.iload_n 2, 1) := by decide +kernel
theorem dX2_give_25 : decode cX2_give 25 = .ok (.iastore, 1) := by decide +kernel
theorem dX2_give_26 : decode cX2_give 26 = .ok (.iconst 1, 1) := by decide +kernel
theorem dX2_give_27 : decode cX2_give 27 = .ok (.ireturn, 1) := by decide +kernel
theorem dX2_init_0 : decode cX2_init 0 = .ok (.aload_n 0, 1) := by decide +kernel
theorem dX2_init_1 : decode cX2_init 1 = .ok (.invokespecial 3, 3) := by decide +kernel
theorem dX2_init_4 : decode cX2_init 4 = .ok (.aload_n 0, 1) := by decide +kernel
theorem dX2_init_5 : decode cX2_init 5 = .ok (.bipush 8, 2) := by decide +kernel
theorem dX2_init_7 : decode cX2_init 7 = .ok (.newarray .int, 2) := by decide +kernel
theorem dX2_init_9 : decode cX2_init 9 = .ok (.putfield 9, 3) := by decide +kernel
theorem dX2_init_12 : decode cX2_init 12 = .ok (.aload_n 0, 1) := by decide +kernel
theorem dX2_init_13 : decode cX2_init 13 = .ok (.bipush 8, 2) := by decide +kernel
theorem dX2_init_15 : decode cX2_init 15 = .ok (.newarray .int, 2) := by decide +kernel
theorem dX2_init_17 : decode cX2_init 17 = .ok (.putfield 15, 3) := by decide +kernel
theorem dX2_init_20 : decode cX2_init 20 = .ok (.return_, 1) := by decide +kernel
theorem dX2_isUsed_0 : decode cX2_isUsed 0 = .ok (.aload_n 0, 1) := by decide +kernel
theorem dX2_isUsed_1 : decode cX2_isUsed 1 = .ok (.getfield 22, 3) := by decide +kernel
theorem dX2_isUsed_4 : decode cX2_isUsed 4 = .ok (.ifCond .le 7, 3) := by decide +kernel
theorem dX2_isUsed_7 : decode cX2_isUsed 7 = .ok (.iconst 1, 1) := by decide +kernel
theorem dX2_isUsed_8 : decode cX2_isUsed 8 = .ok (.goto 4, 3) := by decide +kernel
theorem dX2_isUsed_11 : decode cX2_isUsed 11 = .ok (.iconst 0, 1) := by decide +kernel
theorem dX2_isUsed_12 : decode cX2_isUsed 12 = .ok (.ireturn, 1) := by decide +kernel
theorem dX2_lengthOf_0 : decode cX2_lengthOf 0 = .ok (.iload_n 1, 1) := by decide +kernel
theorem dX2_lengthOf_1 : decode cX2_lengthOf 1 = .ok (.ifCond .lt 19, 3) := by decide +kernel
theorem dX2_lengthOf_4 : decode cX2_lengthOf 4 = .ok (.iload_n 1, 1) := by decide +kernel
theorem dX2_lengthOf_5 : decode cX2_lengthOf 5 = .ok (.bipush 8, 2) := by decide +kernel
theorem dX2_lengthOf_7 : decode cX2_lengthOf 7 = .ok (.if_icmp .ge 13, 3) := by decide +kernel
theorem dX2_lengthOf_10 : decode cX2_lengthOf 10 = .ok (.aload_n 0, 1) := by decide +kernel
theorem dX2_lengthOf_11 : decode cX2_lengthOf 11 = .ok (.getfield 15, 3) := by decide +kernel
theorem dX2_lengthOf_14 : decode cX2_lengthOf 14 = .ok (.iload_n 1, 1) := by decide +kernel
theorem dX2_lengthOf_15 : decode cX2_lengthOf 15 = .ok (.iaload, 1) := by decide +kernel
theorem dX2_lengthOf_16 : decode cX2_lengthOf 16 = .ok (.i2l, 1) := by decide +kernel
theorem dX2_lengthOf_17 : decode cX2_lengthOf 17 = .ok (.goto 4, 3) := by decide +kernel
theorem dX2_lengthOf_20 : decode cX2_lengthOf 20 = .ok (.lconst 0, 1) := by decide +kernel
theorem dX2_lengthOf_21 : decode cX2_lengthOf 21 = .ok (.lreturn, 1) := by decide +kernel
theorem dX2_passOffset_0 : decode cX2_passOffset 0 = .ok (.lload_n 2, 1) := by decide +kernel
theorem dX2_passOffset_1 : decode cX2_passOffset 1 = .ok (.lconst 0, 1) := by decide +kernel
theorem dX2_passOffset_2 : decode cX2_passOffset 2 = .ok (.lcmp, 1) := by decide +kernel
theorem dX2_passOffset_3 : decode cX2_passOffset 3 = .ok (.ifCond .gt 4, 3) := by decide +kernel
theorem dX2_passOffset_6 : decode cX2_passOffset 6 = .ok (.return_, 1) := by decide +kernel
theorem dX2_passOffset_7 : decode cX2_passOffset 7 = .ok (.iload_n 1, 1) := by decide +kernel
theorem dX2_passOffset_8 : decode cX2_passOffset 8 = .ok (.i2l, 1) := by decide +kernel
theorem dX2_passOffset_9 : decode cX2_passOffset 9 = .ok (.lload_n 2, 1) := by decide +kernel
theorem dX2_passOffset_10 : decode cX2_passOffset 10 = .ok (.ldiv, 1) := by decide +kernel
theorem dX2_passOffset_11 : decode cX2_passOffset 11 = .ok (.lstore 4, 2) := by decide +kernel
theorem dX2_passOffset_13 : decode cX2_passOffset 13 = .ok (.iload_n 1, 1) := by decide +kernel
theorem dX2_passOffset_14 : decode cX2_passOffset 14 = .ok (.i2l, 1) := by decide +kernel
theorem dX2_passOffset_15 : decode cX2_passOffset 15 = .ok (.lload 4, 2) := by decide +kernel
theorem dX2_passOffset_17 : decode cX2_passOffset 17 = .ok (.lload_n 2, 1) := by decide +kernel
theorem dX2_passOffset_18 : decode cX2_passOffset 18 = .ok (.lmul, 1) := by decide +kernel
theorem dX2_passOffset_19 : decode cX2_passOffset 19 = .ok (.lsub, 1) := by decide +kernel
theorem dX2_passOffset_20 : decode cX2_passOffset 20 = .ok (.lstore 6, 2) := by decide +kernel
theorem dX2_passOffset_22 : decode cX2_passOffset 22 = .ok (.iconst 0, 1) := by decide +kernel
theorem dX2_passOffset_23 : decode cX2_passOffset 23 = .ok (.istore 8, 2) := by decide +kernel
theorem dX2_passOffset_25 : decode cX2_passOffset 25 = .ok (.iload 8, 2) := by decide +kernel
theorem dX2_passOffset_27 : decode cX2_passOffset 27 = .ok (.aload_n 0, 1) := by decide +kernel
theorem dX2_passOffset_28 : decode cX2_passOffset 28 = .ok (.getfield 22, 3) := by decide +kernel
theorem dX2_passOffset_31 : decode cX2_passOffset 31 = .ok (.iconst 1, 1) := by decide +kernel
theorem dX2_passOffset_32 : decode cX2_passOffset 32 = .ok (.isub, 1) := by decide +kernel
theorem dX2_passOffset_33 : decode cX2_passOffset 33 = .ok (.if_icmp .ge 43, 3) := by decide +kernel
theorem dX2_passOffset_36 : decode cX2_passOffset 36 = .ok (.iload 8, 2) := by decide +kernel
theorem dX2_passOffset_38 : decode cX2_passOffset 38 = .ok (.bipush 7, 2) := by decide +kernel
theorem dX2_passOffset_40 : decode cX2_passOffset 40 = .ok (.if_icmp .ge 36, 3) := by decide +kernel
theorem dX2_passOffset_43 : decode cX2_passOffset 43 = .ok (.aload_n 0, 1) := by decide +kernel
theorem dX2_passOffset_44 : decode cX2_passOffset 44 = .ok (.getfield 15, 3) := by decide +kernel
theorem dX2_passOffset_47 : decode cX2_passOffset 47 = .ok (.iload 8, 2) := by decide +kernel
theorem dX2_passOffset_49 : decode cX2_passOffset 49 = .ok (.iaload, 1) := by decide +kernel
theorem dX2_passOffset_50 : decode cX2_passOffset 50 = .ok (.i2l, 1) := by decide +kernel
theorem dX2_passOffset_51 : decode cX2_passOffset 51 = .ok (.lload 6, 2) := by decide +kernel
theorem dX2_passOffset_53 : decode cX2_passOffset 53 = .ok (.lcmp, 1) := by decide +kernel
theorem dX2_passOffset_54 : decode cX2_passOffset 54 = .ok (.ifCond .gt 22, 3) := by decide +kernel
theorem dX2_passOffset_57 : decode cX2_passOffset 57 = .ok (.lload 6, 2) := by decide +kernel
theorem dX2_passOffset_59 : decode cX2_passOffset 59 = .ok (.aload_n 0, 1) := by decide +kernel
theorem dX2_passOffset_60 : decode cX2_passOffset 60 = .ok (.getfield 15, 3) := by decide +kernel
theorem dX2_passOffset_63 : decode cX2_passOffset 63 = .ok (.iload 8, 2) := by decide +kernel
theorem dX2_passOffset_65 : decode cX2_passOffset 65 = .ok (.iaload, 1) := by decide +kernel
theorem dX2_passOffset_66 : decode cX2_passOffset 66 = .ok (.i2l, 1) := by decide +kernel
theorem dX2_passOffset_67 : decode cX2_passOffset 67 = .ok (.lsub, 1) := by decide +kernel
theorem dX2_passOffset_68 : decode cX2_passOffset 68 = .ok (.lstore 6, 2) := by decide +kernel
theorem dX2_passOffset_70 : decode cX2_passOffset 70 = .ok (.iinc 8 1, 3) := by decide +kernel
theorem dX2_passOffset_73 : decode cX2_passOffset 73 = .ok (.goto (-48), 3) := by decide +kernel
theorem dX2_passOffset_76 : decode cX2_passOffset 76 = .ok (.aload_n 0, 1) := by decide +kernel
theorem dX2_passOffset_77 : decode cX2_passOffset 77 = .ok (.iload 8, 2) := by decide +kernel
theorem dX2_passOffset_79 : decode cX2_passOffset 79 = .ok (.putfield 30, 3) := by decide +kernel
theorem dX2_passOffset_82 : decode cX2_passOffset 82 = .ok (.aload_n 0, 1) := by decide +kernel
theorem dX2_passOffset_83 : decode cX2_passOffset 83 = .ok (.aload_n 0, 1) := by decide +kernel
theorem dX2_passOffset_84 : decode cX2_passOffset 84 = .ok (.getfield 15, 3) := by decide +kernel
theorem dX2_passOffset_87 : decode cX2_passOffset 87 = .ok (.iload 8, 2) := by decide +kernel
theorem dX2_passOffset_89 : decode cX2_passOffset 89 = .ok (.iaload, 1) := by decide +kernel
theorem dX2_passOffset_90 : decode cX2_passOffset 90 = .ok (.i2l, 1) := by decide +kernel
theorem dX2_passOffset_91 : decode cX2_passOffset 91 = .ok (.lload 6, 2) := by decide +kernel
theorem dX2_passOffset_93 : decode cX2_passOffset 93 = .ok (.lsub, 1) := by decide +kernel
theorem dX2_passOffset_94 : decode cX2_passOffset 94 = .ok (.putfield 33, 3) := by decide +kernel
theorem dX2_passOffset_97 : decode cX2_passOffset 97 = .ok (.aload_n 0, 1) := by decide +kernel
theorem dX2_passOffset_98 : decode cX2_passOffset 98 = .ok (.lload 4, 2) := by decide +kernel
theorem dX2_passOffset_100 : decode cX2_passOffset 100 = .ok (.aload_n 0, 1) := by decide +kernel
theorem dX2_passOffset_101 : decode cX2_passOffset 101 = .ok (.getfield 22, 3) := by decide +kernel
theorem dX2_passOffset_104 : decode cX2_passOffset 104 = .ok (.i2l, 1) := by decide +kernel
theorem dX2_passOffset_105 : decode cX2_passOffset 105 = .ok (.lmul, 1) := by decide +kernel
theorem dX2_passOffset_106 : decode cX2_passOffset 106 = .ok (.iload 8, 2) := by decide +kernel
theorem dX2_passOffset_108 : decode cX2_passOffset 108 = .ok (.i2l, 1) := by decide +kernel
theorem dX2_passOffset_109 : decode cX2_passOffset 109 = .ok (.ladd, 1) := by decide +kernel
theorem dX2_passOffset_110 : decode cX2_passOffset 110 = .ok (.lconst 1, 1) := by decide +kernel
theorem dX2_passOffset_111 : decode cX2_passOffset 111 = .ok (.land, 1) := by decide +kernel
theorem dX2_passOffset_112 : decode cX2_passOffset 112 = .ok (.lconst 1, 1) := by decide +kernel
theorem dX2_passOffset_113 : decode cX2_passOffset 113 = .ok (.lcmp, 1) := by decide +kernel
theorem dX2_passOffset_114 : decode cX2_passOffset 114 = .ok (.ifCond .ne 7, 3) := by decide +kernel
theorem dX2_passOffset_117 : decode cX2_passOffset 117 = .ok (.iconst 1, 1) := by decide +kernel
theorem dX2_passOffset_118 : decode cX2_passOffset 118 = .ok (.goto 4, 3) := by decide +kernel
theorem dX2_passOffset_121 : decode cX2_passOffset 121 = .ok (.iconst 0, 1) := by decide +kernel
theorem dX2_passOffset_122 : decode cX2_passOffset 122 = .ok (.putfield 37, 3) := by decide +kernel
theorem dX2_passOffset_125 : decode cX2_passOffset 125 = .ok (.return_, 1) := by decide +kernel
theorem dX2_use_0 : decode cX2_use 0 = .ok (.iload_n 1, 1) := by decide +kernel
theorem dX2_use_1 : decode cX2_use 1 = .ok (.ifCond .lt 16, 3) := by decide +kernel
theorem dX2_use_4 : decode cX2_use 4 = .ok (.iload_n 1, 1) := by decide +kernel
theorem dX2_use_5 : decode cX2_use 5 = .ok (.bipush 8, 2) := by decide +kernel
theorem dX2_use_7 : decode cX2_use 7 = .ok (.if_icmp .gt 10, 3) := by decide +kernel
theorem dX2_use_10 : decode cX2_use 10 = .ok (.iload_n 2, 1) := by decide +kernel
theorem dX2_use_11 : decode cX2_use 11 = .ok (.invokestatic 18, 3) := by decide +kernel
theorem dX2_use_14 : decode cX2_use 14 = .ok (.ifCond .ne 5, 3) := by decide +kernel
theorem dX2_use_17 : decode cX2_use 17 = .ok (.iconst 0, 1) := by decide +kernel
theorem dX2_use_18 : decode cX2_use 18 = .ok (.ireturn, 1) := by decide +kernel
theorem dX2_use_19 : decode cX2_use 19 = .ok (.lconst 0, 1) := by decide +kernel
theorem dX2_use_20 : decode cX2_use 20 = .ok (.lstore_n 3, 1) := by decide +kernel
theorem dX2_use_21 : decode cX2_use 21 = .ok (.iconst 0, 1) := by decide +kernel
theorem dX2_use_22 : decode cX2_use 22 = .ok (.istore 5, 2) := by decide +kernel
theorem dX2_use_24 : decode cX2_use 24 = .ok (.iload 5, 2) := by decide +kernel
theorem dX2_use_26 : decode cX2_use 26 = .ok (.iload_n 1, 1) := by decide +kernel
theorem dX2_use_27 : decode cX2_use 27 = .ok (.if_icmp .ge 20, 3) := by decide +kernel
theorem dX2_use_30 : decode cX2_use 30 = .ok (.lload_n 3, 1) := by decide +kernel
theorem dX2_use_31 : decode cX2_use 31 = .ok (.aload_n 0, 1) := by decide +kernel
theorem dX2_use_32 : decode cX2_use 32 = .ok (.getfield 9, 3) := by decide +kernel
theorem dX2_use_35 : decode cX2_use 35 = .ok (.iload 5, 2) := by decide +kernel
theorem dX2_use_37 : decode cX2_use 37 = .ok (.iaload, 1) := by decide +kernel
theorem dX2_use_38 : decode cX2_use 38 = .ok (.i2l, 1) := by decide +kernel
theorem dX2_use_39 : decode cX2_use 39 = .ok (.ladd, 1) := by decide +kernel
theorem dX2_use_40 : decode cX2_use 40 = .ok (.lstore_n 3, 1) := by decide +kernel
theorem dX2_use_41 : decode cX2_use 41 = .ok (.iinc 5 1, 3) := by decide +kernel
theorem dX2_use_44 : decode cX2_use 44 = .ok (.goto (-20), 3) := by decide +kernel
theorem dX2_use_47 : decode cX2_use 47 = .ok (.iload_n 1, 1) := by decide +kernel
theorem dX2_use_48 : decode cX2_use 48 = .ok (.ifCond .le 11, 3) := by decide +kernel
theorem dX2_use_51 : decode cX2_use 51 = .ok (.lload_n 3, 1) := by decide +kernel
theorem dX2_use_52 : decode cX2_use 52 = .ok (.lconst 0, 1) := by decide +kernel
theorem dX2_use_53 : decode cX2_use 53 = .ok (.lcmp, 1) := by decide +kernel
theorem dX2_use_54 : decode cX2_use 54 = .ok (.ifCond .ne 5, 3) := by decide +kernel
theorem dX2_use_57 : decode cX2_use 57 = .ok (.iconst 0, 1) := by decide +kernel
theorem dX2_use_58 : decode cX2_use 58 = .ok (.ireturn, 1) := by decide +kernel
theorem dX2_use_59 : decode cX2_use 59 = .ok (.aload_n 0, 1) := by decide +kernel
theorem dX2_use_60 : decode cX2_use 60 = .ok (.iload_n 1, 1) := by decide +kernel
theorem dX2_use_61 : decode cX2_use 61 = .ok (.putfield 22, 3) := by decide +kernel
theorem dX2_use_64 : decode cX2_use 64 = .ok (.iconst 0, 1) := by decide +kernel
theorem dX2_use_65 : decode cX2_use 65 = .ok (.istore 5, 2) := by decide +kernel
theorem dX2_use_67 : decode cX2_use 67 = .ok (.iload 5, 2) := by decide +kernel
theorem dX2_use_69 : decode cX2_use 69 = .ok (.iload_n 1, 1) := by decide +kernel
theorem dX2_use_70 : decode cX2_use 70 = .ok (.if_icmp .ge 23, 3) := by decide +kernel
theorem dX2_use_73 : decode cX2_use 73 = .ok (.aload_n 0, 1) := by decide +kernel
theorem dX2_use_74 : decode cX2_use 74 = .ok (.getfield 15, 3) := by decide +kernel
theorem dX2_use_77 : decode cX2_use 77 = .ok (.iload 5, 2) := by decide +kernel
theorem dX2_use_79 : decode cX2_use 79 = .ok (.aload_n 0, 1) := by decide +kernel
theorem dX2_use_80 : decode cX2_use 80 = .ok (.getfield 9, 3) := by decide +kernel
theorem dX2_use_83 : decode cX2_use 83 = .ok (.iload 5, 2) := by decide +kernel
theorem dX2_use_85 : decode cX2_use 85 = .ok (.iaload, 1) := by decide +kernel
theorem dX2_use_86 : decode cX2_use 86 = .ok (.iastore, 1) := by decide +kernel
theorem dX2_use_87 : decode cX2_use 87 = .ok (.iinc 5 1, 3) := by decide +kernel
theorem dX2_use_90 : decode cX2_use 90 = .ok (.goto (-23), 3) := by decide +kernel
theorem dX2_use_93 : decode cX2_use 93 = .ok (.aload_n 0, 1) := by decide +kernel
theorem dX2_use_94 : decode cX2_use 94 = .ok (.iload_n 2, 1) := by decide +kernel
theorem dX2_use_95 : decode cX2_use 95 = .ok (.lload_n 3, 1) := by decide +kernel
theorem dX2_use_96 : decode cX2_use 96 = .ok (.invokevirtual 26, 3) := by decide +kernel
theorem dX2_use_99 : decode cX2_use 99 = .ok (.iconst 1, 1) := by decide +kernel
theorem dX2_use_100 : decode cX2_use 100 = .ok (.ireturn, 1) := by decide +kernel
theorem dX3_add_0 : decode cX3_add 0 = .ok (.aload_n 0, 1) := by decide +kernel
theorem dX3_add_1 : decode cX3_add 1 = .ok (.getfield 18, 3) := by decide +kernel
theorem dX3_add_4 : decode cX3_add 4 = .ok (.ifCond .eq 4, 3) := by decide +kernel
theorem dX3_add_7 : decode cX3_add 7 = .ok (.return_, 1) := by decide +kernel
theorem dX3_add_8 : decode cX3_add 8 = .ok (.lload_n 1, 1) := by decide +kernel
theorem dX3_add_9 : decode cX3_add 9 = .ok (.invokestatic 32, 3) := by decide +kernel
theorem dX3_add_12 : decode cX3_add 12 = .ok (.ifCond .eq 10, 3) := by decide +kernel
theorem dX3_add_15 : decode cX3_add 15 = .ok (.lload_n 3, 1) := by decide +kernel
theorem dX3_add_16 : decode cX3_add 16 = .ok (.invokestatic 32, 3) := by decide +kernel
theorem dX3_add_19 : decode cX3_add 19 = .ok (.ifCond .ne 10, 3) := by decide +kernel
theorem dX3_add_22 : decode cX3_add 22 = .ok (.aload_n 0, 1) := by decide +kernel
theorem dX3_add_23 : decode cX3_add 23 = .ok (.bipush (-4), 2) := by decide +kernel
theorem dX3_add_25 : decode cX3_add 25 = .ok (.invokevirtual 28, 3) := by decide +kernel
theorem dX3_add_28 : decode cX3_add 28 = .ok (.return_, 1) := by decide +kernel
theorem dX3_add_29 : decode cX3_add 29 = .ok (.aload_n 0, 1) := by decide +kernel
theorem dX3_add_30 : decode cX3_add 30 = .ok (.getfield 22, 3) := by decide +kernel
theorem dX3_add_33 : decode cX3_add 33 = .ok (.iconst 1, 1) := by decide +kernel
theorem dX3_add_34 : decode cX3_add 34 = .ok (.isub, 1) := by decide +kernel
theorem dX3_add_35 : decode cX3_add 35 = .ok (.bipush 8, 2) := by decide +kernel
theorem dX3_add_37 : decode cX3_add 37 = .ok (.imul, 1) := by decide +kernel
theorem dX3_add_38 : decode cX3_add 38 = .ok (.iconst 2, 1) := by decide +kernel
theorem dX3_add_39 : decode cX3_add 39 = .ok (.aload_n 0, 1) := by decide +kernel
theorem dX3_add_40 : decode cX3_add 40 = .ok (.getfield 25, 3) := by decide +kernel
theorem dX3_add_43 : decode cX3_add 43 = .ok (.imul, 1) := by decide +kernel
theorem dX3_add_44 : decode cX3_add 44 = .ok (.iadd, 1) := by decide +kernel
theorem dX3_add_45 : decode cX3_add 45 = .ok (.istore 5, 2) := by decide +kernel
theorem dX3_add_47 : decode cX3_add 47 = .ok (.iload 5, 2) := by decide +kernel
theorem dX3_add_49 : decode cX3_add 49 = .ok (.ifCond .lt 23, 3) := by decide +kernel
theorem dX3_add_52 : decode cX3_add 52 = .ok (.iload 5, 2) := by decide +kernel
theorem dX3_add_54 : decode cX3_add 54 = .ok (.iconst 1, 1) := by decide +kernel
theorem dX3_add_55 : decode cX3_add 55 = .ok (.iadd, 1) := by decide +kernel
theorem dX3_add_56 : decode cX3_add 56 = .ok (.aload_n 0, 1) := by decide +kernel
theorem dX3_add_57 : decode cX3_add 57 = .ok (.getfield 15, 3) := by decide +kernel
theorem dX3_add_60 : decode cX3_add 60 = .ok (.arraylength, 1) := by decide +kernel
theorem dX3_add_61 : decode cX3_add 61 = .ok (.if_icmp .ge 11, 3) := by decide +kernel
theorem dX3_add_64 : decode cX3_add 64 = .ok (.aload_n 0, 1) := by decide +kernel
theorem dX3_add_65 : decode cX3_add 65 = .ok (.getfield 25, 3) := by decide +kernel
theorem dX3_add_68 : decode cX3_add 68 = .ok (.iconst 4, 1) := by decide +kernel
theorem dX3_add_69 : decode cX3_add 69 = .ok (.if_icmp .lt 4, 3) := by decide +kernel
theorem dX3_add_72 : decode cX3_add 72 = .ok (.return_, 1) := by decide +kernel
theorem dX3_add_73 : decode cX3_add 73 = .ok (.aload_n 0, 1) := by decide +kernel
theorem dX3_add_74 : decode cX3_add 74 = .ok (.getfield 15, 3) := by decide +kernel
theorem dX3_add_77 : decode cX3_add 77 = .ok (.iload 5, 2) := by decide +kernel
theorem dX3_add_79 : decode cX3_add 79 = .ok (.lload_n 1, 1) := by decide +kernel
theorem dX3_add_80 : decode cX3_add 80 = .ok (.l2i, 1) := by decide +kernel
theorem dX3_add_81 : decode cX3_add 81 = .ok (.iastore, 1) := by decide +kernel
theorem dX3_add_82 : decode cX3_add 82 = .ok (.aload_n 0, 1) := by decide +kernel
theorem dX3_add_83 : decode cX3_add 83 = .ok (.getfield 15, 3) := by decide +kernel
theorem dX3_add_86 : decode cX3_add 86 = .ok (.iload 5, 2) := by decide +kernel
theorem dX3_add_88 : decode cX3_add 88 = .ok (.iconst 1, 1) := by decide +kernel
theorem dX3_add_89 : decode cX3_add 89 = .ok (.iadd, 1) := by decide +kernel
theorem dX3_add_90 : decode cX3_add 90 = .ok (.lload_n 3, 1) := by decide +kernel
theorem dX3_add_91 : decode cX3_add 91 = .ok (.l2i, 1) := by decide +kernel
theorem dX3_add_92 : decode cX3_add 92 = .ok (.iastore, 1) := by decide +kernel
theorem dX3_add_93 : decode cX3_add 93 = .ok (.aload_n 0, 1) := by decide +kernel
theorem dX3_add_94 : decode cX3_add 94 = .ok (.dup, 1) := by decide +kernel
theorem dX3_add_95 : decode cX3_add 95 = .ok (.getfield 25, 3) := by decide +kernel
theorem dX3_add_98 : decode cX3_add 98 = .ok (.iconst 1, 1) := by decide +kernel
theorem dX3_add_99 : decode cX3_add 99 = .ok (.iadd, 1) := by decide +kernel
theorem dX3_add_100 : decode cX3_add 100 = .ok (.putfield 25, 3) := by decide +kernel
theorem dX3_add_103 : decode cX3_add 103 = .ok (.return_, 1) := by decide +kernel
theorem dX3_count_0 : decode cX3_count 0 = .ok (.aload_n 0, 1) := by decide +kernel
theorem dX3_count_1 : decode cX3_count 1 = .ok (.getfield 22, 3) := by decide +kernel
theorem dX3_count_4 : decode cX3_count 4 = .ok (.ireturn, 1) := by decide +kernel
theorem dX3_empty_0 : decode cX3_empty 0 = .ok (.aload_n 0, 1) := by decide +kernel
theorem dX3_empty_1 : decode cX3_empty 1 = .ok (.iconst 0, 1) := by decide +kernel
theorem dX3_empty_2 : decode cX3_empty 2 = .ok (.putfield 22, 3) := by decide +kernel
theorem dX3_empty_5 : decode cX3_empty 5 = .ok (.aload_n 0, 1) := by decide +kernel
theorem dX3_empty_6 : decode cX3_empty 6 = .ok (.iconst 0, 1) := by decide +kernel
theorem dX3_empty_7 : decode cX3_empty 7 = .ok (.putfield 25, 3) := by decide +kernel
theorem dX3_empty_10 : decode cX3_empty 10 = .ok (.aload_n 0, 1) := by decide +kernel
theorem dX3_empty_11 : decode cX3_empty 11 = .ok (.iconst 0, 1) := by decide +kernel
theorem dX3_empty_12 : decode cX3_empty 12 = .ok (.putfield 18, 3) := by decide +kernel
theorem dX3_empty_15 : decode cX3_empty 15 = .ok (.return_, 1) := by decide +kernel
theorem dX3_init_0 : decode cX3_init 0 = .ok (.aload_n 0, 1) := by decide +kernel
theorem dX3_init_1 : decode cX3_init 1 = .ok (.invokespecial 3, 3) := by decide +kernel
theorem dX3_init_4 : decode cX3_init 4 = .ok (.aload_n 0, 1) := by decide +kernel
theorem dX3_init_5 : decode cX3_init 5 = .ok (.sipush 2000, 3) := by decide +kernel
theorem dX3_init_8 : decode cX3_init 8 = .ok (.newarray .int, 2) := by decide +kernel
theorem dX3_init_10 : decode cX3_init 10 = .ok (.putfield 9, 3) := by decide +kernel
theorem dX3_init_13 : decode cX3_init 13 = .ok (.aload_n 0, 1) := by decide +kernel
theorem dX3_init_14 : decode cX3_init 14 = .ok (.sipush 16000, 3) := by decide +kernel
theorem dX3_init_17 : decode cX3_init 17 = .ok (.newarray .int, 2) := by decide +kernel
theorem dX3_init_19 : decode cX3_init 19 = .ok (.putfield 15, 3) := by decide +kernel
theorem dX3_init_22 : decode cX3_init 22 = .ok (.aload_n 0, 1) := by decide +kernel
theorem dX3_init_23 : decode cX3_init 23 = .ok (.iconst 0, 1) := by decide +kernel
theorem dX3_init_24 : decode cX3_init 24 = .ok (.putfield 18, 3) := by decide +kernel
theorem dX3_init_27 : decode cX3_init 27 = .ok (.return_, 1) := by decide +kernel
theorem dX3_isGoing_0 : decode cX3_isGoing 0 = .ok (.aload_n 0, 1) := by decide +kernel
theorem dX3_isGoing_1 : decode cX3_isGoing 1 = .ok (.getfield 18, 3) := by decide +kernel
theorem dX3_isGoing_4 : decode cX3_isGoing 4 = .ok (.ifCond .ne 7, 3) := by decide +kernel
theorem dX3_isGoing_7 : decode cX3_isGoing 7 = .ok (.iconst 1, 1) := by decide +kernel
theorem dX3_isGoing_8 : decode cX3_isGoing 8 = .ok (.goto 4, 3) := by decide +kernel
theorem dX3_isGoing_11 : decode cX3_isGoing 11 = .ok (.iconst 0, 1) := by decide +kernel
theorem dX3_isGoing_12 : decode cX3_isGoing 12 = .ok (.ireturn, 1) := by decide +kernel
theorem dX3_kindOf_0 : decode cX3_kindOf 0 = .ok (.iload_n 1, 1) := by decide +kernel
theorem dX3_kindOf_1 : decode cX3_kindOf 1 = .ok (.ifCond .lt 27, 3) := by decide +kernel
theorem dX3_kindOf_4 : decode cX3_kindOf 4 = .ok (.iload_n 1, 1) := by decide +kernel
theorem dX3_kindOf_5 : decode cX3_kindOf 5 = .ok (.aload_n 0, 1) := by decide +kernel
theorem dX3_kindOf_6 : decode cX3_kindOf 6 = .ok (.getfield 22, 3) := by decide +kernel
theorem dX3_kindOf_9 : decode cX3_kindOf 9 = .ok (.if_icmp .ge 19, 3) := by decide +kernel
theorem dX3_kindOf_12 : decode cX3_kindOf 12 = .ok (.iload_n 1, 1) := by decide +kernel
theorem dX3_kindOf_13 : decode cX3_kindOf 13 = .ok (.sipush 2000, 3) := by decide +kernel
theorem dX3_kindOf_16 : decode cX3_kindOf 16 = .ok (.if_icmp .ge 12, 3) := by decide +kernel
theorem dX3_kindOf_19 : decode cX3_kindOf 19 = .ok (.aload_n 0, 1) := by decide +kernel
theorem dX3_kindOf_20 : decode cX3_kindOf 20 = .ok (.getfield 9, 3) := by decide +kernel
theorem dX3_kindOf_23 : decode cX3_kindOf 23 = .ok (.iload_n 1, 1) := by decide +kernel
theorem dX3_kindOf_24 : decode cX3_kindOf 24 = .ok (.iaload, 1) := by decide +kernel
theorem dX3_kindOf_25 : decode cX3_kindOf 25 = .ok (.goto 4, 3) := by decide +kernel
theorem dX3_kindOf_28 : decode cX3_kindOf 28 = .ok (.iconst (-1), 1) := by decide +kernel
theorem dX3_kindOf_29 : decode cX3_kindOf 29 = .ok (.ireturn, 1) := by decide +kernel
theorem dX3_placeOf_0 : decode cX3_placeOf 0 = .ok (.aload_n 0, 1) := by decide +kernel
theorem dX3_placeOf_1 : decode cX3_placeOf 1 = .ok (.iload_n 1, 1) := by decide +kernel
theorem dX3_placeOf_2 : decode cX3_placeOf 2 = .ok (.invokevirtual 36, 3) := by decide +kernel
theorem dX3_placeOf_5 : decode cX3_placeOf 5 = .ok (.istore 4, 2) := by decide +kernel
theorem dX3_placeOf_7 : decode cX3_placeOf 7 = .ok (.iload 4, 2) := by decide +kernel
theorem dX3_placeOf_9 : decode cX3_placeOf 9 = .ok (.iconst (-1), 1) := by decide +kernel
theorem dX3_placeOf_10 : decode cX3_placeOf 10 = .ok (.if_icmp .eq 22, 3) := by decide +kernel
theorem dX3_placeOf_13 : decode cX3_placeOf 13 = .ok (.iload_n 2, 1) := by decide +kernel
theorem dX3_placeOf_14 : decode cX3_placeOf 14 = .ok (.ifCond .lt 18, 3) := by decide +kernel
theorem dX3_placeOf_17 : decode cX3_placeOf 17 = .ok (.iload_n 2, 1) := by decide +kernel
theorem dX3_placeOf_18 : decode cX3_placeOf 18 = .ok (.iload 4, 2) := by decide +kernel
theorem dX3_placeOf_20 : decode cX3_placeOf 20 = .ok (.iconst 1, 1) := by decide +kernel
theorem dX3_placeOf_21 : decode cX3_placeOf 21 = .ok (.if_icmp .ne 7, 3) := by decide +kernel
theorem dX3_placeOf_24 : decode cX3_placeOf 24 = .ok (.iconst 3, 1) := by decide +kernel
theorem dX3_placeOf_25 : decode cX3_placeOf 25 = .ok (.goto 4, 3) := by decide +kernel
theorem dX3_placeOf_28 : decode cX3_placeOf 28 = .ok (.iconst 4, 1) := by decide +kernel
theorem dX3_placeOf_29 : decode cX3_placeOf 29 = .ok (.if_icmp .lt 5, 3) := by decide +kernel
theorem dX3_placeOf_32 : decode cX3_placeOf 32 = .ok (.iconst 0, 1) := by decide +kernel
theorem dX3_placeOf_33 : decode cX3_placeOf 33 = .ok (.ireturn, 1) := by decide +kernel
theorem dX3_placeOf_34 : decode cX3_placeOf 34 = .ok (.iload_n 3, 1) := by decide +kernel
theorem dX3_placeOf_35 : decode cX3_placeOf 35 = .ok (.ifCond .lt 8, 3) := by decide +kernel
theorem dX3_placeOf_38 : decode cX3_placeOf 38 = .ok (.iload_n 3, 1) := by decide +kernel
theorem dX3_placeOf_39 : decode cX3_placeOf 39 = .ok (.iconst 1, 1) := by decide +kernel
theorem dX3_placeOf_40 : decode cX3_placeOf 40 = .ok (.if_icmp .le 5, 3) := by decide +kernel
theorem dX3_placeOf_43 : decode cX3_placeOf 43 = .ok (.iconst 0, 1) := by decide +kernel
theorem dX3_placeOf_44 : decode cX3_placeOf 44 = .ok (.ireturn, 1) := by decide +kernel
theorem dX3_placeOf_45 : decode cX3_placeOf 45 = .ok (.iload_n 1, 1) := by decide +kernel
theorem dX3_placeOf_46 : decode cX3_placeOf 46 = .ok (.bipush 8, 2) := by decide +kernel
theorem dX3_placeOf_48 : decode cX3_placeOf 48 = .ok (.imul, 1) := by decide +kernel
theorem dX3_placeOf_49 : decode cX3_placeOf 49 = .ok (.iconst 2, 1) := by decide +kernel
theorem dX3_placeOf_50 : decode cX3_placeOf 50 = .ok (.iload_n 2, 1) := by decide +kernel
theorem dX3_placeOf_51 : decode cX3_placeOf 51 = .ok (.imul, 1) := by decide +kernel
theorem dX3_placeOf_52 : decode cX3_placeOf 52 = .ok (.iadd, 1) := by decide +kernel
theorem dX3_placeOf_53 : decode cX3_placeOf 53 = .ok (.iload_n 3, 1) := by decide +kernel
theorem dX3_placeOf_54 : decode cX3_placeOf 54 = .ok (.iadd, 1) := by decide +kernel
theorem dX3_placeOf_55 : decode cX3_placeOf 55 = .ok (.istore 5, 2) := by decide +kernel
theorem dX3_placeOf_57 : decode cX3_placeOf 57 = .ok (.iload 5, 2) := by decide +kernel
theorem dX3_placeOf_59 : decode cX3_placeOf 59 = .ok (.ifCond .lt 23, 3) := by decide +kernel
theorem dX3_placeOf_62 : decode cX3_placeOf 62 = .ok (.iload 5, 2) := by decide +kernel
theorem dX3_placeOf_64 : decode cX3_placeOf 64 = .ok (.aload_n 0, 1) := by decide +kernel
theorem dX3_placeOf_65 : decode cX3_placeOf 65 = .ok (.getfield 15, 3) := by decide +kernel
theorem dX3_placeOf_68 : decode cX3_placeOf 68 = .ok (.arraylength, 1) := by decide +kernel
theorem dX3_placeOf_69 : decode cX3_placeOf 69 = .ok (.if_icmp .ge 13, 3) := by decide +kernel
theorem dX3_placeOf_72 : decode cX3_placeOf 72 = .ok (.aload_n 0, 1) := by decide +kernel
theorem dX3_placeOf_73 : decode cX3_placeOf 73 = .ok (.getfield 15, 3) := by decide +kernel
theorem dX3_placeOf_76 : decode cX3_placeOf 76 = .ok (.iload 5, 2) := by decide +kernel
theorem dX3_placeOf_78 : decode cX3_placeOf 78 = .ok (.iaload, 1) := by decide +kernel
theorem dX3_placeOf_79 : decode cX3_placeOf 79 = .ok (.goto 4, 3) := by decide +kernel
theorem dX3_placeOf_82 : decode cX3_placeOf 82 = .ok (.iconst 0, 1) := by decide +kernel
theorem dX3_placeOf_83 : decode cX3_placeOf 83 = .ok (.ireturn, 1) := by decide +kernel
theorem dX3_start_0 : decode cX3_start 0 = .ok (.aload_n 0, 1) := by decide +kernel
theorem dX3_start_1 : decode cX3_start 1 = .ok (.getfield 18, 3) := by decide +kernel
theorem dX3_start_4 : decode cX3_start 4 = .ok (.ifCond .eq 4, 3) := by decide +kernel
theorem dX3_start_7 : decode cX3_start 7 = .ok (.return_, 1) := by decide +kernel
theorem dX3_start_8 : decode cX3_start 8 = .ok (.aload_n 0, 1) := by decide +kernel
theorem dX3_start_9 : decode cX3_start 9 = .ok (.getfield 22, 3) := by decide +kernel
theorem dX3_start_12 : decode cX3_start 12 = .ok (.ifCond .lt 13, 3) := by decide +kernel
theorem dX3_start_15 : decode cX3_start 15 = .ok (.aload_n 0, 1) := by decide +kernel
theorem dX3_start_16 : decode cX3_start 16 = .ok (.getfield 22, 3) := by decide +kernel
theorem dX3_start_19 : decode cX3_start 19 = .ok (.sipush 2000, 3) := by decide +kernel
theorem dX3_start_22 : decode cX3_start 22 = .ok (.if_icmp .lt 10, 3) := by decide +kernel
theorem dX3_start_25 : decode cX3_start 25 = .ok (.aload_n 0, 1) := by decide +kernel
theorem dX3_start_26 : decode cX3_start 26 = .ok (.bipush (-3), 2) := by decide +kernel
theorem dX3_start_28 : decode cX3_start 28 = .ok (.invokevirtual 28, 3) := by decide +kernel
theorem dX3_start_31 : decode cX3_start 31 = .ok (.return_, 1) := by decide +kernel
theorem dX3_start_32 : decode cX3_start 32 = .ok (.aload_n 0, 1) := by decide +kernel
theorem dX3_start_33 : decode cX3_start 33 = .ok (.getfield 9, 3) := by decide +kernel
theorem dX3_start_36 : decode cX3_start 36 = .ok (.aload_n 0, 1) := by decide +kernel
theorem dX3_start_37 : decode cX3_start 37 = .ok (.getfield 22, 3) := by decide +kernel
theorem dX3_start_40 : decode cX3_start 40 = .ok (.iload_n 1, 1) := by decide +kernel
theorem dX3_start_41 : decode cX3_start 41 = .ok (.iastore, 1) := by decide +kernel
theorem dX3_start_42 : decode cX3_start 42 = .ok (.aload_n 0, 1) := by decide +kernel
theorem dX3_start_43 : decode cX3_start 43 = .ok (.dup, 1) := by decide +kernel
theorem dX3_start_44 : decode cX3_start 44 = .ok (.getfield 22, 3) := by decide +kernel
theorem dX3_start_47 : decode cX3_start 47 = .ok (.iconst 1, 1) := by decide +kernel
theorem dX3_start_48 : decode cX3_start 48 = .ok (.iadd, 1) := by decide +kernel
theorem dX3_start_49 : decode cX3_start 49 = .ok (.putfield 22, 3) := by decide +kernel
theorem dX3_start_52 : decode cX3_start 52 = .ok (.aload_n 0, 1) := by decide +kernel
theorem dX3_start_53 : decode cX3_start 53 = .ok (.iconst 0, 1) := by decide +kernel
theorem dX3_start_54 : decode cX3_start 54 = .ok (.putfield 25, 3) := by decide +kernel
theorem dX3_start_57 : decode cX3_start 57 = .ok (.return_, 1) := by decide +kernel
theorem dX3_state_0 : decode cX3_state 0 = .ok (.aload_n 0, 1) := by decide +kernel
theorem dX3_state_1 : decode cX3_state 1 = .ok (.getfield 18, 3) := by decide +kernel
theorem dX3_state_4 : decode cX3_state 4 = .ok (.ireturn, 1) := by decide +kernel
theorem dX3_stop_0 : decode cX3_stop 0 = .ok (.aload_n 0, 1) := by decide +kernel
theorem dX3_stop_1 : decode cX3_stop 1 = .ok (.getfield 18, 3) := by decide +kernel
theorem dX3_stop_4 : decode cX3_stop 4 = .ok (.ifCond .ne 8, 3) := by decide +kernel
theorem dX3_stop_7 : decode cX3_stop 7 = .ok (.aload_n 0, 1) := by decide +kernel
theorem dX3_stop_8 : decode cX3_stop 8 = .ok (.iload_n 1, 1) := by decide +kernel
theorem dX3_stop_9 : decode cX3_stop 9 = .ok (.putfield 18, 3) := by decide +kernel
theorem dX3_stop_12 : decode cX3_stop 12 = .ok (.return_, 1) := by decide +kernel
theorem dX4_add_0 : decode cX4_add 0 = .ok (.aload_n 0, 1) := by decide +kernel
theorem dX4_add_1 : decode cX4_add 1 = .ok (.getfield 18, 3) := by decide +kernel
theorem dX4_add_4 : decode cX4_add 4 = .ok (.iconst 1, 1) := by decide +kernel
theorem dX4_add_5 : decode cX4_add 5 = .ok (.isub, 1) := by decide +kernel
theorem dX4_add_6 : decode cX4_add 6 = .ok (.istore_n 3, 1) := by decide +kernel
theorem dX4_add_7 : decode cX4_add 7 = .ok (.iload_n 3, 1) := by decide +kernel
theorem dX4_add_8 : decode cX4_add 8 = .ok (.ifCond .lt 31, 3) := by decide +kernel
theorem dX4_add_11 : decode cX4_add 11 = .ok (.iload_n 3, 1) := by decide +kernel
theorem dX4_add_12 : decode cX4_add 12 = .ok (.sipush 2002, 3) := by decide +kernel
theorem dX4_add_15 : decode cX4_add 15 = .ok (.if_icmp .ge 24, 3) := by decide +kernel
theorem dX4_add_18 : decode cX4_add 18 = .ok (.aload_n 0, 1) := by decide +kernel
theorem dX4_add_19 : decode cX4_add 19 = .ok (.getfield 9, 3) := by decide +kernel
theorem dX4_add_22 : decode cX4_add 22 = .ok (.iload_n 3, 1) := by decide +kernel
theorem dX4_add_23 : decode cX4_add 23 = .ok (.iaload, 1) := by decide +kernel
theorem dX4_add_24 : decode cX4_add 24 = .ok (.iload_n 1, 1) := by decide +kernel
theorem dX4_add_25 : decode cX4_add 25 = .ok (.if_icmp .ne 14, 3) := by decide +kernel
theorem dX4_add_28 : decode cX4_add 28 = .ok (.aload_n 0, 1) := by decide +kernel
theorem dX4_add_29 : decode cX4_add 29 = .ok (.getfield 15, 3) := by decide +kernel
theorem dX4_add_32 : decode cX4_add 32 = .ok (.iload_n 3, 1) := by decide +kernel
theorem dX4_add_33 : decode cX4_add 33 = .ok (.iaload, 1) := by decide +kernel
theorem dX4_add_34 : decode cX4_add 34 = .ok (.iload_n 2, 1) := by decide +kernel
theorem dX4_add_35 : decode cX4_add 35 = .ok (.if_icmp .ne 4, 3) := by decide +kernel
theorem dX4_add_38 : decode cX4_add 38 = .ok (.return_, 1) := by decide +kernel
theorem dX4_add_39 : decode cX4_add 39 = .ok (.aload_n 0, 1) := by decide +kernel
theorem dX4_add_40 : decode cX4_add 40 = .ok (.getfield 18, 3) := by decide +kernel
theorem dX4_add_43 : decode cX4_add 43 = .ok (.ifCond .lt 13, 3) := by decide +kernel
theorem dX4_add_46 : decode cX4_add 46 = .ok (.aload_n 0, 1) := by decide +kernel
theorem dX4_add_47 : decode cX4_add 47 = .ok (.getfield 18, 3) := by decide +kernel
theorem dX4_add_50 : decode cX4_add 50 = .ok (.sipush 2002, 3) := by decide +kernel
theorem dX4_add_53 : decode cX4_add 53 = .ok (.if_icmp .lt 4, 3) := by decide +kernel
theorem dX4_add_56 : decode cX4_add 56 = .ok (.return_, 1) := by decide +kernel
theorem dX4_add_57 : decode cX4_add 57 = .ok (.aload_n 0, 1) := by decide +kernel
theorem dX4_add_58 : decode cX4_add 58 = .ok (.getfield 9, 3) := by decide +kernel
theorem dX4_add_61 : decode cX4_add 61 = .ok (.aload_n 0, 1) := by decide +kernel
theorem dX4_add_62 : decode cX4_add 62 = .ok (.getfield 18, 3) := by decide +kernel
theorem dX4_add_65 : decode cX4_add 65 = .ok (.iload_n 1, 1) := by decide +kernel
theorem dX4_add_66 : decode cX4_add 66 = .ok (.iastore, 1) := by decide +kernel
theorem dX4_add_67 : decode cX4_add 67 = .ok (.aload_n 0, 1) := by decide +kernel
theorem dX4_add_68 : decode cX4_add 68 = .ok (.getfield 15, 3) := by decide +kernel
theorem dX4_add_71 : decode cX4_add 71 = .ok (.aload_n 0, 1) := by decide +kernel
theorem dX4_add_72 : decode cX4_add 72 = .ok (.getfield 18, 3) := by decide +kernel
theorem dX4_add_75 : decode cX4_add 75 = .ok (.iload_n 2, 1) := by decide +kernel
theorem dX4_add_76 : decode cX4_add 76 = .ok (.iastore, 1) := by decide +kernel
theorem dX4_add_77 : decode cX4_add 77 = .ok (.aload_n 0, 1) := by decide +kernel
theorem dX4_add_78 : decode cX4_add 78 = .ok (.dup, 1) := by decide +kernel
theorem dX4_add_79 : decode cX4_add 79 = .ok (.getfield 18, 3) := by decide +kernel
theorem dX4_add_82 : decode cX4_add 82 = .ok (.iconst 1, 1) := by decide +kernel
theorem dX4_add_83 : decode cX4_add 83 = .ok (.iadd, 1) := by decide +kernel
theorem dX4_add_84 : decode cX4_add 84 = .ok (.putfield 18, 3) := by decide +kernel
theorem dX4_add_87 : decode cX4_add 87 = .ok (.return_, 1) := by decide +kernel
theorem dX4_dropLastLikeFirst_0 : decode cX4_dropLastLikeFirst 0 = .ok (.aload_n 0, 1) := by decide +kernel
theorem dX4_dropLastLikeFirst_1 : decode cX4_dropLastLikeFirst 1 = .ok (.getfield 18, 3) := by decide +kernel
