theorem dX9_side_11 : decode cX9_side 11 = .ok (.iconst 0, 1) := by decide +kernel
theorem dX9_side_12 : decode cX9_side 12 = .ok (.invokevirtual 126, 3) := by decide +kernel
theorem dX9_side_15 : decode cX9_side 15 = .ok (.lstore_n 2, 1) := by decide +kernel
theorem dX9_side_16 : decode cX9_side 16 = .ok (.aload_n 0, 1) := by decide +kernel
theorem dX9_side_17 : decode cX9_side 17 = .ok (.iload_n 1, 1) := by decide +kernel
theorem dX9_side_18 : decode cX9_side 18 = .ok (.iconst 1, 1) := by decide +kernel
theorem dX9_side_19 : decode cX9_side 19 = .ok (.invokevirtual 126, 3) := by decide +kernel
theorem dX9_side_22 : decode cX9_side 22 = .ok (.lstore 4, 2) := by decide +kernel
theorem dX9_side_24 : decode cX9_side 24 = .ok (.aload_n 0, 1) := by decide +kernel
theorem dX9_side_25 : decode cX9_side 25 = .ok (.iconst 0, 1) := by decide +kernel
theorem dX9_side_26 : decode cX9_side 26 = .ok (.aload_n 0, 1) := by decide +kernel
theorem dX9_side_27 : decode cX9_side 27 = .ok (.getfield 34, 3) := by decide +kernel
theorem dX9_side_30 : decode cX9_side 30 = .ok (.iload_n 1, 1) := by decide +kernel
theorem dX9_side_31 : decode cX9_side 31 = .ok (.laload, 1) := by decide +kernel
theorem dX9_side_32 : decode cX9_side 32 = .ok (.lload_n 2, 1) := by decide +kernel
theorem dX9_side_33 : decode cX9_side 33 = .ok (.ladd, 1) := by decide +kernel
theorem dX9_side_34 : decode cX9_side 34 = .ok (.aload_n 0, 1) := by decide +kernel
theorem dX9_side_35 : decode cX9_side 35 = .ok (.getfield 38, 3) := by decide +kernel
theorem dX9_side_38 : decode cX9_side 38 = .ok (.iload_n 1, 1) := by decide +kernel
theorem dX9_side_39 : decode cX9_side 39 = .ok (.laload, 1) := by decide +kernel
theorem dX9_side_40 : decode cX9_side 40 = .ok (.lload 4, 2) := by decide +kernel
theorem dX9_side_42 : decode cX9_side 42 = .ok (.ladd, 1) := by decide +kernel
theorem dX9_side_43 : decode cX9_side 43 = .ok (.invokevirtual 130, 3) := by decide +kernel
theorem dX9_side_46 : decode cX9_side 46 = .ok (.aload_n 0, 1) := by decide +kernel
theorem dX9_side_47 : decode cX9_side 47 = .ok (.iconst 1, 1) := by decide +kernel
theorem dX9_side_48 : decode cX9_side 48 = .ok (.aload_n 0, 1) := by decide +kernel
theorem dX9_side_49 : decode cX9_side 49 = .ok (.getfield 34, 3) := by decide +kernel
theorem dX9_side_52 : decode cX9_side 52 = .ok (.iload_n 1, 1) := by decide +kernel
theorem dX9_side_53 : decode cX9_side 53 = .ok (.iconst 1, 1) := by decide +kernel
theorem dX9_side_54 : decode cX9_side 54 = .ok (.iadd, 1) := by decide +kernel
theorem dX9_side_55 : decode cX9_side 55 = .ok (.laload, 1) := by decide +kernel
theorem dX9_side_56 : decode cX9_side 56 = .ok (.lload_n 2, 1) := by decide +kernel
theorem dX9_side_57 : decode cX9_side 57 = .ok (.ladd, 1) := by decide +kernel
theorem dX9_side_58 : decode cX9_side 58 = .ok (.aload_n 0, 1) := by decide +kernel
theorem dX9_side_59 : decode cX9_side 59 = .ok (.getfield 38, 3) := by decide +kernel
theorem dX9_side_62 : decode cX9_side 62 = .ok (.iload_n 1, 1) := by decide +kernel
theorem dX9_side_63 : decode cX9_side 63 = .ok (.iconst 1, 1) := by decide +kernel
theorem dX9_side_64 : decode cX9_side 64 = .ok (.iadd, 1) := by decide +kernel
theorem dX9_side_65 : decode cX9_side 65 = .ok (.laload, 1) := by decide +kernel
theorem dX9_side_66 : decode cX9_side 66 = .ok (.lload 4, 2) := by decide +kernel
theorem dX9_side_68 : decode cX9_side 68 = .ok (.ladd, 1) := by decide +kernel
theorem dX9_side_69 : decode cX9_side 69 = .ok (.invokevirtual 130, 3) := by decide +kernel
theorem dX9_side_72 : decode cX9_side 72 = .ok (.aload_n 0, 1) := by decide +kernel
theorem dX9_side_73 : decode cX9_side 73 = .ok (.iconst 2, 1) := by decide +kernel
theorem dX9_side_74 : decode cX9_side 74 = .ok (.aload_n 0, 1) := by decide +kernel
theorem dX9_side_75 : decode cX9_side 75 = .ok (.getfield 34, 3) := by decide +kernel
theorem dX9_side_78 : decode cX9_side 78 = .ok (.iload_n 1, 1) := by decide +kernel
theorem dX9_side_79 : decode cX9_side 79 = .ok (.iconst 1, 1) := by decide +kernel
theorem dX9_side_80 : decode cX9_side 80 = .ok (.iadd, 1) := by decide +kernel
theorem dX9_side_81 : decode cX9_side 81 = .ok (.laload, 1) := by decide +kernel
theorem dX9_side_82 : decode cX9_side 82 = .ok (.lload_n 2, 1) := by decide +kernel
theorem dX9_side_83 : decode cX9_side 83 = .ok (.lsub, 1) := by decide +kernel
theorem dX9_side_84 : decode cX9_side 84 = .ok (.aload_n 0, 1) := by decide +kernel
theorem dX9_side_85 : decode cX9_side 85 = .ok (.getfield 38, 3) := by decide +kernel
theorem dX9_side_88 : decode cX9_side 88 = .ok (.iload_n 1, 1) := by decide +kernel
theorem dX9_side_89 : decode cX9_side 89 = .ok (.iconst 1, 1) := by decide +kernel
theorem dX9_side_90 : decode cX9_side 90 = .ok (.iadd, 1) := by decide +kernel
theorem dX9_side_91 : decode cX9_side 91 = .ok (.laload, 1) := by decide +kernel
theorem dX9_side_92 : decode cX9_side 92 = .ok (.lload 4, 2) := by decide +kernel
theorem dX9_side_94 : decode cX9_side 94 = .ok (.lsub, 1) := by decide +kernel
theorem dX9_side_95 : decode cX9_side 95 = .ok (.invokevirtual 130, 3) := by decide +kernel
theorem dX9_side_98 : decode cX9_side 98 = .ok (.aload_n 0, 1) := by decide +kernel
theorem dX9_side_99 : decode cX9_side 99 = .ok (.iconst 3, 1) := by decide +kernel
theorem dX9_side_100 : decode cX9_side 100 = .ok (.aload_n 0, 1) := by decide +kernel
theorem dX9_side_101 : decode cX9_side 101 = .ok (.getfield 34, 3) := by decide +kernel
theorem dX9_side_104 : decode cX9_side 104 = .ok (.iload_n 1, 1) := by decide +kernel
theorem dX9_side_105 : decode cX9_side 105 = .ok (.laload, 1) := by decide +kernel
theorem dX9_side_106 : decode cX9_side 106 = .ok (.lload_n 2, 1) := by decide +kernel
theorem dX9_side_107 : decode cX9_side 107 = .ok (.lsub, 1) := by decide +kernel
theorem dX9_side_108 : decode cX9_side 108 = .ok (.aload_n 0, 1) := by decide +kernel
theorem dX9_side_109 : decode cX9_side 109 = .ok (.getfield 38, 3) := by decide +kernel
theorem dX9_side_112 : decode cX9_side 112 = .ok (.iload_n 1, 1) := by decide +kernel
theorem dX9_side_113 : decode cX9_side 113 = .ok (.laload, 1) := by decide +kernel
theorem dX9_side_114 : decode cX9_side 114 = .ok (.lload 4, 2) := by decide +kernel
theorem dX9_side_116 : decode cX9_side 116 = .ok (.lsub, 1) := by decide +kernel
theorem dX9_side_117 : decode cX9_side 117 = .ok (.invokevirtual 130, 3) := by decide +kernel
theorem dX9_side_120 : decode cX9_side 120 = .ok (.aload_n 0, 1) := by decide +kernel
theorem dX9_side_121 : decode cX9_side 121 = .ok (.invokevirtual 134, 3) := by decide +kernel
theorem dX9_side_124 : decode cX9_side 124 = .ok (.return_, 1) := by decide +kernel
theorem dX9_sort_0 : decode cX9_sort 0 = .ok (.iload_n 1, 1) := by decide +kernel
theorem dX9_sort_1 : decode cX9_sort 1 = .ok (.ifCond .lt 20, 3) := by decide +kernel
theorem dX9_sort_4 : decode cX9_sort 4 = .ok (.iload_n 1, 1) := by decide +kernel
theorem dX9_sort_5 : decode cX9_sort 5 = .ok (.aload_n 0, 1) := by decide +kernel
theorem dX9_sort_6 : decode cX9_sort 6 = .ok (.getfield 74, 3) := by decide +kernel
theorem dX9_sort_9 : decode cX9_sort 9 = .ok (.if_icmp .ge 12, 3) := by decide +kernel
theorem dX9_sort_12 : decode cX9_sort 12 = .ok (.aload_n 0, 1) := by decide +kernel
theorem dX9_sort_13 : decode cX9_sort 13 = .ok (.getfield 47, 3) := by decide +kernel
theorem dX9_sort_16 : decode cX9_sort 16 = .ok (.iload_n 1, 1) := by decide +kernel
theorem dX9_sort_17 : decode cX9_sort 17 = .ok (.baload, 1) := by decide +kernel
theorem dX9_sort_18 : decode cX9_sort 18 = .ok (.goto 4, 3) := by decide +kernel
theorem dX9_sort_21 : decode cX9_sort 21 = .ok (.iconst (-1), 1) := by decide +kernel
theorem dX9_sort_22 : decode cX9_sort 22 = .ok (.ireturn, 1) := by decide +kernel
theorem dX9_start_0 : decode cX9_start 0 = .ok (.lconst 0, 1) := by decide +kernel
theorem dX9_start_1 : decode cX9_start 1 = .ok (.lstore_n 1, 1) := by decide +kernel
theorem dX9_start_2 : decode cX9_start 2 = .ok (.iconst 0, 1) := by decide +kernel
theorem dX9_start_3 : decode cX9_start 3 = .ok (.istore_n 3, 1) := by decide +kernel
theorem dX9_start_4 : decode cX9_start 4 = .ok (.iload_n 3, 1) := by decide +kernel
theorem dX9_start_5 : decode cX9_start 5 = .ok (.aload_n 0, 1) := by decide +kernel
theorem dX9_start_6 : decode cX9_start 6 = .ok (.getfield 86, 3) := by decide +kernel
theorem dX9_start_9 : decode cX9_start 9 = .ok (.if_icmp .ge 19, 3) := by decide +kernel
theorem dX9_start_12 : decode cX9_start 12 = .ok (.lload_n 1, 1) := by decide +kernel
theorem dX9_start_13 : decode cX9_start 13 = .ok (.aload_n 0, 1) := by decide +kernel
theorem dX9_start_14 : decode cX9_start 14 = .ok (.getfield 53, 3) := by decide +kernel
theorem dX9_start_17 : decode cX9_start 17 = .ok (.iload_n 3, 1) := by decide +kernel
theorem dX9_start_18 : decode cX9_start 18 = .ok (.iaload, 1) := by decide +kernel
theorem dX9_start_19 : decode cX9_start 19 = .ok (.i2l, 1) := by decide +kernel
theorem dX9_start_20 : decode cX9_start 20 = .ok (.ladd, 1) := by decide +kernel
theorem dX9_start_21 : decode cX9_start 21 = .ok (.lstore_n 1, 1) := by decide +kernel
theorem dX9_start_22 : decode cX9_start 22 = .ok (.iinc 3 1, 3) := by decide +kernel
theorem dX9_start_25 : decode cX9_start 25 = .ok (.goto (-21), 3) := by decide +kernel
theorem dX9_start_28 : decode cX9_start 28 = .ok (.aload_n 0, 1) := by decide +kernel
theorem dX9_start_29 : decode cX9_start 29 = .ok (.getfield 89, 3) := by decide +kernel
theorem dX9_start_32 : decode cX9_start 32 = .ok (.i2l, 1) := by decide +kernel
theorem dX9_start_33 : decode cX9_start 33 = .ok (.ldc2_w 92, 3) := by decide +kernel
theorem dX9_start_36 : decode cX9_start 36 = .ok (.lload_n 1, 1) := by decide +kernel
theorem dX9_start_37 : decode cX9_start 37 = .ok (.lmul, 1) := by decide +kernel
theorem dX9_start_38 : decode cX9_start 38 = .ok (.lrem, 1) := by decide +kernel
theorem dX9_start_39 : decode cX9_start 39 = .ok (.lstore_n 3, 1) := by decide +kernel
theorem dX9_start_40 : decode cX9_start 40 = .ok (.aload_n 0, 1) := by decide +kernel
theorem dX9_start_41 : decode cX9_start 41 = .ok (.iconst 0, 1) := by decide +kernel
theorem dX9_start_42 : decode cX9_start 42 = .ok (.putfield 167, 3) := by decide +kernel
theorem dX9_start_45 : decode cX9_start 45 = .ok (.aload_n 0, 1) := by decide +kernel
theorem dX9_start_46 : decode cX9_start 46 = .ok (.iconst 0, 1) := by decide +kernel
theorem dX9_start_47 : decode cX9_start 47 = .ok (.putfield 170, 3) := by decide +kernel
theorem dX9_start_50 : decode cX9_start 50 = .ok (.aload_n 0, 1) := by decide +kernel
theorem dX9_start_51 : decode cX9_start 51 = .ok (.aload_n 0, 1) := by decide +kernel
theorem dX9_start_52 : decode cX9_start 52 = .ok (.getfield 53, 3) := by decide +kernel
theorem dX9_start_55 : decode cX9_start 55 = .ok (.iconst 0, 1) := by decide +kernel
theorem dX9_start_56 : decode cX9_start 56 = .ok (.iaload, 1) := by decide +kernel
theorem dX9_start_57 : decode cX9_start 57 = .ok (.i2l, 1) := by decide +kernel
theorem dX9_start_58 : decode cX9_start 58 = .ok (.putfield 174, 3) := by decide +kernel
theorem dX9_start_61 : decode cX9_start 61 = .ok (.aload_n 0, 1) := by decide +kernel
theorem dX9_start_62 : decode cX9_start 62 = .ok (.getfield 174, 3) := by decide +kernel
theorem dX9_start_65 : decode cX9_start 65 = .ok (.lload_n 3, 1) := by decide +kernel
theorem dX9_start_66 : decode cX9_start 66 = .ok (.lcmp, 1) := by decide +kernel
theorem dX9_start_67 : decode cX9_start 67 = .ok (.ifCond .gt 17, 3) := by decide +kernel
theorem dX9_start_70 : decode cX9_start 70 = .ok (.lload_n 3, 1) := by decide +kernel
theorem dX9_start_71 : decode cX9_start 71 = .ok (.aload_n 0, 1) := by decide +kernel
theorem dX9_start_72 : decode cX9_start 72 = .ok (.getfield 174, 3) := by decide +kernel
theorem dX9_start_75 : decode cX9_start 75 = .ok (.lsub, 1) := by decide +kernel
theorem dX9_start_76 : decode cX9_start 76 = .ok (.lstore_n 3, 1) := by decide +kernel
theorem dX9_start_77 : decode cX9_start 77 = .ok (.aload_n 0, 1) := by decide +kernel
theorem dX9_start_78 : decode cX9_start 78 = .ok (.invokevirtual 180, 3) := by decide +kernel
theorem dX9_start_81 : decode cX9_start 81 = .ok (.goto (-20), 3) := by decide +kernel
theorem dX9_start_84 : decode cX9_start 84 = .ok (.aload_n 0, 1) := by decide +kernel
theorem dX9_start_85 : decode cX9_start 85 = .ok (.dup, 1) := by decide +kernel
theorem dX9_start_86 : decode cX9_start 86 = .ok (.getfield 174, 3) := by decide +kernel
theorem dX9_start_89 : decode cX9_start 89 = .ok (.lload_n 3, 1) := by decide +kernel
theorem dX9_start_90 : decode cX9_start 90 = .ok (.lsub, 1) := by decide +kernel
theorem dX9_start_91 : decode cX9_start 91 = .ok (.putfield 174, 3) := by decide +kernel
theorem dX9_start_94 : decode cX9_start 94 = .ok (.aload_n 0, 1) := by decide +kernel
theorem dX9_start_95 : decode cX9_start 95 = .ok (.invokevirtual 183, 3) := by decide +kernel
theorem dX9_start_98 : decode cX9_start 98 = .ok (.return_, 1) := by decide +kernel
theorem dX9_stroke_0 : decode cX9_stroke 0 = .ok (.aload_n 0, 1) := by decide +kernel
theorem dX9_stroke_1 : decode cX9_stroke 1 = .ok (.iconst 0, 1) := by decide +kernel
theorem dX9_stroke_2 : decode cX9_stroke 2 = .ok (.putfield 74, 3) := by decide +kernel
theorem dX9_stroke_5 : decode cX9_stroke 5 = .ok (.aload_n 0, 1) := by decide +kernel
theorem dX9_stroke_6 : decode cX9_stroke 6 = .ok (.iconst 0, 1) := by decide +kernel
theorem dX9_stroke_7 : decode cX9_stroke 7 = .ok (.putfield 102, 3) := by decide +kernel
theorem dX9_stroke_10 : decode cX9_stroke 10 = .ok (.aload_n 0, 1) := by decide +kernel
theorem dX9_stroke_11 : decode cX9_stroke 11 = .ok (.iconst 0, 1) := by decide +kernel
theorem dX9_stroke_12 : decode cX9_stroke 12 = .ok (.putfield 177, 3) := by decide +kernel
theorem dX9_stroke_15 : decode cX9_stroke 15 = .ok (.iconst 0, 1) := by decide +kernel
theorem dX9_stroke_16 : decode cX9_stroke 16 = .ok (.istore_n 1, 1) := by decide +kernel
theorem dX9_stroke_17 : decode cX9_stroke 17 = .ok (.iload_n 1, 1) := by decide +kernel
theorem dX9_stroke_18 : decode cX9_stroke 18 = .ok (.aload_n 0, 1) := by decide +kernel
theorem dX9_stroke_19 : decode cX9_stroke 19 = .ok (.getfield 60, 3) := by decide +kernel
theorem dX9_stroke_22 : decode cX9_stroke 22 = .ok (.if_icmp .ge 40, 3) := by decide +kernel
theorem dX9_stroke_25 : decode cX9_stroke 25 = .ok (.aload_n 0, 1) := by decide +kernel
theorem dX9_stroke_26 : decode cX9_stroke 26 = .ok (.getfield 102, 3) := by decide +kernel
theorem dX9_stroke_29 : decode cX9_stroke 29 = .ok (.ifCond .ne 33, 3) := by decide +kernel
theorem dX9_stroke_32 : decode cX9_stroke 32 = .ok (.iload_n 1, 1) := by decide +kernel
theorem dX9_stroke_33 : decode cX9_stroke 33 = .ok (.istore_n 2, 1) := by decide +kernel
theorem dX9_stroke_34 : decode cX9_stroke 34 = .ok (.aload_n 0, 1) := by decide +kernel
theorem dX9_stroke_35 : decode cX9_stroke 35 = .ok (.iload_n 1, 1) := by decide +kernel
theorem dX9_stroke_36 : decode cX9_stroke 36 = .ok (.invokevirtual 209, 3) := by decide +kernel
theorem dX9_stroke_39 : decode cX9_stroke 39 = .ok (.istore_n 1, 1) := by decide +kernel
theorem dX9_stroke_40 : decode cX9_stroke 40 = .ok (.aload_n 0, 1) := by decide +kernel
theorem dX9_stroke_41 : decode cX9_stroke 41 = .ok (.aload_n 0, 1) := by decide +kernel
theorem dX9_stroke_42 : decode cX9_stroke 42 = .ok (.getfield 16, 3) := by decide +kernel
theorem dX9_stroke_45 : decode cX9_stroke 45 = .ok (.iload_n 2, 1) := by decide +kernel
theorem dX9_stroke_46 : decode cX9_stroke 46 = .ok (.baload, 1) := by decide +kernel
theorem dX9_stroke_47 : decode cX9_stroke 47 = .ok (.iconst 3, 1) := by decide +kernel
theorem dX9_stroke_48 : decode cX9_stroke 48 = .ok (.if_icmp .ne 7, 3) := by decide +kernel
theorem dX9_stroke_51 : decode cX9_stroke 51 = .ok (.iconst 1, 1) := by decide +kernel
theorem dX9_stroke_52 : decode cX9_stroke 52 = .ok (.goto 4, 3) := by decide +kernel
theorem dX9_stroke_55 : decode cX9_stroke 55 = .ok (.iconst 0, 1) := by decide +kernel
theorem dX9_stroke_56 : decode cX9_stroke 56 = .ok (.invokevirtual 213, 3) := by decide +kernel
theorem dX9_stroke_59 : decode cX9_stroke 59 = .ok (.goto (-42), 3) := by decide +kernel
theorem dX9_stroke_62 : decode cX9_stroke 62 = .ok (.aload_n 0, 1) := by decide +kernel
theorem dX9_stroke_63 : decode cX9_stroke 63 = .ok (.aload_n 0, 1) := by decide +kernel
theorem dX9_stroke_64 : decode cX9_stroke 64 = .ok (.getfield 102, 3) := by decide +kernel
theorem dX9_stroke_67 : decode cX9_stroke 67 = .ok (.ifCond .ne 10, 3) := by decide +kernel
theorem dX9_stroke_70 : decode cX9_stroke 70 = .ok (.aload_n 0, 1) := by decide +kernel
theorem dX9_stroke_71 : decode cX9_stroke 71 = .ok (.getfield 177, 3) := by decide +kernel
theorem dX9_stroke_74 : decode cX9_stroke 74 = .ok (.goto 4, 3) := by decide +kernel
theorem dX9_stroke_77 : decode cX9_stroke 77 = .ok (.iconst 0, 1) := by decide +kernel
theorem dX9_stroke_78 : decode cX9_stroke 78 = .ok (.putfield 216, 3) := by decide +kernel
theorem dX9_stroke_81 : decode cX9_stroke 81 = .ok (.aload_n 0, 1) := by decide +kernel
theorem dX9_stroke_82 : decode cX9_stroke 82 = .ok (.getfield 102, 3) := by decide +kernel
theorem dX9_stroke_85 : decode cX9_stroke 85 = .ok (.ifCond .eq 8, 3) := by decide +kernel
theorem dX9_stroke_88 : decode cX9_stroke 88 = .ok (.aload_n 0, 1) := by decide +kernel
theorem dX9_stroke_89 : decode cX9_stroke 89 = .ok (.iconst 0, 1) := by decide +kernel
theorem dX9_stroke_90 : decode cX9_stroke 90 = .ok (.putfield 74, 3) := by decide +kernel
theorem dX9_stroke_93 : decode cX9_stroke 93 = .ok (.aload_n 0, 1) := by decide +kernel
theorem dX9_stroke_94 : decode cX9_stroke 94 = .ok (.getfield 102, 3) := by decide +kernel
theorem dX9_stroke_97 : decode cX9_stroke 97 = .ok (.ifCond .eq 10, 3) := by decide +kernel
theorem dX9_stroke_100 : decode cX9_stroke 100 = .ok (.aload_n 0, 1) := by decide +kernel
theorem dX9_stroke_101 : decode cX9_stroke 101 = .ok (.getfield 102, 3) := by decide +kernel
theorem dX9_stroke_104 : decode cX9_stroke 104 = .ok (.goto 7, 3) := by decide +kernel
theorem dX9_stroke_107 : decode cX9_stroke 107 = .ok (.aload_n 0, 1) := by decide +kernel
theorem dX9_stroke_108 : decode cX9_stroke 108 = .ok (.getfield 74, 3) := by decide +kernel
theorem dX9_stroke_111 : decode cX9_stroke 111 = .ok (.ireturn, 1) := by decide +kernel
theorem dX9_strokeRow_0 : decode cX9_strokeRow 0 = .ok (.aload_n 0, 1) := by decide +kernel
theorem dX9_strokeRow_1 : decode cX9_strokeRow 1 = .ok (.getfield 199, 3) := by decide +kernel
theorem dX9_strokeRow_4 : decode cX9_strokeRow 4 = .ok (.iconst 2, 1) := by decide +kernel
theorem dX9_strokeRow_5 : decode cX9_strokeRow 5 = .ok (.if_icmp .ge 4, 3) := by decide +kernel
theorem dX9_strokeRow_8 : decode cX9_strokeRow 8 = .ok (.return_, 1) := by decide +kernel
theorem dX9_strokeRow_9 : decode cX9_strokeRow 9 = .ok (.aload_n 0, 1) := by decide +kernel
theorem dX9_strokeRow_10 : decode cX9_strokeRow 10 = .ok (.getfield 86, 3) := by decide +kernel
theorem dX9_strokeRow_13 : decode cX9_strokeRow 13 = .ok (.ifCond .le 9, 3) := by decide +kernel
theorem dX9_strokeRow_16 : decode cX9_strokeRow 16 = .ok (.aload_n 0, 1) := by decide +kernel
theorem dX9_strokeRow_17 : decode cX9_strokeRow 17 = .ok (.iload_n 1, 1) := by decide +kernel
theorem dX9_strokeRow_18 : decode cX9_strokeRow 18 = .ok (.invokevirtual 206, 3) := by decide +kernel
theorem dX9_strokeRow_21 : decode cX9_strokeRow 21 = .ok (.return_, 1) := by decide +kernel
theorem dX9_strokeRow_22 : decode cX9_strokeRow 22 = .ok (.aload_n 0, 1) := by decide +kernel
theorem dX9_strokeRow_23 : decode cX9_strokeRow 23 = .ok (.iconst 0, 1) := by decide +kernel
theorem dX9_strokeRow_24 : decode cX9_strokeRow 24 = .ok (.putfield 146, 3) := by decide +kernel
theorem dX9_strokeRow_27 : decode cX9_strokeRow 27 = .ok (.iconst 0, 1) := by decide +kernel
theorem dX9_strokeRow_28 : decode cX9_strokeRow 28 = .ok (.istore_n 2, 1) := by decide +kernel
theorem dX9_strokeRow_29 : decode cX9_strokeRow 29 = .ok (.iload_n 2, 1) := by decide +kernel
theorem dX9_strokeRow_30 : decode cX9_strokeRow 30 = .ok (.aload_n 0, 1) := by decide +kernel
theorem dX9_strokeRow_31 : decode cX9_strokeRow 31 = .ok (.getfield 199, 3) := by decide +kernel
theorem dX9_strokeRow_34 : decode cX9_strokeRow 34 = .ok (.if_icmp .ge 27, 3) := by decide +kernel
theorem dX9_strokeRow_37 : decode cX9_strokeRow 37 = .ok (.aload_n 0, 1) := by decide +kernel
theorem dX9_strokeRow_38 : decode cX9_strokeRow 38 = .ok (.aload_n 0, 1) := by decide +kernel
theorem dX9_strokeRow_39 : decode cX9_strokeRow 39 = .ok (.getfield 41, 3) := by decide +kernel
theorem dX9_strokeRow_42 : decode cX9_strokeRow 42 = .ok (.iload_n 2, 1) := by decide +kernel
theorem dX9_strokeRow_43 : decode cX9_strokeRow 43 = .ok (.iaload, 1) := by decide +kernel
theorem dX9_strokeRow_44 : decode cX9_strokeRow 44 = .ok (.i2l, 1) := by decide +kernel
theorem dX9_strokeRow_45 : decode cX9_strokeRow 45 = .ok (.aload_n 0, 1) := by decide +kernel
theorem dX9_strokeRow_46 : decode cX9_strokeRow 46 = .ok (.getfield 44, 3) := by decide +kernel
theorem dX9_strokeRow_49 : decode cX9_strokeRow 49 = .ok (.iload_n 2, 1) := by decide +kernel
theorem dX9_strokeRow_50 : decode cX9_strokeRow 50 = .ok (.iaload, 1) := by decide +kernel
theorem dX9_strokeRow_51 : decode cX9_strokeRow 51 = .ok (.i2l, 1) := by decide +kernel
theorem dX9_strokeRow_52 : decode cX9_strokeRow 52 = .ok (.invokevirtual 149, 3) := by decide +kernel
theorem dX9_strokeRow_55 : decode cX9_strokeRow 55 = .ok (.iinc 2 1, 3) := by decide +kernel
theorem dX9_strokeRow_58 : decode cX9_strokeRow 58 = .ok (.goto (-29), 3) := by decide +kernel
theorem dX9_strokeRow_61 : decode cX9_strokeRow 61 = .ok (.aload_n 0, 1) := by decide +kernel
theorem dX9_strokeRow_62 : decode cX9_strokeRow 62 = .ok (.iload_n 1, 1) := by decide +kernel
theorem dX9_strokeRow_63 : decode cX9_strokeRow 63 = .ok (.invokevirtual 186, 3) := by decide +kernel
theorem dX9_strokeRow_66 : decode cX9_strokeRow 66 = .ok (.return_, 1) := by decide +kernel
theorem dX9_take_0 : decode cX9_take 0 = .ok (.aload_n 0, 1) := by decide +kernel
theorem dX9_take_1 : decode cX9_take 1 = .ok (.getfield 102, 3) := by decide +kernel
theorem dX9_take_4 : decode cX9_take 4 = .ok (.ifCond .eq 4, 3) := by decide +kernel
theorem dX9_take_7 : decode cX9_take 7 = .ok (.return_, 1) := by decide +kernel
theorem dX9_take_8 : decode cX9_take 8 = .ok (.aload_n 0, 1) := by decide +kernel
theorem dX9_take_9 : decode cX9_take 9 = .ok (.getfield 177, 3) := by decide +kernel
theorem dX9_take_12 : decode cX9_take 12 = .ok (.sipush 20000, 3) := by decide +kernel
theorem dX9_take_15 : decode cX9_take 15 = .ok (.if_icmp .ne 12, 3) := by decide +kernel
theorem dX9_take_18 : decode cX9_take 18 = .ok (.aload_n 0, 1) := by decide +kernel
theorem dX9_take_19 : decode cX9_take 19 = .ok (.bipush (-3), 2) := by decide +kernel
theorem dX9_take_21 : decode cX9_take 21 = .ok (.putfield 102, 3) := by decide +kernel
theorem dX9_take_24 : decode cX9_take 24 = .ok (.goto 13, 3) := by decide +kernel
theorem dX9_take_27 : decode cX9_take 27 = .ok (.aload_n 0, 1) := by decide +kernel
theorem dX9_take_28 : decode cX9_take 28 = .ok (.dup, 1) := by decide +kernel
theorem dX9_take_29 : decode cX9_take 29 = .ok (.getfield 177, 3) := by decide +kernel
theorem dX9_take_32 : decode cX9_take 32 = .ok (.iconst 1, 1) := by decide +kernel
theorem dX9_take_33 : decode cX9_take 33 = .ok (.iadd, 1) := by decide +kernel
theorem dX9_take_34 : decode cX9_take 34 = .ok (.putfield 177, 3) := by decide +kernel
theorem dX9_take_37 : decode cX9_take 37 = .ok (.return_, 1) := by decide +kernel
theorem dX9_walk_0 : decode cX9_walk 0 = .ok (.lload 5, 2) := by decide +kernel
theorem dX9_walk_2 : decode cX9_walk 2 = .ok (.lload_n 1, 1) := by decide +kernel
theorem dX9_walk_3 : decode cX9_walk 3 = .ok (.lsub, 1) := by decide +kernel
theorem dX9_walk_4 : decode cX9_walk 4 = .ok (.lstore 9, 2) := by decide +kernel
theorem dX9_walk_6 : decode cX9_walk 6 = .ok (.lload 7, 2) := by decide +kernel
theorem dX9_walk_8 : decode cX9_walk 8 = .ok (.lload_n 3, 1) := by decide +kernel
theorem dX9_walk_9 : decode cX9_walk 9 = .ok (.lsub, 1) := by decide +kernel
theorem dX9_walk_10 : decode cX9_walk 10 = .ok (.lstore 11, 2) := by decide +kernel
theorem dX9_walk_12 : decode cX9_walk 12 = .ok (.lload 9, 2) := by decide +kernel
theorem dX9_walk_14 : decode cX9_walk 14 = .ok (.lload 11, 2) := by decide +kernel
theorem dX9_walk_16 : decode cX9_walk 16 = .ok (.invokestatic 116, 3) := by decide +kernel
theorem dX9_walk_19 : decode cX9_walk 19 = .ok (.lstore 13, 2) := by decide +kernel
theorem dX9_walk_21 : decode cX9_walk 21 = .ok (.lconst 0, 1) := by decide +kernel
theorem dX9_walk_22 : decode cX9_walk 22 = .ok (.lstore 15, 2) := by decide +kernel
theorem dX9_walk_24 : decode cX9_walk 24 = .ok (.aload_n 0, 1) := by decide +kernel
theorem dX9_walk_25 : decode cX9_walk 25 = .ok (.getfield 102, 3) := by decide +kernel
theorem dX9_walk_28 : decode cX9_walk 28 = .ok (.ifCond .ne 98, 3) := by decide +kernel
theorem dX9_walk_31 : decode cX9_walk 31 = .ok (.aload_n 0, 1) := by decide +kernel
theorem dX9_walk_32 : decode cX9_walk 32 = .ok (.getfield 174, 3) := by decide +kernel
theorem dX9_walk_35 : decode cX9_walk 35 = .ok (.lload 13, 2) := by decide +kernel
theorem dX9_walk_37 : decode cX9_walk 37 = .ok (.lload 15, 2) := by decide +kernel
theorem dX9_walk_39 : decode cX9_walk 39 = .ok (.lsub, 1) := by decide +kernel
theorem dX9_walk_40 : decode cX9_walk 40 = .ok (.lcmp, 1) := by decide +kernel
theorem dX9_walk_41 : decode cX9_walk 41 = .ok (.ifCond .ge 85, 3) := by decide +kernel
theorem dX9_walk_44 : decode cX9_walk 44 = .ok (.lload 15, 2) := by decide +kernel
theorem dX9_walk_46 : decode cX9_walk 46 = .ok (.aload_n 0, 1) := by decide +kernel
theorem dX9_walk_47 : decode cX9_walk 47 = .ok (.getfield 174, 3) := by decide +kernel
theorem dX9_walk_50 : decode cX9_walk 50 = .ok (.ladd, 1) := by decide +kernel
theorem dX9_walk_51 : decode cX9_walk 51 = .ok (.lstore 15, 2) := by decide +kernel
theorem dX9_walk_53 : decode cX9_walk 53 = .ok (.lload_n 1, 1) := by decide +kernel
theorem dX9_walk_54 : decode cX9_walk 54 = .ok (.lload 9, 2) := by decide +kernel
theorem dX9_walk_56 : decode cX9_walk 56 = .ok (.lload 15, 2) := by decide +kernel
theorem dX9_walk_58 : decode cX9_walk 58 = .ok (.lmul, 1) := by decide +kernel
theorem dX9_walk_59 : decode cX9_walk 59 = .ok (.lload 13, 2) := by decide +kernel
theorem dX9_walk_61 : decode cX9_walk 61 = .ok (.invokestatic 119, 3) := by decide +kernel
theorem dX9_walk_64 : decode cX9_walk 64 = .ok (.ladd, 1) := by decide +kernel
theorem dX9_walk_65 : decode cX9_walk 65 = .ok (.lstore 17, 2) := by decide +kernel
theorem dX9_walk_67 : decode cX9_walk 67 = .ok (.lload_n 3, 1) := by decide +kernel
theorem dX9_walk_68 : decode cX9_walk 68 = .ok (.lload 11, 2) := by decide +kernel
theorem dX9_walk_70 : decode cX9_walk 70 = .ok (.lload 15, 2) := by decide +kernel
theorem dX9_walk_72 : decode cX9_walk 72 = .ok (.lmul, 1) := by decide +kernel
theorem dX9_walk_73 : decode cX9_walk 73 = .ok (.lload 13, 2) := by decide +kernel
theorem dX9_walk_75 : decode cX9_walk 75 = .ok (.invokestatic 119, 3) := by decide +kernel
theorem dX9_walk_78 : decode cX9_walk 78 = .ok (.ladd, 1) := by decide +kernel
theorem dX9_walk_79 : decode cX9_walk 79 = .ok (.lstore 19, 2) := by decide +kernel
theorem dX9_walk_81 : decode cX9_walk 81 = .ok (.aload_n 0, 1) := by decide +kernel
theorem dX9_walk_82 : decode cX9_walk 82 = .ok (.getfield 170, 3) := by decide +kernel
theorem dX9_walk_85 : decode cX9_walk 85 = .ok (.ifCond .ne 11, 3) := by decide +kernel
theorem dX9_walk_88 : decode cX9_walk 88 = .ok (.aload_n 0, 1) := by decide +kernel
theorem dX9_walk_89 : decode cX9_walk 89 = .ok (.lload 17, 2) := by decide +kernel
theorem dX9_walk_91 : decode cX9_walk 91 = .ok (.lload 19, 2) := by decide +kernel
theorem dX9_walk_93 : decode cX9_walk 93 = .ok (.invokevirtual 190, 3) := by decide +kernel
theorem dX9_walk_96 : decode cX9_walk 96 = .ok (.aload_n 0, 1) := by decide +kernel
theorem dX9_walk_97 : decode cX9_walk 97 = .ok (.invokevirtual 193, 3) := by decide +kernel
theorem dX9_walk_100 : decode cX9_walk 100 = .ok (.aload_n 0, 1) := by decide +kernel
theorem dX9_walk_101 : decode cX9_walk 101 = .ok (.invokevirtual 183, 3) := by decide +kernel
theorem dX9_walk_104 : decode cX9_walk 104 = .ok (.aload_n 0, 1) := by decide +kernel
theorem dX9_walk_105 : decode cX9_walk 105 = .ok (.invokevirtual 180, 3) := by decide +kernel
theorem dX9_walk_108 : decode cX9_walk 108 = .ok (.aload_n 0, 1) := by decide +kernel
theorem dX9_walk_109 : decode cX9_walk 109 = .ok (.getfield 170, 3) := by decide +kernel
theorem dX9_walk_112 : decode cX9_walk 112 = .ok (.ifCond .ne 11, 3) := by decide +kernel
theorem dX9_walk_115 : decode cX9_walk 115 = .ok (.aload_n 0, 1) := by decide +kernel
theorem dX9_walk_116 : decode cX9_walk 116 = .ok (.lload 17, 2) := by decide +kernel
theorem dX9_walk_118 : decode cX9_walk 118 = .ok (.lload 19, 2) := by decide +kernel
theorem dX9_walk_120 : decode cX9_walk 120 = .ok (.invokevirtual 190, 3) := by decide +kernel
theorem dX9_walk_123 : decode cX9_walk 123 = .ok (.goto (-99), 3) := by decide +kernel
theorem dX9_walk_126 : decode cX9_walk 126 = .ok (.aload_n 0, 1) := by decide +kernel
theorem dX9_walk_127 : decode cX9_walk 127 = .ok (.dup, 1) := by decide +kernel
theorem dX9_walk_128 : decode cX9_walk 128 = .ok (.getfield 174, 3) := by decide +kernel
theorem dX9_walk_131 : decode cX9_walk 131 = .ok (.lload 13, 2) := by decide +kernel
theorem dX9_walk_133 : decode cX9_walk 133 = .ok (.lload 15, 2) := by decide +kernel
theorem dX9_walk_135 : decode cX9_walk 135 = .ok (.lsub, 1) := by decide +kernel
theorem dX9_walk_136 : decode cX9_walk 136 = .ok (.lsub, 1) := by decide +kernel
theorem dX9_walk_137 : decode cX9_walk 137 = .ok (.putfield 174, 3) := by decide +kernel
theorem dX9_walk_140 : decode cX9_walk 140 = .ok (.aload_n 0, 1) := by decide +kernel
theorem dX9_walk_141 : decode cX9_walk 141 = .ok (.getfield 170, 3) := by decide +kernel
theorem dX9_walk_144 : decode cX9_walk 144 = .ok (.ifCond .ne 11, 3) := by decide +kernel
theorem dX9_walk_147 : decode cX9_walk 147 = .ok (.aload_n 0, 1) := by decide +kernel
theorem dX9_walk_148 : decode cX9_walk 148 = .ok (.lload 5, 2) := by decide +kernel
theorem dX9_walk_150 : decode cX9_walk 150 = .ok (.lload 7, 2) := by decide +kernel
theorem dX9_walk_152 : decode cX9_walk 152 = .ok (.invokevirtual 190, 3) := by decide +kernel
theorem dX9_walk_155 : decode cX9_walk 155 = .ok (.return_, 1) := by decide +kernel
theorem dX9_walkRow_0 : decode cX9_walkRow 0 = .ok (.aload_n 0, 1) := by decide +kernel
theorem dX9_walkRow_1 : decode cX9_walkRow 1 = .ok (.invokevirtual 196, 3) := by decide +kernel
theorem dX9_walkRow_4 : decode cX9_walkRow 4 = .ok (.aload_n 0, 1) := by decide +kernel
theorem dX9_walkRow_5 : decode cX9_walkRow 5 = .ok (.iconst 0, 1) := by decide +kernel
theorem dX9_walkRow_6 : decode cX9_walkRow 6 = .ok (.putfield 146, 3) := by decide +kernel
theorem dX9_walkRow_9 : decode cX9_walkRow 9 = .ok (.aload_n 0, 1) := by decide +kernel
theorem dX9_walkRow_10 : decode cX9_walkRow 10 = .ok (.getfield 170, 3) := by decide +kernel
theorem dX9_walkRow_13 : decode cX9_walkRow 13 = .ok (.ifCond .ne 21, 3) := by decide +kernel
theorem dX9_walkRow_16 : decode cX9_walkRow 16 = .ok (.aload_n 0, 1) := by decide +kernel
theorem dX9_walkRow_17 : decode cX9_walkRow 17 = .ok (.aload_n 0, 1) := by decide +kernel
theorem dX9_walkRow_18 : decode cX9_walkRow 18 = .ok (.getfield 41, 3) := by decide +kernel
theorem dX9_walkRow_21 : decode cX9_walkRow 21 = .ok (.iconst 0, 1) := by decide +kernel
theorem dX9_walkRow_22 : decode cX9_walkRow 22 = .ok (.iaload, 1) := by decide +kernel
theorem dX9_walkRow_23 : decode cX9_walkRow 23 = .ok (.i2l, 1) := by decide +kernel
theorem dX9_walkRow_24 : decode cX9_walkRow 24 = .ok (.aload_n 0, 1) := by decide +kernel
theorem dX9_walkRow_25 : decode cX9_walkRow 25 = .ok (.getfield 44, 3) := by decide +kernel
theorem dX9_walkRow_28 : decode cX9_walkRow 28 = .ok (.iconst 0, 1) := by decide +kernel
theorem dX9_walkRow_29 : decode cX9_walkRow 29 = .ok (.iaload, 1) := by decide +kernel
theorem dX9_walkRow_30 : decode cX9_walkRow 30 = .ok (.i2l, 1) := by decide +kernel
theorem dX9_walkRow_31 : decode cX9_walkRow 31 = .ok (.invokevirtual 190, 3) := by decide +kernel
theorem dX9_walkRow_34 : decode cX9_walkRow 34 = .ok (.iconst 0, 1) := by decide +kernel
theorem dX9_walkRow_35 : decode cX9_walkRow 35 = .ok (.istore_n 2, 1) := by decide +kernel
theorem dX9_walkRow_36 : decode cX9_walkRow 36 = .ok (.iload_n 2, 1) := by decide +kernel
theorem dX9_walkRow_37 : decode cX9_walkRow 37 = .ok (.iconst 1, 1) := by decide +kernel
theorem dX9_walkRow_38 : decode cX9_walkRow 38 = .ok (.iadd, 1) := by decide +kernel
theorem dX9_walkRow_39 : decode cX9_walkRow 39 = .ok (.aload_n 0, 1) := by decide +kernel
theorem dX9_walkRow_40 : decode cX9_walkRow 40 = .ok (.getfield 199, 3) := by decide +kernel
theorem dX9_walkRow_43 : decode cX9_walkRow 43 = .ok (.if_icmp .ge 45, 3) := by decide +kernel
theorem dX9_walkRow_46 : decode cX9_walkRow 46 = .ok (.aload_n 0, 1) := by decide +kernel
theorem dX9_walkRow_47 : decode cX9_walkRow 47 = .ok (.aload_n 0, 1) := by decide +kernel
theorem dX9_walkRow_48 : decode cX9_walkRow 48 = .ok (.getfield 41, 3) := by decide +kernel
theorem dX9_walkRow_51 : decode cX9_walkRow 51 = .ok (.iload_n 2, 1) := by decide +kernel
theorem dX9_walkRow_52 : decode cX9_walkRow 52 = .ok (.iaload, 1) := by decide +kernel
theorem dX9_walkRow_53 : decode cX9_walkRow 53 = .ok (.i2l, 1) := by decide +kernel
theorem dX9_walkRow_54 : decode cX9_walkRow 54 = .ok (.aload_n 0, 1) := by decide +kernel
theorem dX9_walkRow_55 : decode cX9_walkRow 55 = .ok (.getfield 44, 3) := by decide +kernel
theorem dX9_walkRow_58 : decode cX9_walkRow 58 = .ok (.iload_n 2, 1) := by decide +kernel
theorem dX9_walkRow_59 : decode cX9_walkRow 59 = .ok (.iaload, 1) := by decide +kernel
theorem dX9_walkRow_60 : decode cX9_walkRow 60 = .ok (.i2l, 1) := by decide +kernel
theorem dX9_walkRow_61 : decode cX9_walkRow 61 = .ok (.aload_n 0, 1) := by decide +kernel
theorem dX9_walkRow_62 : decode cX9_walkRow 62 = .ok (.getfield 41, 3) := by decide +kernel
theorem dX9_walkRow_65 : decode cX9_walkRow 65 = .ok (.iload_n 2, 1) := by decide +kernel
theorem dX9_walkRow_66 : decode cX9_walkRow 66 = .ok (.iconst 1, 1) := by decide +kernel
theorem dX9_walkRow_67 : decode cX9_walkRow 67 = .ok (.iadd, 1) := by decide +kernel
theorem dX9_walkRow_68 : decode cX9_walkRow 68 = .ok (.iaload, 1) := by decide +kernel
theorem dX9_walkRow_69 : decode cX9_walkRow 69 = .ok (.i2l, 1) := by decide +kernel
theorem dX9_walkRow_70 : decode cX9_walkRow 70 = .ok (.aload_n 0, 1) := by decide +kernel
theorem dX9_walkRow_71 : decode cX9_walkRow 71 = .ok (.getfield 44, 3) := by decide +kernel
theorem dX9_walkRow_74 : decode cX9_walkRow 74 = .ok (.iload_n 2, 1) := by decide +kernel
theorem dX9_walkRow_75 : decode cX9_walkRow 75 = .ok (.iconst 1, 1) := by decide +kernel
theorem dX9_walkRow_76 : decode cX9_walkRow 76 = .ok (.iadd, 1) := by decide +kernel
theorem dX9_walkRow_77 : decode cX9_walkRow 77 = .ok (.iaload, 1) := by decide +kernel
theorem dX9_walkRow_78 : decode cX9_walkRow 78 = .ok (.i2l, 1) := by decide +kernel
theorem dX9_walkRow_79 : decode cX9_walkRow 79 = .ok (.invokevirtual 202, 3) := by decide +kernel
theorem dX9_walkRow_82 : decode cX9_walkRow 82 = .ok (.iinc 2 1, 3) := by decide +kernel
theorem dX9_walkRow_85 : decode cX9_walkRow 85 = .ok (.goto (-49), 3) := by decide +kernel
theorem dX9_walkRow_88 : decode cX9_walkRow 88 = .ok (.iload_n 1, 1) := by decide +kernel
theorem dX9_walkRow_89 : decode cX9_walkRow 89 = .ok (.ifCond .eq 45, 3) := by decide +kernel
theorem dX9_walkRow_92 : decode cX9_walkRow 92 = .ok (.aload_n 0, 1) := by decide +kernel
theorem dX9_walkRow_93 : decode cX9_walkRow 93 = .ok (.aload_n 0, 1) := by decide +kernel
theorem dX9_walkRow_94 : decode cX9_walkRow 94 = .ok (.getfield 41, 3) := by decide +kernel
theorem dX9_walkRow_97 : decode cX9_walkRow 97 = .ok (.aload_n 0, 1) := by decide +kernel
theorem dX9_walkRow_98 : decode cX9_walkRow 98 = .ok (.getfield 199, 3) := by decide +kernel
theorem dX9_walkRow_101 : decode cX9_walkRow 101 = .ok (.iconst 1, 1) := by decide +kernel
theorem dX9_walkRow_102 : decode cX9_walkRow 102 = .ok (.isub, 1) := by decide +kernel
theorem dX9_walkRow_103 : decode cX9_walkRow 103 = .ok (.iaload, 1) := by decide +kernel
theorem dX9_walkRow_104 : decode cX9_walkRow 104 = .ok (.i2l, 1) := by decide +kernel
theorem dX9_walkRow_105 : decode cX9_walkRow 105 = .ok (.aload_n 0, 1) := by decide +kernel
theorem dX9_walkRow_106 : decode cX9_walkRow 106 = .ok (.getfield 44, 3) := by decide +kernel
theorem dX9_walkRow_109 : decode cX9_walkRow 109 = .ok (.aload_n 0, 1) := by decide +kernel
theorem dX9_walkRow_110 : decode cX9_walkRow 110 = .ok (.getfield 199, 3) := by decide +kernel
theorem dX9_walkRow_113 : decode cX9_walkRow 113 = .ok (.iconst 1, 1) := by decide +kernel
theorem dX9_walkRow_114 : decode cX9_walkRow 114 = .ok (.isub, 1) := by decide +kernel
theorem dX9_walkRow_115 : decode cX9_walkRow 115 = .ok (.iaload, 1) := by decide +kernel
theorem dX9_walkRow_116 : decode cX9_walkRow 116 = .ok (.i2l, 1) := by decide +kernel
theorem dX9_walkRow_117 : decode cX9_walkRow 117 = .ok (.aload_n 0, 1) := by decide +kernel
theorem dX9_walkRow_118 : decode cX9_walkRow 118 = .ok (.getfield 41, 3) := by decide +kernel
theorem dX9_walkRow_121 : decode cX9_walkRow 121 = .ok (.iconst 0, 1) := by decide +kernel
theorem dX9_walkRow_122 : decode cX9_walkRow 122 = .ok (.iaload, 1) := by decide +kernel
theorem dX9_walkRow_123 : decode cX9_walkRow 123 = .ok (.i2l, 1) := by decide +kernel
theorem dX9_walkRow_124 : decode cX9_walkRow 124 = .ok (.aload_n 0, 1) := by decide +kernel
theorem dX9_walkRow_125 : decode cX9_walkRow 125 = .ok (.getfield 44, 3) := by decide +kernel
theorem dX9_walkRow_128 : decode cX9_walkRow 128 = .ok (.iconst 0, 1) := by decide +kernel
theorem dX9_walkRow_129 : decode cX9_walkRow 129 = .ok (.iaload, 1) := by decide +kernel
theorem dX9_walkRow_130 : decode cX9_walkRow 130 = .ok (.i2l, 1) := by decide +kernel
theorem dX9_walkRow_131 : decode cX9_walkRow 131 = .ok (.invokevirtual 202, 3) := by decide +kernel
theorem dX9_walkRow_134 : decode cX9_walkRow 134 = .ok (.aload_n 0, 1) := by decide +kernel
theorem dX9_walkRow_135 : decode cX9_walkRow 135 = .ok (.invokevirtual 193, 3) := by decide +kernel
theorem dX9_walkRow_138 : decode cX9_walkRow 138 = .ok (.return_, 1) := by decide +kernel
theorem dX9_walked_0 : decode cX9_walked 0 = .ok (.aload_n 0, 1) := by decide +kernel
theorem dX9_walked_1 : decode cX9_walked 1 = .ok (.getfield 216, 3) := by decide +kernel
theorem dX9_walked_4 : decode cX9_walked 4 = .ok (.ireturn, 1) := by decide +kernel
