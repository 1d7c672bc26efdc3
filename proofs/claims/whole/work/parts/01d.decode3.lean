theorem dX4_dropLastLikeFirst_4 : decode cX4_dropLastLikeFirst 4 = .ok (.iconst 1, 1) := by decide +kernel
theorem dX4_dropLastLikeFirst_5 : decode cX4_dropLastLikeFirst 5 = .ok (.isub, 1) := by decide +kernel
theorem dX4_dropLastLikeFirst_6 : decode cX4_dropLastLikeFirst 6 = .ok (.istore_n 1, 1) := by decide +kernel
theorem dX4_dropLastLikeFirst_7 : decode cX4_dropLastLikeFirst 7 = .ok (.aload_n 0, 1) := by decide +kernel
theorem dX4_dropLastLikeFirst_8 : decode cX4_dropLastLikeFirst 8 = .ok (.getfield 22, 3) := by decide +kernel
theorem dX4_dropLastLikeFirst_11 : decode cX4_dropLastLikeFirst 11 = .ok (.ifCond .eq 55, 3) := by decide +kernel
theorem dX4_dropLastLikeFirst_14 : decode cX4_dropLastLikeFirst 14 = .ok (.iload_n 1, 1) := by decide +kernel
theorem dX4_dropLastLikeFirst_15 : decode cX4_dropLastLikeFirst 15 = .ok (.ifCond .le 51, 3) := by decide +kernel
theorem dX4_dropLastLikeFirst_18 : decode cX4_dropLastLikeFirst 18 = .ok (.iload_n 1, 1) := by decide +kernel
theorem dX4_dropLastLikeFirst_19 : decode cX4_dropLastLikeFirst 19 = .ok (.sipush 2002, 3) := by decide +kernel
theorem dX4_dropLastLikeFirst_22 : decode cX4_dropLastLikeFirst 22 = .ok (.if_icmp .ge 44, 3) := by decide +kernel
theorem dX4_dropLastLikeFirst_25 : decode cX4_dropLastLikeFirst 25 = .ok (.aload_n 0, 1) := by decide +kernel
theorem dX4_dropLastLikeFirst_26 : decode cX4_dropLastLikeFirst 26 = .ok (.getfield 9, 3) := by decide +kernel
theorem dX4_dropLastLikeFirst_29 : decode cX4_dropLastLikeFirst 29 = .ok (.iload_n 1, 1) := by decide +kernel
theorem dX4_dropLastLikeFirst_30 : decode cX4_dropLastLikeFirst 30 = .ok (.iaload, 1) := by decide +kernel
theorem dX4_dropLastLikeFirst_31 : decode cX4_dropLastLikeFirst 31 = .ok (.aload_n 0, 1) := by decide +kernel
theorem dX4_dropLastLikeFirst_32 : decode cX4_dropLastLikeFirst 32 = .ok (.getfield 9, 3) := by decide +kernel
theorem dX4_dropLastLikeFirst_35 : decode cX4_dropLastLikeFirst 35 = .ok (.iconst 0, 1) := by decide +kernel
theorem dX4_dropLastLikeFirst_36 : decode cX4_dropLastLikeFirst 36 = .ok (.iaload, 1) := by decide +kernel
theorem dX4_dropLastLikeFirst_37 : decode cX4_dropLastLikeFirst 37 = .ok (.if_icmp .ne 29, 3) := by decide +kernel
theorem dX4_dropLastLikeFirst_40 : decode cX4_dropLastLikeFirst 40 = .ok (.aload_n 0, 1) := by decide +kernel
theorem dX4_dropLastLikeFirst_41 : decode cX4_dropLastLikeFirst 41 = .ok (.getfield 15, 3) := by decide +kernel
theorem dX4_dropLastLikeFirst_44 : decode cX4_dropLastLikeFirst 44 = .ok (.iload_n 1, 1) := by decide +kernel
theorem dX4_dropLastLikeFirst_45 : decode cX4_dropLastLikeFirst 45 = .ok (.iaload, 1) := by decide +kernel
theorem dX4_dropLastLikeFirst_46 : decode cX4_dropLastLikeFirst 46 = .ok (.aload_n 0, 1) := by decide +kernel
theorem dX4_dropLastLikeFirst_47 : decode cX4_dropLastLikeFirst 47 = .ok (.getfield 15, 3) := by decide +kernel
theorem dX4_dropLastLikeFirst_50 : decode cX4_dropLastLikeFirst 50 = .ok (.iconst 0, 1) := by decide +kernel
theorem dX4_dropLastLikeFirst_51 : decode cX4_dropLastLikeFirst 51 = .ok (.iaload, 1) := by decide +kernel
theorem dX4_dropLastLikeFirst_52 : decode cX4_dropLastLikeFirst 52 = .ok (.if_icmp .ne 14, 3) := by decide +kernel
theorem dX4_dropLastLikeFirst_55 : decode cX4_dropLastLikeFirst 55 = .ok (.aload_n 0, 1) := by decide +kernel
theorem dX4_dropLastLikeFirst_56 : decode cX4_dropLastLikeFirst 56 = .ok (.iload_n 1, 1) := by decide +kernel
theorem dX4_dropLastLikeFirst_57 : decode cX4_dropLastLikeFirst 57 = .ok (.putfield 18, 3) := by decide +kernel
theorem dX4_dropLastLikeFirst_60 : decode cX4_dropLastLikeFirst 60 = .ok (.iinc 1 (-1), 3) := by decide +kernel
theorem dX4_dropLastLikeFirst_63 : decode cX4_dropLastLikeFirst 63 = .ok (.goto (-56), 3) := by decide +kernel
theorem dX4_dropLastLikeFirst_66 : decode cX4_dropLastLikeFirst 66 = .ok (.return_, 1) := by decide +kernel
theorem dX4_init_0 : decode cX4_init 0 = .ok (.aload_n 0, 1) := by decide +kernel
theorem dX4_init_1 : decode cX4_init 1 = .ok (.invokespecial 3, 3) := by decide +kernel
theorem dX4_init_4 : decode cX4_init 4 = .ok (.aload_n 0, 1) := by decide +kernel
theorem dX4_init_5 : decode cX4_init 5 = .ok (.sipush 2002, 3) := by decide +kernel
theorem dX4_init_8 : decode cX4_init 8 = .ok (.newarray .int, 2) := by decide +kernel
theorem dX4_init_10 : decode cX4_init 10 = .ok (.putfield 9, 3) := by decide +kernel
theorem dX4_init_13 : decode cX4_init 13 = .ok (.aload_n 0, 1) := by decide +kernel
theorem dX4_init_14 : decode cX4_init 14 = .ok (.sipush 2002, 3) := by decide +kernel
theorem dX4_init_17 : decode cX4_init 17 = .ok (.newarray .int, 2) := by decide +kernel
theorem dX4_init_19 : decode cX4_init 19 = .ok (.putfield 15, 3) := by decide +kernel
theorem dX4_init_22 : decode cX4_init 22 = .ok (.return_, 1) := by decide +kernel
theorem dX4_inside_0 : decode cX4_inside 0 = .ok (.iload_n 1, 1) := by decide +kernel
theorem dX4_inside_1 : decode cX4_inside 1 = .ok (.ifCond .lt 22, 3) := by decide +kernel
theorem dX4_inside_4 : decode cX4_inside 4 = .ok (.iload_n 1, 1) := by decide +kernel
theorem dX4_inside_5 : decode cX4_inside 5 = .ok (.aload_n 0, 1) := by decide +kernel
theorem dX4_inside_6 : decode cX4_inside 6 = .ok (.getfield 18, 3) := by decide +kernel
theorem dX4_inside_9 : decode cX4_inside 9 = .ok (.if_icmp .ge 14, 3) := by decide +kernel
theorem dX4_inside_12 : decode cX4_inside 12 = .ok (.iload_n 1, 1) := by decide +kernel
theorem dX4_inside_13 : decode cX4_inside 13 = .ok (.sipush 2002, 3) := by decide +kernel
theorem dX4_inside_16 : decode cX4_inside 16 = .ok (.if_icmp .ge 7, 3) := by decide +kernel
theorem dX4_inside_19 : decode cX4_inside 19 = .ok (.iload_n 1, 1) := by decide +kernel
theorem dX4_inside_20 : decode cX4_inside 20 = .ok (.goto 4, 3) := by decide +kernel
theorem dX4_inside_23 : decode cX4_inside 23 = .ok (.iconst 0, 1) := by decide +kernel
theorem dX4_inside_24 : decode cX4_inside 24 = .ok (.ireturn, 1) := by decide +kernel
theorem dX4_isRing_0 : decode cX4_isRing 0 = .ok (.aload_n 0, 1) := by decide +kernel
theorem dX4_isRing_1 : decode cX4_isRing 1 = .ok (.getfield 22, 3) := by decide +kernel
theorem dX4_isRing_4 : decode cX4_isRing 4 = .ok (.ireturn, 1) := by decide +kernel
theorem dX4_segments_0 : decode cX4_segments 0 = .ok (.aload_n 0, 1) := by decide +kernel
theorem dX4_segments_1 : decode cX4_segments 1 = .ok (.getfield 18, 3) := by decide +kernel
theorem dX4_segments_4 : decode cX4_segments 4 = .ok (.iconst 2, 1) := by decide +kernel
theorem dX4_segments_5 : decode cX4_segments 5 = .ok (.if_icmp .ge 5, 3) := by decide +kernel
theorem dX4_segments_8 : decode cX4_segments 8 = .ok (.iconst 0, 1) := by decide +kernel
theorem dX4_segments_9 : decode cX4_segments 9 = .ok (.ireturn, 1) := by decide +kernel
theorem dX4_segments_10 : decode cX4_segments 10 = .ok (.aload_n 0, 1) := by decide +kernel
theorem dX4_segments_11 : decode cX4_segments 11 = .ok (.getfield 22, 3) := by decide +kernel
theorem dX4_segments_14 : decode cX4_segments 14 = .ok (.ifCond .eq 10, 3) := by decide +kernel
theorem dX4_segments_17 : decode cX4_segments 17 = .ok (.aload_n 0, 1) := by decide +kernel
theorem dX4_segments_18 : decode cX4_segments 18 = .ok (.getfield 18, 3) := by decide +kernel
theorem dX4_segments_21 : decode cX4_segments 21 = .ok (.goto 9, 3) := by decide +kernel
theorem dX4_segments_24 : decode cX4_segments 24 = .ok (.aload_n 0, 1) := by decide +kernel
theorem dX4_segments_25 : decode cX4_segments 25 = .ok (.getfield 18, 3) := by decide +kernel
theorem dX4_segments_28 : decode cX4_segments 28 = .ok (.iconst 1, 1) := by decide +kernel
theorem dX4_segments_29 : decode cX4_segments 29 = .ok (.isub, 1) := by decide +kernel
theorem dX4_segments_30 : decode cX4_segments 30 = .ok (.ireturn, 1) := by decide +kernel
theorem dX4_start_0 : decode cX4_start 0 = .ok (.aload_n 0, 1) := by decide +kernel
theorem dX4_start_1 : decode cX4_start 1 = .ok (.iconst 0, 1) := by decide +kernel
theorem dX4_start_2 : decode cX4_start 2 = .ok (.putfield 18, 3) := by decide +kernel
theorem dX4_start_5 : decode cX4_start 5 = .ok (.aload_n 0, 1) := by decide +kernel
theorem dX4_start_6 : decode cX4_start 6 = .ok (.iload_n 1, 1) := by decide +kernel
theorem dX4_start_7 : decode cX4_start 7 = .ok (.putfield 22, 3) := by decide +kernel
theorem dX4_start_10 : decode cX4_start 10 = .ok (.return_, 1) := by decide +kernel
theorem dX4_xAt_0 : decode cX4_xAt 0 = .ok (.aload_n 0, 1) := by decide +kernel
theorem dX4_xAt_1 : decode cX4_xAt 1 = .ok (.getfield 9, 3) := by decide +kernel
theorem dX4_xAt_4 : decode cX4_xAt 4 = .ok (.aload_n 0, 1) := by decide +kernel
theorem dX4_xAt_5 : decode cX4_xAt 5 = .ok (.iload_n 1, 1) := by decide +kernel
theorem dX4_xAt_6 : decode cX4_xAt 6 = .ok (.invokevirtual 26, 3) := by decide +kernel
theorem dX4_xAt_9 : decode cX4_xAt 9 = .ok (.iaload, 1) := by decide +kernel
theorem dX4_xAt_10 : decode cX4_xAt 10 = .ok (.ireturn, 1) := by decide +kernel
theorem dX4_yAt_0 : decode cX4_yAt 0 = .ok (.aload_n 0, 1) := by decide +kernel
theorem dX4_yAt_1 : decode cX4_yAt 1 = .ok (.getfield 15, 3) := by decide +kernel
theorem dX4_yAt_4 : decode cX4_yAt 4 = .ok (.aload_n 0, 1) := by decide +kernel
theorem dX4_yAt_5 : decode cX4_yAt 5 = .ok (.iload_n 1, 1) := by decide +kernel
theorem dX4_yAt_6 : decode cX4_yAt 6 = .ok (.invokevirtual 26, 3) := by decide +kernel
theorem dX4_yAt_9 : decode cX4_yAt 9 = .ok (.iaload, 1) := by decide +kernel
theorem dX4_yAt_10 : decode cX4_yAt 10 = .ok (.ireturn, 1) := by decide +kernel
theorem dX5_cutX_0 : decode cX5_cutX 0 = .ok (.aload_n 0, 1) := by decide +kernel
theorem dX5_cutX_1 : decode cX5_cutX 1 = .ok (.getfield 13, 3) := by decide +kernel
theorem dX5_cutX_4 : decode cX5_cutX 4 = .ok (.aload_n 0, 1) := by decide +kernel
theorem dX5_cutX_5 : decode cX5_cutX 5 = .ok (.getfield 31, 3) := by decide +kernel
theorem dX5_cutX_8 : decode cX5_cutX 8 = .ok (.lload_n 1, 1) := by decide +kernel
theorem dX5_cutX_9 : decode cX5_cutX 9 = .ok (.lmul, 1) := by decide +kernel
theorem dX5_cutX_10 : decode cX5_cutX 10 = .ok (.aload_n 0, 1) := by decide +kernel
theorem dX5_cutX_11 : decode cX5_cutX 11 = .ok (.getfield 43, 3) := by decide +kernel
theorem dX5_cutX_14 : decode cX5_cutX 14 = .ok (.invokestatic 46, 3) := by decide +kernel
theorem dX5_cutX_17 : decode cX5_cutX 17 = .ok (.ladd, 1) := by decide +kernel
theorem dX5_cutX_18 : decode cX5_cutX 18 = .ok (.l2i, 1) := by decide +kernel
theorem dX5_cutX_19 : decode cX5_cutX 19 = .ok (.ireturn, 1) := by decide +kernel
theorem dX5_cutY_0 : decode cX5_cutY 0 = .ok (.aload_n 0, 1) := by decide +kernel
theorem dX5_cutY_1 : decode cX5_cutY 1 = .ok (.getfield 22, 3) := by decide +kernel
theorem dX5_cutY_4 : decode cX5_cutY 4 = .ok (.aload_n 0, 1) := by decide +kernel
theorem dX5_cutY_5 : decode cX5_cutY 5 = .ok (.getfield 34, 3) := by decide +kernel
theorem dX5_cutY_8 : decode cX5_cutY 8 = .ok (.lload_n 1, 1) := by decide +kernel
theorem dX5_cutY_9 : decode cX5_cutY 9 = .ok (.lmul, 1) := by decide +kernel
theorem dX5_cutY_10 : decode cX5_cutY 10 = .ok (.aload_n 0, 1) := by decide +kernel
theorem dX5_cutY_11 : decode cX5_cutY 11 = .ok (.getfield 43, 3) := by decide +kernel
theorem dX5_cutY_14 : decode cX5_cutY 14 = .ok (.invokestatic 46, 3) := by decide +kernel
theorem dX5_cutY_17 : decode cX5_cutY 17 = .ok (.ladd, 1) := by decide +kernel
theorem dX5_cutY_18 : decode cX5_cutY 18 = .ok (.l2i, 1) := by decide +kernel
theorem dX5_cutY_19 : decode cX5_cutY 19 = .ok (.ireturn, 1) := by decide +kernel
theorem dX5_init_0 : decode cX5_init 0 = .ok (.aload_n 0, 1) := by decide +kernel
theorem dX5_init_1 : decode cX5_init 1 = .ok (.invokespecial 1, 3) := by decide +kernel
theorem dX5_init_4 : decode cX5_init 4 = .ok (.return_, 1) := by decide +kernel
theorem dX5_set_0 : decode cX5_set 0 = .ok (.aload_n 0, 1) := by decide +kernel
theorem dX5_set_1 : decode cX5_set 1 = .ok (.aload_n 1, 1) := by decide +kernel
theorem dX5_set_2 : decode cX5_set 2 = .ok (.iload_n 2, 1) := by decide +kernel
theorem dX5_set_3 : decode cX5_set 3 = .ok (.invokevirtual 7, 3) := by decide +kernel
theorem dX5_set_6 : decode cX5_set 6 = .ok (.i2l, 1) := by decide +kernel
theorem dX5_set_7 : decode cX5_set 7 = .ok (.putfield 13, 3) := by decide +kernel
theorem dX5_set_10 : decode cX5_set 10 = .ok (.aload_n 0, 1) := by decide +kernel
theorem dX5_set_11 : decode cX5_set 11 = .ok (.aload_n 1, 1) := by decide +kernel
theorem dX5_set_12 : decode cX5_set 12 = .ok (.iload_n 2, 1) := by decide +kernel
theorem dX5_set_13 : decode cX5_set 13 = .ok (.invokevirtual 19, 3) := by decide +kernel
theorem dX5_set_16 : decode cX5_set 16 = .ok (.i2l, 1) := by decide +kernel
theorem dX5_set_17 : decode cX5_set 17 = .ok (.putfield 22, 3) := by decide +kernel
theorem dX5_set_20 : decode cX5_set 20 = .ok (.aload_n 0, 1) := by decide +kernel
theorem dX5_set_21 : decode cX5_set 21 = .ok (.aload_n 1, 1) := by decide +kernel
theorem dX5_set_22 : decode cX5_set 22 = .ok (.iload_n 2, 1) := by decide +kernel
theorem dX5_set_23 : decode cX5_set 23 = .ok (.iconst 1, 1) := by decide +kernel
theorem dX5_set_24 : decode cX5_set 24 = .ok (.iadd, 1) := by decide +kernel
theorem dX5_set_25 : decode cX5_set 25 = .ok (.invokevirtual 7, 3) := by decide +kernel
theorem dX5_set_28 : decode cX5_set 28 = .ok (.i2l, 1) := by decide +kernel
theorem dX5_set_29 : decode cX5_set 29 = .ok (.putfield 25, 3) := by decide +kernel
theorem dX5_set_32 : decode cX5_set 32 = .ok (.aload_n 0, 1) := by decide +kernel
theorem dX5_set_33 : decode cX5_set 33 = .ok (.aload_n 1, 1) := by decide +kernel
theorem dX5_set_34 : decode cX5_set 34 = .ok (.iload_n 2, 1) := by decide +kernel
theorem dX5_set_35 : decode cX5_set 35 = .ok (.iconst 1, 1) := by decide +kernel
theorem dX5_set_36 : decode cX5_set 36 = .ok (.iadd, 1) := by decide +kernel
theorem dX5_set_37 : decode cX5_set 37 = .ok (.invokevirtual 19, 3) := by decide +kernel
theorem dX5_set_40 : decode cX5_set 40 = .ok (.i2l, 1) := by decide +kernel
theorem dX5_set_41 : decode cX5_set 41 = .ok (.putfield 28, 3) := by decide +kernel
theorem dX5_set_44 : decode cX5_set 44 = .ok (.aload_n 0, 1) := by decide +kernel
theorem dX5_set_45 : decode cX5_set 45 = .ok (.aload_n 0, 1) := by decide +kernel
theorem dX5_set_46 : decode cX5_set 46 = .ok (.getfield 25, 3) := by decide +kernel
theorem dX5_set_49 : decode cX5_set 49 = .ok (.aload_n 0, 1) := by decide +kernel
theorem dX5_set_50 : decode cX5_set 50 = .ok (.getfield 13, 3) := by decide +kernel
theorem dX5_set_53 : decode cX5_set 53 = .ok (.lsub, 1) := by decide +kernel
theorem dX5_set_54 : decode cX5_set 54 = .ok (.putfield 31, 3) := by decide +kernel
theorem dX5_set_57 : decode cX5_set 57 = .ok (.aload_n 0, 1) := by decide +kernel
theorem dX5_set_58 : decode cX5_set 58 = .ok (.aload_n 0, 1) := by decide +kernel
theorem dX5_set_59 : decode cX5_set 59 = .ok (.getfield 28, 3) := by decide +kernel
theorem dX5_set_62 : decode cX5_set 62 = .ok (.aload_n 0, 1) := by decide +kernel
theorem dX5_set_63 : decode cX5_set 63 = .ok (.getfield 22, 3) := by decide +kernel
theorem dX5_set_66 : decode cX5_set 66 = .ok (.lsub, 1) := by decide +kernel
theorem dX5_set_67 : decode cX5_set 67 = .ok (.putfield 34, 3) := by decide +kernel
theorem dX5_set_70 : decode cX5_set 70 = .ok (.aload_n 0, 1) := by decide +kernel
theorem dX5_set_71 : decode cX5_set 71 = .ok (.aload_n 0, 1) := by decide +kernel
theorem dX5_set_72 : decode cX5_set 72 = .ok (.getfield 31, 3) := by decide +kernel
theorem dX5_set_75 : decode cX5_set 75 = .ok (.aload_n 0, 1) := by decide +kernel
theorem dX5_set_76 : decode cX5_set 76 = .ok (.getfield 31, 3) := by decide +kernel
theorem dX5_set_79 : decode cX5_set 79 = .ok (.lmul, 1) := by decide +kernel
theorem dX5_set_80 : decode cX5_set 80 = .ok (.aload_n 0, 1) := by decide +kernel
theorem dX5_set_81 : decode cX5_set 81 = .ok (.getfield 34, 3) := by decide +kernel
theorem dX5_set_84 : decode cX5_set 84 = .ok (.aload_n 0, 1) := by decide +kernel
theorem dX5_set_85 : decode cX5_set 85 = .ok (.getfield 34, 3) := by decide +kernel
theorem dX5_set_88 : decode cX5_set 88 = .ok (.lmul, 1) := by decide +kernel
theorem dX5_set_89 : decode cX5_set 89 = .ok (.ladd, 1) := by decide +kernel
theorem dX5_set_90 : decode cX5_set 90 = .ok (.invokestatic 37, 3) := by decide +kernel
theorem dX5_set_93 : decode cX5_set 93 = .ok (.putfield 43, 3) := by decide +kernel
theorem dX5_set_96 : decode cX5_set 96 = .ok (.return_, 1) := by decide +kernel
theorem dX5_widen_0 : decode cX5_widen 0 = .ok (.aload_n 0, 1) := by decide +kernel
theorem dX5_widen_1 : decode cX5_widen 1 = .ok (.aload_n 0, 1) := by decide +kernel
theorem dX5_widen_2 : decode cX5_widen 2 = .ok (.getfield 34, 3) := by decide +kernel
theorem dX5_widen_5 : decode cX5_widen 5 = .ok (.lneg, 1) := by decide +kernel
theorem dX5_widen_6 : decode cX5_widen 6 = .ok (.lload_n 1, 1) := by decide +kernel
theorem dX5_widen_7 : decode cX5_widen 7 = .ok (.lmul, 1) := by decide +kernel
theorem dX5_widen_8 : decode cX5_widen 8 = .ok (.aload_n 0, 1) := by decide +kernel
theorem dX5_widen_9 : decode cX5_widen 9 = .ok (.getfield 43, 3) := by decide +kernel
theorem dX5_widen_12 : decode cX5_widen 12 = .ok (.invokestatic 46, 3) := by decide +kernel
theorem dX5_widen_15 : decode cX5_widen 15 = .ok (.putfield 50, 3) := by decide +kernel
theorem dX5_widen_18 : decode cX5_widen 18 = .ok (.aload_n 0, 1) := by decide +kernel
theorem dX5_widen_19 : decode cX5_widen 19 = .ok (.aload_n 0, 1) := by decide +kernel
theorem dX5_widen_20 : decode cX5_widen 20 = .ok (.getfield 31, 3) := by decide +kernel
theorem dX5_widen_23 : decode cX5_widen 23 = .ok (.lload_n 1, 1) := by decide +kernel
theorem dX5_widen_24 : decode cX5_widen 24 = .ok (.lmul, 1) := by decide +kernel
theorem dX5_widen_25 : decode cX5_widen 25 = .ok (.aload_n 0, 1) := by decide +kernel
theorem dX5_widen_26 : decode cX5_widen 26 = .ok (.getfield 43, 3) := by decide +kernel
theorem dX5_widen_29 : decode cX5_widen 29 = .ok (.invokestatic 46, 3) := by decide +kernel
theorem dX5_widen_32 : decode cX5_widen 32 = .ok (.putfield 53, 3) := by decide +kernel
theorem dX5_widen_35 : decode cX5_widen 35 = .ok (.aload_n 0, 1) := by decide +kernel
theorem dX5_widen_36 : decode cX5_widen 36 = .ok (.aload_n 0, 1) := by decide +kernel
theorem dX5_widen_37 : decode cX5_widen 37 = .ok (.getfield 53, 3) := by decide +kernel
theorem dX5_widen_40 : decode cX5_widen 40 = .ok (.putfield 56, 3) := by decide +kernel
theorem dX5_widen_43 : decode cX5_widen 43 = .ok (.aload_n 0, 1) := by decide +kernel
theorem dX5_widen_44 : decode cX5_widen 44 = .ok (.aload_n 0, 1) := by decide +kernel
theorem dX5_widen_45 : decode cX5_widen 45 = .ok (.getfield 34, 3) := by decide +kernel
theorem dX5_widen_48 : decode cX5_widen 48 = .ok (.lload_n 1, 1) := by decide +kernel
theorem dX5_widen_49 : decode cX5_widen 49 = .ok (.lmul, 1) := by decide +kernel
theorem dX5_widen_50 : decode cX5_widen 50 = .ok (.aload_n 0, 1) := by decide +kernel
theorem dX5_widen_51 : decode cX5_widen 51 = .ok (.getfield 43, 3) := by decide +kernel
theorem dX5_widen_54 : decode cX5_widen 54 = .ok (.invokestatic 46, 3) := by decide +kernel
theorem dX5_widen_57 : decode cX5_widen 57 = .ok (.putfield 59, 3) := by decide +kernel
theorem dX5_widen_60 : decode cX5_widen 60 = .ok (.return_, 1) := by decide +kernel
theorem dX6_allowsMitre_0 : decode cX6_allowsMitre 0 = .ok (.aload_n 0, 1) := by decide +kernel
theorem dX6_allowsMitre_1 : decode cX6_allowsMitre 1 = .ok (.getfield 32, 3) := by decide +kernel
theorem dX6_allowsMitre_4 : decode cX6_allowsMitre 4 = .ok (.ifCond .ne 30, 3) := by decide +kernel
theorem dX6_allowsMitre_7 : decode cX6_allowsMitre 7 = .ok (.lload_n 1, 1) := by decide +kernel
theorem dX6_allowsMitre_8 : decode cX6_allowsMitre 8 = .ok (.ldc2_w 35, 3) := by decide +kernel
theorem dX6_allowsMitre_11 : decode cX6_allowsMitre 11 = .ok (.lmul, 1) := by decide +kernel
theorem dX6_allowsMitre_12 : decode cX6_allowsMitre 12 = .ok (.aload_n 0, 1) := by decide +kernel
theorem dX6_allowsMitre_13 : decode cX6_allowsMitre 13 = .ok (.getfield 22, 3) := by decide +kernel
theorem dX6_allowsMitre_16 : decode cX6_allowsMitre 16 = .ok (.aload_n 0, 1) := by decide +kernel
theorem dX6_allowsMitre_17 : decode cX6_allowsMitre 17 = .ok (.getfield 11, 3) := by decide +kernel
theorem dX6_allowsMitre_20 : decode cX6_allowsMitre 20 = .ok (.lmul, 1) := by decide +kernel
theorem dX6_allowsMitre_21 : decode cX6_allowsMitre 21 = .ok (.aload_n 0, 1) := by decide +kernel
theorem dX6_allowsMitre_22 : decode cX6_allowsMitre 22 = .ok (.getfield 11, 3) := by decide +kernel
theorem dX6_allowsMitre_25 : decode cX6_allowsMitre 25 = .ok (.lmul, 1) := by decide +kernel
theorem dX6_allowsMitre_26 : decode cX6_allowsMitre 26 = .ok (.lcmp, 1) := by decide +kernel
theorem dX6_allowsMitre_27 : decode cX6_allowsMitre 27 = .ok (.ifCond .lt 7, 3) := by decide +kernel
theorem dX6_allowsMitre_30 : decode cX6_allowsMitre 30 = .ok (.iconst 1, 1) := by decide +kernel
theorem dX6_allowsMitre_31 : decode cX6_allowsMitre 31 = .ok (.goto 4, 3) := by decide +kernel
theorem dX6_allowsMitre_34 : decode cX6_allowsMitre 34 = .ok (.iconst 0, 1) := by decide +kernel
theorem dX6_allowsMitre_35 : decode cX6_allowsMitre 35 = .ok (.ireturn, 1) := by decide +kernel
theorem dX6_half_0 : decode cX6_half 0 = .ok (.aload_n 0, 1) := by decide +kernel
theorem dX6_half_1 : decode cX6_half 1 = .ok (.getfield 11, 3) := by decide +kernel
theorem dX6_half_4 : decode cX6_half 4 = .ok (.lreturn, 1) := by decide +kernel
theorem dX6_hasCaps_0 : decode cX6_hasCaps 0 = .ok (.aload_n 0, 1) := by decide +kernel
theorem dX6_hasCaps_1 : decode cX6_hasCaps 1 = .ok (.getfield 28, 3) := by decide +kernel
theorem dX6_hasCaps_4 : decode cX6_hasCaps 4 = .ok (.ireturn, 1) := by decide +kernel
theorem dX6_init_0 : decode cX6_init 0 = .ok (.aload_n 0, 1) := by decide +kernel
theorem dX6_init_1 : decode cX6_init 1 = .ok (.invokespecial 3, 3) := by decide +kernel
theorem dX6_init_4 : decode cX6_init 4 = .ok (.aload_n 0, 1) := by decide +kernel
theorem dX6_init_5 : decode cX6_init 5 = .ok (.ldc2_w 9, 3) := by decide +kernel
theorem dX6_init_8 : decode cX6_init 8 = .ok (.putfield 11, 3) := by decide +kernel
theorem dX6_init_11 : decode cX6_init 11 = .ok (.aload_n 0, 1) := by decide +kernel
theorem dX6_init_12 : decode cX6_init 12 = .ok (.ldc 17, 2) := by decide +kernel
theorem dX6_init_14 : decode cX6_init 14 = .ok (.invokestatic 18, 3) := by decide +kernel
theorem dX6_init_17 : decode cX6_init 17 = .ok (.putfield 22, 3) := by decide +kernel
theorem dX6_init_20 : decode cX6_init 20 = .ok (.return_, 1) := by decide +kernel
theorem dX6_leastCosine_0 : decode cX6_leastCosine 0 = .ok (.iload_n 0, 1) := by decide +kernel
theorem dX6_leastCosine_1 : decode cX6_leastCosine 1 = .ok (.i2l, 1) := by decide +kernel
theorem dX6_leastCosine_2 : decode cX6_leastCosine 2 = .ok (.iload_n 0, 1) := by decide +kernel
theorem dX6_leastCosine_3 : decode cX6_leastCosine 3 = .ok (.i2l, 1) := by decide +kernel
theorem dX6_leastCosine_4 : decode cX6_leastCosine 4 = .ok (.lmul, 1) := by decide +kernel
theorem dX6_leastCosine_5 : decode cX6_leastCosine 5 = .ok (.lstore_n 1, 1) := by decide +kernel
theorem dX6_leastCosine_6 : decode cX6_leastCosine 6 = .ok (.lload_n 1, 1) := by decide +kernel
theorem dX6_leastCosine_7 : decode cX6_leastCosine 7 = .ok (.lconst 0, 1) := by decide +kernel
theorem dX6_leastCosine_8 : decode cX6_leastCosine 8 = .ok (.lcmp, 1) := by decide +kernel
theorem dX6_leastCosine_9 : decode cX6_leastCosine 9 = .ok (.ifCond .gt 7, 3) := by decide +kernel
theorem dX6_leastCosine_12 : decode cX6_leastCosine 12 = .ok (.ldc2_w 35, 3) := by decide +kernel
theorem dX6_leastCosine_15 : decode cX6_leastCosine 15 = .ok (.lreturn, 1) := by decide +kernel
theorem dX6_leastCosine_16 : decode cX6_leastCosine 16 = .ok (.ldc2_w 37, 3) := by decide +kernel
theorem dX6_leastCosine_19 : decode cX6_leastCosine 19 = .ok (.lload_n 1, 1) := by decide +kernel
theorem dX6_leastCosine_20 : decode cX6_leastCosine 20 = .ok (.ldiv, 1) := by decide +kernel
theorem dX6_leastCosine_21 : decode cX6_leastCosine 21 = .ok (.ldc2_w 35, 3) := by decide +kernel
theorem dX6_leastCosine_24 : decode cX6_leastCosine 24 = .ok (.lsub, 1) := by decide +kernel
theorem dX6_leastCosine_25 : decode cX6_leastCosine 25 = .ok (.lreturn, 1) := by decide +kernel
theorem dX6_reach_0 : decode cX6_reach 0 = .ok (.aload_n 0, 1) := by decide +kernel
theorem dX6_reach_1 : decode cX6_reach 1 = .ok (.getfield 11, 3) := by decide +kernel
theorem dX6_reach_4 : decode cX6_reach 4 = .ok (.aload_n 0, 1) := by decide +kernel
theorem dX6_reach_5 : decode cX6_reach 5 = .ok (.getfield 11, 3) := by decide +kernel
theorem dX6_reach_8 : decode cX6_reach 8 = .ok (.lmul, 1) := by decide +kernel
theorem dX6_reach_9 : decode cX6_reach 9 = .ok (.ldc2_w 35, 3) := by decide +kernel
theorem dX6_reach_12 : decode cX6_reach 12 = .ok (.lmul, 1) := by decide +kernel
theorem dX6_reach_13 : decode cX6_reach 13 = .ok (.aload_n 0, 1) := by decide +kernel
theorem dX6_reach_14 : decode cX6_reach 14 = .ok (.getfield 11, 3) := by decide +kernel
theorem dX6_reach_17 : decode cX6_reach 17 = .ok (.aload_n 0, 1) := by decide +kernel
theorem dX6_reach_18 : decode cX6_reach 18 = .ok (.getfield 11, 3) := by decide +kernel
theorem dX6_reach_21 : decode cX6_reach 21 = .ok (.lmul, 1) := by decide +kernel
theorem dX6_reach_22 : decode cX6_reach 22 = .ok (.lload_n 1, 1) := by decide +kernel
theorem dX6_reach_23 : decode cX6_reach 23 = .ok (.ladd, 1) := by decide +kernel
theorem dX6_reach_24 : decode cX6_reach 24 = .ok (.invokestatic 39, 3) := by decide +kernel
theorem dX6_reach_27 : decode cX6_reach 27 = .ok (.lreturn, 1) := by decide +kernel
theorem dX6_set_0 : decode cX6_set 0 = .ok (.iload_n 1, 1) := by decide +kernel
theorem dX6_set_1 : decode cX6_set 1 = .ok (.iconst 1, 1) := by decide +kernel
theorem dX6_set_2 : decode cX6_set 2 = .ok (.if_icmp .lt 18, 3) := by decide +kernel
theorem dX6_set_5 : decode cX6_set 5 = .ok (.iload_n 1, 1) := by decide +kernel
theorem dX6_set_6 : decode cX6_set 6 = .ok (.ldc 25, 2) := by decide +kernel
theorem dX6_set_8 : decode cX6_set 8 = .ok (.if_icmp .gt 12, 3) := by decide +kernel
theorem dX6_set_11 : decode cX6_set 11 = .ok (.iload_n 2, 1) := by decide +kernel
theorem dX6_set_12 : decode cX6_set 12 = .ok (.ifCond .lt 8, 3) := by decide +kernel
theorem dX6_set_15 : decode cX6_set 15 = .ok (.iload_n 2, 1) := by decide +kernel
theorem dX6_set_16 : decode cX6_set 16 = .ok (.iconst 1, 1) := by decide +kernel
theorem dX6_set_17 : decode cX6_set 17 = .ok (.if_icmp .le 5, 3) := by decide +kernel
theorem dX6_set_20 : decode cX6_set 20 = .ok (.iconst 0, 1) := by decide +kernel
theorem dX6_set_21 : decode cX6_set 21 = .ok (.ireturn, 1) := by decide +kernel
theorem dX6_set_22 : decode cX6_set 22 = .ok (.iload_n 3, 1) := by decide +kernel
theorem dX6_set_23 : decode cX6_set 23 = .ok (.ifCond .lt 22, 3) := by decide +kernel
theorem dX6_set_26 : decode cX6_set 26 = .ok (.iload_n 3, 1) := by decide +kernel
theorem dX6_set_27 : decode cX6_set 27 = .ok (.iconst 1, 1) := by decide +kernel
theorem dX6_set_28 : decode cX6_set 28 = .ok (.if_icmp .gt 17, 3) := by decide +kernel
theorem dX6_set_31 : decode cX6_set 31 = .ok (.iload 4, 2) := by decide +kernel
theorem dX6_set_33 : decode cX6_set 33 = .ok (.ldc 26, 2) := by decide +kernel
theorem dX6_set_35 : decode cX6_set 35 = .ok (.if_icmp .lt 10, 3) := by decide +kernel
theorem dX6_set_38 : decode cX6_set 38 = .ok (.iload 4, 2) := by decide +kernel
theorem dX6_set_40 : decode cX6_set 40 = .ok (.ldc 27, 2) := by decide +kernel
theorem dX6_set_42 : decode cX6_set 42 = .ok (.if_icmp .le 5, 3) := by decide +kernel
theorem dX6_set_45 : decode cX6_set 45 = .ok (.iconst 0, 1) := by decide +kernel
theorem dX6_set_46 : decode cX6_set 46 = .ok (.ireturn, 1) := by decide +kernel
theorem dX6_set_47 : decode cX6_set 47 = .ok (.aload_n 0, 1) := by decide +kernel
theorem dX6_set_48 : decode cX6_set 48 = .ok (.iload_n 1, 1) := by decide +kernel
theorem dX6_set_49 : decode cX6_set 49 = .ok (.i2l, 1) := by decide +kernel
theorem dX6_set_50 : decode cX6_set 50 = .ok (.putfield 11, 3) := by decide +kernel
theorem dX6_set_53 : decode cX6_set 53 = .ok (.aload_n 0, 1) := by decide +kernel
theorem dX6_set_54 : decode cX6_set 54 = .ok (.iload_n 2, 1) := by decide +kernel
theorem dX6_set_55 : decode cX6_set 55 = .ok (.iconst 1, 1) := by decide +kernel
theorem dX6_set_56 : decode cX6_set 56 = .ok (.if_icmp .ne 7, 3) := by decide +kernel
theorem dX6_set_59 : decode cX6_set 59 = .ok (.iconst 1, 1) := by decide +kernel
theorem dX6_set_60 : decode cX6_set 60 = .ok (.goto 4, 3) := by decide +kernel
theorem dX6_set_63 : decode cX6_set 63 = .ok (.iconst 0, 1) := by decide +kernel
theorem dX6_set_64 : decode cX6_set 64 = .ok (.putfield 28, 3) := by decide +kernel
theorem dX6_set_67 : decode cX6_set 67 = .ok (.aload_n 0, 1) := by decide +kernel
theorem dX6_set_68 : decode cX6_set 68 = .ok (.iload_n 3, 1) := by decide +kernel
theorem dX6_set_69 : decode cX6_set 69 = .ok (.iconst 1, 1) := by decide +kernel
theorem dX6_set_70 : decode cX6_set 70 = .ok (.if_icmp .ne 7, 3) := by decide +kernel
theorem dX6_set_73 : decode cX6_set 73 = .ok (.iconst 1, 1) := by decide +kernel
theorem dX6_set_74 : decode cX6_set 74 = .ok (.goto 4, 3) := by decide +kernel
theorem dX6_set_77 : decode cX6_set 77 = .ok (.iconst 0, 1) := by decide +kernel
theorem dX6_set_78 : decode cX6_set 78 = .ok (.putfield 32, 3) := by decide +kernel
theorem dX6_set_81 : decode cX6_set 81 = .ok (.aload_n 0, 1) := by decide +kernel
theorem dX6_set_82 : decode cX6_set 82 = .ok (.iload 4, 2) := by decide +kernel
theorem dX6_set_84 : decode cX6_set 84 = .ok (.invokestatic 18, 3) := by decide +kernel
theorem dX6_set_87 : decode cX6_set 87 = .ok (.putfield 22, 3) := by decide +kernel
theorem dX6_set_90 : decode cX6_set 90 = .ok (.iconst 1, 1) := by decide +kernel
theorem dX6_set_91 : decode cX6_set 91 = .ok (.ireturn, 1) := by decide +kernel
theorem dX7_along_0 : decode cX7_along 0 = .ok (.aload_n 1, 1) := by decide +kernel
theorem dX7_along_1 : decode cX7_along 1 = .ok (.invokevirtual 41, 3) := by decide +kernel
theorem dX7_along_4 : decode cX7_along 4 = .ok (.istore_n 2, 1) := by decide +kernel
theorem dX7_along_5 : decode cX7_along 5 = .ok (.iload_n 2, 1) := by decide +kernel
theorem dX7_along_6 : decode cX7_along 6 = .ok (.ifCond .ne 4, 3) := by decide +kernel
theorem dX7_along_9 : decode cX7_along 9 = .ok (.return_, 1) := by decide +kernel
theorem dX7_along_10 : decode cX7_along 10 = .ok (.aload_n 0, 1) := by decide +kernel
theorem dX7_along_11 : decode cX7_along 11 = .ok (.aload_n 0, 1) := by decide +kernel
theorem dX7_along_12 : decode cX7_along 12 = .ok (.getfield 25, 3) := by decide +kernel
theorem dX7_along_15 : decode cX7_along 15 = .ok (.invokevirtual 45, 3) := by decide +kernel
theorem dX7_along_18 : decode cX7_along 18 = .ok (.putfield 50, 3) := by decide +kernel
theorem dX7_along_21 : decode cX7_along 21 = .ok (.aload_n 0, 1) := by decide +kernel
theorem dX7_along_22 : decode cX7_along 22 = .ok (.aload_n 0, 1) := by decide +kernel
theorem dX7_along_23 : decode cX7_along 23 = .ok (.getfield 25, 3) := by decide +kernel
theorem dX7_along_26 : decode cX7_along 26 = .ok (.invokevirtual 53, 3) := by decide +kernel
theorem dX7_along_29 : decode cX7_along 29 = .ok (.putfield 57, 3) := by decide +kernel
theorem dX7_along_32 : decode cX7_along 32 = .ok (.aload_n 0, 1) := by decide +kernel
theorem dX7_along_33 : decode cX7_along 33 = .ok (.aload_n 0, 1) := by decide +kernel
theorem dX7_along_34 : decode cX7_along 34 = .ok (.getfield 25, 3) := by decide +kernel
theorem dX7_along_37 : decode cX7_along 37 = .ok (.invokevirtual 61, 3) := by decide +kernel
theorem dX7_along_40 : decode cX7_along 40 = .ok (.putfield 65, 3) := by decide +kernel
theorem dX7_along_43 : decode cX7_along 43 = .ok (.aload_n 0, 1) := by decide +kernel
theorem dX7_along_44 : decode cX7_along 44 = .ok (.invokevirtual 69, 3) := by decide +kernel
theorem dX7_along_47 : decode cX7_along 47 = .ok (.aload_n 0, 1) := by decide +kernel
theorem dX7_along_48 : decode cX7_along 48 = .ok (.aload_n 1, 1) := by decide +kernel
theorem dX7_along_49 : decode cX7_along 49 = .ok (.iconst 0, 1) := by decide +kernel
theorem dX7_along_50 : decode cX7_along 50 = .ok (.invokevirtual 72, 3) := by decide +kernel
theorem dX7_along_53 : decode cX7_along 53 = .ok (.aload_n 1, 1) := by decide +kernel
theorem dX7_along_54 : decode cX7_along 54 = .ok (.iconst 0, 1) := by decide +kernel
theorem dX7_along_55 : decode cX7_along 55 = .ok (.invokevirtual 76, 3) := by decide +kernel
theorem dX7_along_58 : decode cX7_along 58 = .ok (.invokevirtual 79, 3) := by decide +kernel
theorem dX7_along_61 : decode cX7_along 61 = .ok (.iconst 0, 1) := by decide +kernel
theorem dX7_along_62 : decode cX7_along 62 = .ok (.istore_n 3, 1) := by decide +kernel
theorem dX7_along_63 : decode cX7_along 63 = .ok (.iload_n 3, 1) := by decide +kernel
theorem dX7_along_64 : decode cX7_along 64 = .ok (.iload_n 2, 1) := by decide +kernel
theorem dX7_along_65 : decode cX7_along 65 = .ok (.if_icmp .ge 32, 3) := by decide +kernel
theorem dX7_along_68 : decode cX7_along 68 = .ok (.aload_n 0, 1) := by decide +kernel
theorem dX7_along_69 : decode cX7_along 69 = .ok (.getfield 33, 3) := by decide +kernel
theorem dX7_along_72 : decode cX7_along 72 = .ok (.invokevirtual 83, 3) := by decide +kernel
theorem dX7_along_75 : decode cX7_along 75 = .ok (.ifCond .eq 22, 3) := by decide +kernel
theorem dX7_along_78 : decode cX7_along 78 = .ok (.aload_n 0, 1) := by decide +kernel
theorem dX7_along_79 : decode cX7_along 79 = .ok (.getfield 12, 3) := by decide +kernel
theorem dX7_along_82 : decode cX7_along 82 = .ok (.aload_n 1, 1) := by decide +kernel
theorem dX7_along_83 : decode cX7_along 83 = .ok (.iload_n 3, 1) := by decide +kernel
theorem dX7_along_84 : decode cX7_along 84 = .ok (.invokevirtual 88, 3) := by decide +kernel
theorem dX7_along_87 : decode cX7_along 87 = .ok (.aload_n 0, 1) := by decide +kernel
theorem dX7_along_88 : decode cX7_along 88 = .ok (.invokevirtual 92, 3) := by decide +kernel
theorem dX7_along_91 : decode cX7_along 91 = .ok (.iinc 3 1, 3) := by decide +kernel
theorem dX7_along_94 : decode cX7_along 94 = .ok (.goto (-31), 3) := by decide +kernel
theorem dX7_along_97 : decode cX7_along 97 = .ok (.aload_n 0, 1) := by decide +kernel
theorem dX7_along_98 : decode cX7_along 98 = .ok (.getfield 65, 3) := by decide +kernel
theorem dX7_along_101 : decode cX7_along 101 = .ok (.ifCond .ne 14, 3) := by decide +kernel
theorem dX7_along_104 : decode cX7_along 104 = .ok (.aload_n 0, 1) := by decide +kernel
theorem dX7_along_105 : decode cX7_along 105 = .ok (.getfield 29, 3) := by decide +kernel
theorem dX7_along_108 : decode cX7_along 108 = .ok (.aload_n 0, 1) := by decide +kernel
theorem dX7_along_109 : decode cX7_along 109 = .ok (.getfield 21, 3) := by decide +kernel
theorem dX7_along_112 : decode cX7_along 112 = .ok (.invokevirtual 95, 3) := by decide +kernel
theorem dX7_along_115 : decode cX7_along 115 = .ok (.return_, 1) := by decide +kernel
theorem dX7_beginDash_0 : decode cX7_beginDash 0 = .ok (.aload_n 0, 1) := by decide +kernel
theorem dX7_beginDash_1 : decode cX7_beginDash 1 = .ok (.getfield 21, 3) := by decide +kernel
theorem dX7_beginDash_4 : decode cX7_beginDash 4 = .ok (.iconst 0, 1) := by decide +kernel
theorem dX7_beginDash_5 : decode cX7_beginDash 5 = .ok (.invokevirtual 130, 3) := by decide +kernel
theorem dX7_beginDash_8 : decode cX7_beginDash 8 = .ok (.aload_n 0, 1) := by decide +kernel
theorem dX7_beginDash_9 : decode cX7_beginDash 9 = .ok (.getfield 65, 3) := by decide +kernel
theorem dX7_beginDash_12 : decode cX7_beginDash 12 = .ok (.ifCond .ne 12, 3) := by decide +kernel
theorem dX7_beginDash_15 : decode cX7_beginDash 15 = .ok (.aload_n 0, 1) := by decide +kernel
theorem dX7_beginDash_16 : decode cX7_beginDash 16 = .ok (.getfield 21, 3) := by decide +kernel
theorem dX7_beginDash_19 : decode cX7_beginDash 19 = .ok (.iload_n 1, 1) := by decide +kernel
theorem dX7_beginDash_20 : decode cX7_beginDash 20 = .ok (.iload_n 2, 1) := by decide +kernel
theorem dX7_beginDash_21 : decode cX7_beginDash 21 = .ok (.invokevirtual 111, 3) := by decide +kernel
theorem dX7_beginDash_24 : decode cX7_beginDash 24 = .ok (.return_, 1) := by decide +kernel
theorem dX7_countOne_0 : decode cX7_countOne 0 = .ok (.aload_n 0, 1) := by decide +kernel
theorem dX7_countOne_1 : decode cX7_countOne 1 = .ok (.getfield 37, 3) := by decide +kernel
theorem dX7_countOne_4 : decode cX7_countOne 4 = .ok (.sipush 20000, 3) := by decide +kernel
theorem dX7_countOne_7 : decode cX7_countOne 7 = .ok (.if_icmp .lt 13, 3) := by decide +kernel
theorem dX7_countOne_10 : decode cX7_countOne 10 = .ok (.aload_n 0, 1) := by decide +kernel
theorem dX7_countOne_11 : decode cX7_countOne 11 = .ok (.getfield 33, 3) := by decide +kernel
theorem dX7_countOne_14 : decode cX7_countOne 14 = .ok (.bipush (-3), 2) := by decide +kernel
theorem dX7_countOne_16 : decode cX7_countOne 16 = .ok (.invokevirtual 134, 3) := by decide +kernel
theorem dX7_countOne_19 : decode cX7_countOne 19 = .ok (.return_, 1) := by decide +kernel
theorem dX7_countOne_20 : decode cX7_countOne 20 = .ok (.aload_n 0, 1) := by decide +kernel
theorem dX7_countOne_21 : decode cX7_countOne 21 = .ok (.dup, 1) := by decide +kernel
theorem dX7_countOne_22 : decode cX7_countOne 22 = .ok (.getfield 37, 3) := by decide +kernel
theorem dX7_countOne_25 : decode cX7_countOne 25 = .ok (.iconst 1, 1) := by decide +kernel
theorem dX7_countOne_26 : decode cX7_countOne 26 = .ok (.iadd, 1) := by decide +kernel
theorem dX7_countOne_27 : decode cX7_countOne 27 = .ok (.putfield 37, 3) := by decide +kernel
theorem dX7_countOne_30 : decode cX7_countOne 30 = .ok (.return_, 1) := by decide +kernel
theorem dX7_init_0 : decode cX7_init 0 = .ok (.aload_n 0, 1) := by decide +kernel
theorem dX7_init_1 : decode cX7_init 1 = .ok (.invokespecial 3, 3) := by decide +kernel
theorem dX7_init_4 : decode cX7_init 4 = .ok (.aload_n 0, 1) := by decide +kernel
theorem dX7_init_5 : decode cX7_init 5 = .ok (.new 9, 3) := by decide +kernel
theorem dX7_init_8 : decode cX7_init 8 = .ok (.dup, 1) := by decide +kernel
theorem dX7_init_9 : decode cX7_init 9 = .ok (.invokespecial 11, 3) := by decide +kernel
theorem dX7_init_12 : decode cX7_init 12 = .ok (.putfield 12, 3) := by decide +kernel
theorem dX7_init_15 : decode cX7_init 15 = .ok (.aload_n 0, 1) := by decide +kernel
theorem dX7_init_16 : decode cX7_init 16 = .ok (.new 18, 3) := by decide +kernel
theorem dX7_init_19 : decode cX7_init 19 = .ok (.dup, 1) := by decide +kernel
theorem dX7_init_20 : decode cX7_init 20 = .ok (.invokespecial 20, 3) := by decide +kernel
theorem dX7_init_23 : decode cX7_init 23 = .ok (.putfield 21, 3) := by decide +kernel
theorem dX7_init_26 : decode cX7_init 26 = .ok (.aload_n 0, 1) := by decide +kernel
theorem dX7_init_27 : decode cX7_init 27 = .ok (.aload_n 1, 1) := by decide +kernel
theorem dX7_init_28 : decode cX7_init 28 = .ok (.putfield 25, 3) := by decide +kernel
theorem dX7_init_31 : decode cX7_init 31 = .ok (.aload_n 0, 1) := by decide +kernel
theorem dX7_init_32 : decode cX7_init 32 = .ok (.aload_n 2, 1) := by decide +kernel
theorem dX7_init_33 : decode cX7_init 33 = .ok (.putfield 29, 3) := by decide +kernel
theorem dX7_init_36 : decode cX7_init 36 = .ok (.aload_n 0, 1) := by decide +kernel
theorem dX7_init_37 : decode cX7_init 37 = .ok (.aload_n 3, 1) := by decide +kernel
theorem dX7_init_38 : decode cX7_init 38 = .ok (.putfield 33, 3) := by decide +kernel
theorem dX7_init_41 : decode cX7_init 41 = .ok (.return_, 1) := by decide +kernel
theorem dX7_pass_0 : decode cX7_pass 0 = .ok (.lconst 0, 1) := by decide +kernel
theorem dX7_pass_1 : decode cX7_pass 1 = .ok (.lstore_n 1, 1) := by decide +kernel
theorem dX7_pass_2 : decode cX7_pass 2 = .ok (.iconst 0, 1) := by decide +kernel
theorem dX7_pass_3 : decode cX7_pass 3 = .ok (.istore_n 3, 1) := by decide +kernel
theorem dX7_pass_4 : decode cX7_pass 4 = .ok (.iload_n 3, 1) := by decide +kernel
theorem dX7_pass_5 : decode cX7_pass 5 = .ok (.sipush 20000, 3) := by decide +kernel
theorem dX7_pass_8 : decode cX7_pass 8 = .ok (.if_icmp .gt 104, 3) := by decide +kernel
theorem dX7_pass_11 : decode cX7_pass 11 = .ok (.aload_n 0, 1) := by decide +kernel
theorem dX7_pass_12 : decode cX7_pass 12 = .ok (.getfield 57, 3) := by decide +kernel
theorem dX7_pass_15 : decode cX7_pass 15 = .ok (.aload_n 0, 1) := by decide +kernel
theorem dX7_pass_16 : decode cX7_pass 16 = .ok (.getfield 12, 3) := by decide +kernel
theorem dX7_pass_19 : decode cX7_pass 19 = .ok (.getfield 101, 3) := by decide +kernel
theorem dX7_pass_22 : decode cX7_pass 22 = .ok (.lload_n 1, 1) := by decide +kernel
theorem dX7_pass_23 : decode cX7_pass 23 = .ok (.lsub, 1) := by decide +kernel
theorem dX7_pass_24 : decode cX7_pass 24 = .ok (.lcmp, 1) := by decide +kernel
theorem dX7_pass_25 : decode cX7_pass 25 = .ok (.ifCond .ge 87, 3) := by decide +kernel
theorem dX7_pass_28 : decode cX7_pass 28 = .ok (.aload_n 0, 1) := by decide +kernel
theorem dX7_pass_29 : decode cX7_pass 29 = .ok (.getfield 33, 3) := by decide +kernel
theorem dX7_pass_32 : decode cX7_pass 32 = .ok (.invokevirtual 83, 3) := by decide +kernel
theorem dX7_pass_35 : decode cX7_pass 35 = .ok (.ifCond .eq 77, 3) := by decide +kernel
theorem dX7_pass_38 : decode cX7_pass 38 = .ok (.lload_n 1, 1) := by decide +kernel
theorem dX7_pass_39 : decode cX7_pass 39 = .ok (.aload_n 0, 1) := by decide +kernel
theorem dX7_pass_40 : decode cX7_pass 40 = .ok (.getfield 57, 3) := by decide +kernel
theorem dX7_pass_43 : decode cX7_pass 43 = .ok (.ladd, 1) := by decide +kernel
theorem dX7_pass_44 : decode cX7_pass 44 = .ok (.lstore_n 1, 1) := by decide +kernel
theorem dX7_pass_45 : decode cX7_pass 45 = .ok (.aload_n 0, 1) := by decide +kernel
theorem dX7_pass_46 : decode cX7_pass 46 = .ok (.getfield 12, 3) := by decide +kernel
theorem dX7_pass_49 : decode cX7_pass 49 = .ok (.lload_n 1, 1) := by decide +kernel
theorem dX7_pass_50 : decode cX7_pass 50 = .ok (.invokevirtual 104, 3) := by decide +kernel
theorem dX7_pass_53 : decode cX7_pass 53 = .ok (.istore 4, 2) := by decide +kernel
theorem dX7_pass_55 : decode cX7_pass 55 = .ok (.aload_n 0, 1) := by decide +kernel
theorem dX7_pass_56 : decode cX7_pass 56 = .ok (.getfield 12, 3) := by decide +kernel
theorem dX7_pass_59 : decode cX7_pass 59 = .ok (.lload_n 1, 1) := by decide +kernel
theorem dX7_pass_60 : decode cX7_pass 60 = .ok (.invokevirtual 108, 3) := by decide +kernel
theorem dX7_pass_63 : decode cX7_pass 63 = .ok (.istore 5, 2) := by decide +kernel
theorem dX7_pass_65 : decode cX7_pass 65 = .ok (.aload_n 0, 1) := by decide +kernel
theorem dX7_pass_66 : decode cX7_pass 66 = .ok (.getfield 65, 3) := by decide +kernel
theorem dX7_pass_69 : decode cX7_pass 69 = .ok (.ifCond .ne 25, 3) := by decide +kernel
theorem dX7_pass_72 : decode cX7_pass 72 = .ok (.aload_n 0, 1) := by decide +kernel
theorem dX7_pass_73 : decode cX7_pass 73 = .ok (.getfield 21, 3) := by decide +kernel
theorem dX7_pass_76 : decode cX7_pass 76 = .ok (.iload 4, 2) := by decide +kernel
theorem dX7_pass_78 : decode cX7_pass 78 = .ok (.iload 5, 2) := by decide +kernel
theorem dX7_pass_80 : decode cX7_pass 80 = .ok (.invokevirtual 111, 3) := by decide +kernel
theorem dX7_pass_83 : decode cX7_pass 83 = .ok (.aload_n 0, 1) := by decide +kernel
theorem dX7_pass_84 : decode cX7_pass 84 = .ok (.getfield 29, 3) := by decide +kernel
theorem dX7_pass_87 : decode cX7_pass 87 = .ok (.aload_n 0, 1) := by decide +kernel
theorem dX7_pass_88 : decode cX7_pass 88 = .ok (.getfield 21, 3) := by decide +kernel
theorem dX7_pass_91 : decode cX7_pass 91 = .ok (.invokevirtual 95, 3) := by decide +kernel
theorem dX7_pass_94 : decode cX7_pass 94 = .ok (.aload_n 0, 1) := by decide +kernel
theorem dX7_pass_95 : decode cX7_pass 95 = .ok (.invokevirtual 114, 3) := by decide +kernel
theorem dX7_pass_98 : decode cX7_pass 98 = .ok (.aload_n 0, 1) := by decide +kernel
theorem dX7_pass_99 : decode cX7_pass 99 = .ok (.iload 4, 2) := by decide +kernel
