theorem dX7_byLike_0 : decode cX7_byLike 0 = .ok (.aload_n 0, 1) := by decide +kernel
theorem dX7_byLike_1 : decode cX7_byLike 1 = .ok (.getfield 15, 3) := by decide +kernel
theorem dX7_byLike_4 : decode cX7_byLike 4 = .ok (.aload_n 0, 1) := by decide +kernel
theorem dX7_byLike_5 : decode cX7_byLike 5 = .ok (.getfield 25, 3) := by decide +kernel
theorem dX7_byLike_8 : decode cX7_byLike 8 = .ok (.iload_n 2, 1) := by decide +kernel
theorem dX7_byLike_9 : decode cX7_byLike 9 = .ok (.iadd, 1) := by decide +kernel
theorem dX7_byLike_10 : decode cX7_byLike 10 = .ok (.invokevirtual 59, 3) := by decide +kernel
theorem dX7_byLike_13 : decode cX7_byLike 13 = .ok (.istore_n 3, 1) := by decide +kernel
theorem dX7_byLike_14 : decode cX7_byLike 14 = .ok (.iconst 0, 1) := by decide +kernel
theorem dX7_byLike_15 : decode cX7_byLike 15 = .ok (.istore 4, 2) := by decide +kernel
theorem dX7_byLike_17 : decode cX7_byLike 17 = .ok (.iconst 0, 1) := by decide +kernel
theorem dX7_byLike_18 : decode cX7_byLike 18 = .ok (.istore 5, 2) := by decide +kernel
theorem dX7_byLike_20 : decode cX7_byLike 20 = .ok (.aload_n 0, 1) := by decide +kernel
theorem dX7_byLike_21 : decode cX7_byLike 21 = .ok (.getfield 25, 3) := by decide +kernel
theorem dX7_byLike_24 : decode cX7_byLike 24 = .ok (.iload_n 2, 1) := by decide +kernel
theorem dX7_byLike_25 : decode cX7_byLike 25 = .ok (.iadd, 1) := by decide +kernel
theorem dX7_byLike_26 : decode cX7_byLike 26 = .ok (.bipush 7, 2) := by decide +kernel
theorem dX7_byLike_28 : decode cX7_byLike 28 = .ok (.isub, 1) := by decide +kernel
theorem dX7_byLike_29 : decode cX7_byLike 29 = .ok (.istore 6, 2) := by decide +kernel
theorem dX7_byLike_31 : decode cX7_byLike 31 = .ok (.iload 6, 2) := by decide +kernel
theorem dX7_byLike_33 : decode cX7_byLike 33 = .ok (.ifCond .lt 64, 3) := by decide +kernel
theorem dX7_byLike_36 : decode cX7_byLike 36 = .ok (.iload 5, 2) := by decide +kernel
theorem dX7_byLike_38 : decode cX7_byLike 38 = .ok (.iload_n 1, 1) := by decide +kernel
theorem dX7_byLike_39 : decode cX7_byLike 39 = .ok (.if_icmp .ge 58, 3) := by decide +kernel
theorem dX7_byLike_42 : decode cX7_byLike 42 = .ok (.iload 6, 2) := by decide +kernel
theorem dX7_byLike_44 : decode cX7_byLike 44 = .ok (.aload_n 0, 1) := by decide +kernel
theorem dX7_byLike_45 : decode cX7_byLike 45 = .ok (.getfield 25, 3) := by decide +kernel
theorem dX7_byLike_48 : decode cX7_byLike 48 = .ok (.if_icmp .gt 43, 3) := by decide +kernel
theorem dX7_byLike_51 : decode cX7_byLike 51 = .ok (.aload_n 0, 1) := by decide +kernel
theorem dX7_byLike_52 : decode cX7_byLike 52 = .ok (.getfield 9, 3) := by decide +kernel
theorem dX7_byLike_55 : decode cX7_byLike 55 = .ok (.iload 6, 2) := by decide +kernel
theorem dX7_byLike_57 : decode cX7_byLike 57 = .ok (.iaload, 1) := by decide +kernel
theorem dX7_byLike_58 : decode cX7_byLike 58 = .ok (.bipush (-4), 2) := by decide +kernel
theorem dX7_byLike_60 : decode cX7_byLike 60 = .ok (.if_icmp .eq 31, 3) := by decide +kernel
theorem dX7_byLike_63 : decode cX7_byLike 63 = .ok (.aload_n 0, 1) := by decide +kernel
theorem dX7_byLike_64 : decode cX7_byLike 64 = .ok (.getfield 15, 3) := by decide +kernel
theorem dX7_byLike_67 : decode cX7_byLike 67 = .ok (.iload 6, 2) := by decide +kernel
theorem dX7_byLike_69 : decode cX7_byLike 69 = .ok (.invokevirtual 59, 3) := by decide +kernel
theorem dX7_byLike_72 : decode cX7_byLike 72 = .ok (.iload_n 3, 1) := by decide +kernel
theorem dX7_byLike_73 : decode cX7_byLike 73 = .ok (.if_icmp .ne 18, 3) := by decide +kernel
theorem dX7_byLike_76 : decode cX7_byLike 76 = .ok (.iload 4, 2) := by decide +kernel
theorem dX7_byLike_78 : decode cX7_byLike 78 = .ok (.aload_n 0, 1) := by decide +kernel
theorem dX7_byLike_79 : decode cX7_byLike 79 = .ok (.getfield 9, 3) := by decide +kernel
theorem dX7_byLike_82 : decode cX7_byLike 82 = .ok (.iload 6, 2) := by decide +kernel
theorem dX7_byLike_84 : decode cX7_byLike 84 = .ok (.iaload, 1) := by decide +kernel
theorem dX7_byLike_85 : decode cX7_byLike 85 = .ok (.iadd, 1) := by decide +kernel
theorem dX7_byLike_86 : decode cX7_byLike 86 = .ok (.istore 4, 2) := by decide +kernel
theorem dX7_byLike_88 : decode cX7_byLike 88 = .ok (.iinc 5 1, 3) := by decide +kernel
theorem dX7_byLike_91 : decode cX7_byLike 91 = .ok (.iinc 6 (-7), 3) := by decide +kernel
theorem dX7_byLike_94 : decode cX7_byLike 94 = .ok (.goto (-63), 3) := by decide +kernel
theorem dX7_byLike_97 : decode cX7_byLike 97 = .ok (.iload 5, 2) := by decide +kernel
theorem dX7_byLike_99 : decode cX7_byLike 99 = .ok (.ifCond .ne 8, 3) := by decide +kernel
theorem dX7_byLike_102 : decode cX7_byLike 102 = .ok (.bipush (-4), 2) := by decide +kernel
theorem dX7_byLike_104 : decode cX7_byLike 104 = .ok (.goto 8, 3) := by decide +kernel
theorem dX7_byLike_107 : decode cX7_byLike 107 = .ok (.iload 4, 2) := by decide +kernel
theorem dX7_byLike_109 : decode cX7_byLike 109 = .ok (.iload 5, 2) := by decide +kernel
theorem dX7_byLike_111 : decode cX7_byLike 111 = .ok (.idiv, 1) := by decide +kernel
theorem dX7_byLike_112 : decode cX7_byLike 112 = .ok (.ireturn, 1) := by decide +kernel
theorem dX7_levelAfter_0 : decode cX7_levelAfter 0 = .ok (.iload_n 1, 1) := by decide +kernel
theorem dX7_levelAfter_1 : decode cX7_levelAfter 1 = .ok (.bipush (-4), 2) := by decide +kernel
theorem dX7_levelAfter_3 : decode cX7_levelAfter 3 = .ok (.if_icmp .ne 8, 3) := by decide +kernel
theorem dX7_levelAfter_6 : decode cX7_levelAfter 6 = .ok (.lload_n 2, 1) := by decide +kernel
theorem dX7_levelAfter_7 : decode cX7_levelAfter 7 = .ok (.lload 4, 2) := by decide +kernel
theorem dX7_levelAfter_9 : decode cX7_levelAfter 9 = .ok (.ladd, 1) := by decide +kernel
theorem dX7_levelAfter_10 : decode cX7_levelAfter 10 = .ok (.lreturn, 1) := by decide +kernel
theorem dX7_levelAfter_11 : decode cX7_levelAfter 11 = .ok (.iload 6, 2) := by decide +kernel
theorem dX7_levelAfter_13 : decode cX7_levelAfter 13 = .ok (.ifCond .ne 10, 3) := by decide +kernel
theorem dX7_levelAfter_16 : decode cX7_levelAfter 16 = .ok (.ldc2_w 63, 3) := by decide +kernel
theorem dX7_levelAfter_19 : decode cX7_levelAfter 19 = .ok (.iload_n 1, 1) := by decide +kernel
theorem dX7_levelAfter_20 : decode cX7_levelAfter 20 = .ok (.i2l, 1) := by decide +kernel
theorem dX7_levelAfter_21 : decode cX7_levelAfter 21 = .ok (.lmul, 1) := by decide +kernel
theorem dX7_levelAfter_22 : decode cX7_levelAfter 22 = .ok (.lreturn, 1) := by decide +kernel
theorem dX7_levelAfter_23 : decode cX7_levelAfter 23 = .ok (.iload_n 0, 1) := by decide +kernel
theorem dX7_levelAfter_24 : decode cX7_levelAfter 24 = .ok (.i2l, 1) := by decide +kernel
theorem dX7_levelAfter_25 : decode cX7_levelAfter 25 = .ok (.ldc2_w 63, 3) := by decide +kernel
theorem dX7_levelAfter_28 : decode cX7_levelAfter 28 = .ok (.lmul, 1) := by decide +kernel
theorem dX7_levelAfter_29 : decode cX7_levelAfter 29 = .ok (.iload_n 1, 1) := by decide +kernel
theorem dX7_levelAfter_30 : decode cX7_levelAfter 30 = .ok (.i2l, 1) := by decide +kernel
theorem dX7_levelAfter_31 : decode cX7_levelAfter 31 = .ok (.lmul, 1) := by decide +kernel
theorem dX7_levelAfter_32 : decode cX7_levelAfter 32 = .ok (.bipush 10, 2) := by decide +kernel
theorem dX7_levelAfter_34 : decode cX7_levelAfter 34 = .ok (.iload_n 0, 1) := by decide +kernel
theorem dX7_levelAfter_35 : decode cX7_levelAfter 35 = .ok (.isub, 1) := by decide +kernel
theorem dX7_levelAfter_36 : decode cX7_levelAfter 36 = .ok (.i2l, 1) := by decide +kernel
theorem dX7_levelAfter_37 : decode cX7_levelAfter 37 = .ok (.lload_n 2, 1) := by decide +kernel
theorem dX7_levelAfter_38 : decode cX7_levelAfter 38 = .ok (.lload 4, 2) := by decide +kernel
theorem dX7_levelAfter_40 : decode cX7_levelAfter 40 = .ok (.ladd, 1) := by decide +kernel
theorem dX7_levelAfter_41 : decode cX7_levelAfter 41 = .ok (.lmul, 1) := by decide +kernel
theorem dX7_levelAfter_42 : decode cX7_levelAfter 42 = .ok (.ladd, 1) := by decide +kernel
theorem dX7_levelAfter_43 : decode cX7_levelAfter 43 = .ok (.ldc2_w 65, 3) := by decide +kernel
theorem dX7_levelAfter_46 : decode cX7_levelAfter 46 = .ok (.invokestatic 67, 3) := by decide +kernel
theorem dX7_levelAfter_49 : decode cX7_levelAfter 49 = .ok (.lreturn, 1) := by decide +kernel
theorem dX7_slopeAfter_0 : decode cX7_slopeAfter 0 = .ok (.iload_n 1, 1) := by decide +kernel
theorem dX7_slopeAfter_1 : decode cX7_slopeAfter 1 = .ok (.bipush (-4), 2) := by decide +kernel
theorem dX7_slopeAfter_3 : decode cX7_slopeAfter 3 = .ok (.if_icmp .eq 8, 3) := by decide +kernel
theorem dX7_slopeAfter_6 : decode cX7_slopeAfter 6 = .ok (.iload 6, 2) := by decide +kernel
theorem dX7_slopeAfter_8 : decode cX7_slopeAfter 8 = .ok (.ifCond .ne 6, 3) := by decide +kernel
theorem dX7_slopeAfter_11 : decode cX7_slopeAfter 11 = .ok (.lload 4, 2) := by decide +kernel
theorem dX7_slopeAfter_13 : decode cX7_slopeAfter 13 = .ok (.lreturn, 1) := by decide +kernel
theorem dX7_slopeAfter_14 : decode cX7_slopeAfter 14 = .ok (.iload_n 0, 1) := by decide +kernel
theorem dX7_slopeAfter_15 : decode cX7_slopeAfter 15 = .ok (.i2l, 1) := by decide +kernel
theorem dX7_slopeAfter_16 : decode cX7_slopeAfter 16 = .ok (.lload_n 2, 1) := by decide +kernel
theorem dX7_slopeAfter_17 : decode cX7_slopeAfter 17 = .ok (.lmul, 1) := by decide +kernel
theorem dX7_slopeAfter_18 : decode cX7_slopeAfter 18 = .ok (.bipush 10, 2) := by decide +kernel
theorem dX7_slopeAfter_20 : decode cX7_slopeAfter 20 = .ok (.iload_n 0, 1) := by decide +kernel
theorem dX7_slopeAfter_21 : decode cX7_slopeAfter 21 = .ok (.isub, 1) := by decide +kernel
theorem dX7_slopeAfter_22 : decode cX7_slopeAfter 22 = .ok (.i2l, 1) := by decide +kernel
theorem dX7_slopeAfter_23 : decode cX7_slopeAfter 23 = .ok (.lload 4, 2) := by decide +kernel
theorem dX7_slopeAfter_25 : decode cX7_slopeAfter 25 = .ok (.lmul, 1) := by decide +kernel
theorem dX7_slopeAfter_26 : decode cX7_slopeAfter 26 = .ok (.ladd, 1) := by decide +kernel
theorem dX7_slopeAfter_27 : decode cX7_slopeAfter 27 = .ok (.ldc2_w 65, 3) := by decide +kernel
theorem dX7_slopeAfter_30 : decode cX7_slopeAfter 30 = .ok (.invokestatic 67, 3) := by decide +kernel
theorem dX7_slopeAfter_33 : decode cX7_slopeAfter 33 = .ok (.lreturn, 1) := by decide +kernel
theorem dX7_toldByStep_0 : decode cX7_toldByStep 0 = .ok (.lload_n 0, 1) := by decide +kernel
theorem dX7_toldByStep_1 : decode cX7_toldByStep 1 = .ok (.iload 4, 2) := by decide +kernel
theorem dX7_toldByStep_3 : decode cX7_toldByStep 3 = .ok (.i2l, 1) := by decide +kernel
theorem dX7_toldByStep_4 : decode cX7_toldByStep 4 = .ok (.lload_n 2, 1) := by decide +kernel
theorem dX7_toldByStep_5 : decode cX7_toldByStep 5 = .ok (.lmul, 1) := by decide +kernel
theorem dX7_toldByStep_6 : decode cX7_toldByStep 6 = .ok (.ladd, 1) := by decide +kernel
theorem dX7_toldByStep_7 : decode cX7_toldByStep 7 = .ok (.ldc2_w 63, 3) := by decide +kernel
theorem dX7_toldByStep_10 : decode cX7_toldByStep 10 = .ok (.invokestatic 67, 3) := by decide +kernel
theorem dX7_toldByStep_13 : decode cX7_toldByStep 13 = .ok (.lstore 5, 2) := by decide +kernel
theorem dX7_toldByStep_15 : decode cX7_toldByStep 15 = .ok (.lconst 0, 1) := by decide +kernel
theorem dX7_toldByStep_16 : decode cX7_toldByStep 16 = .ok (.ldc2_w 71, 3) := by decide +kernel
theorem dX7_toldByStep_19 : decode cX7_toldByStep 19 = .ok (.lload 5, 2) := by decide +kernel
theorem dX7_toldByStep_21 : decode cX7_toldByStep 21 = .ok (.invokestatic 73, 3) := by decide +kernel
theorem dX7_toldByStep_24 : decode cX7_toldByStep 24 = .ok (.invokestatic 75, 3) := by decide +kernel
theorem dX7_toldByStep_27 : decode cX7_toldByStep 27 = .ok (.l2i, 1) := by decide +kernel
theorem dX7_toldByStep_28 : decode cX7_toldByStep 28 = .ok (.ireturn, 1) := by decide +kernel
theorem dX8_init_0 : decode cX8_init 0 = .ok (.aload_n 0, 1) := by decide +kernel
theorem dX8_init_1 : decode cX8_init 1 = .ok (.invokespecial 3, 3) := by decide +kernel
theorem dX8_init_4 : decode cX8_init 4 = .ok (.new 9, 3) := by decide +kernel
theorem dX8_init_7 : decode cX8_init 7 = .ok (.dup, 1) := by decide +kernel
theorem dX8_init_8 : decode cX8_init 8 = .ok (.invokespecial 11, 3) := by decide +kernel
theorem dX8_init_11 : decode cX8_init 11 = .ok (.astore_n 1, 1) := by decide +kernel
theorem dX8_init_12 : decode cX8_init 12 = .ok (.new 12, 3) := by decide +kernel
theorem dX8_init_15 : decode cX8_init 15 = .ok (.dup, 1) := by decide +kernel
theorem dX8_init_16 : decode cX8_init 16 = .ok (.invokespecial 14, 3) := by decide +kernel
theorem dX8_init_19 : decode cX8_init 19 = .ok (.astore_n 2, 1) := by decide +kernel
theorem dX8_init_20 : decode cX8_init 20 = .ok (.aload_n 0, 1) := by decide +kernel
theorem dX8_init_21 : decode cX8_init 21 = .ok (.aload_n 1, 1) := by decide +kernel
theorem dX8_init_22 : decode cX8_init 22 = .ok (.putfield 15, 3) := by decide +kernel
theorem dX8_init_25 : decode cX8_init 25 = .ok (.aload_n 0, 1) := by decide +kernel
theorem dX8_init_26 : decode cX8_init 26 = .ok (.new 19, 3) := by decide +kernel
theorem dX8_init_29 : decode cX8_init 29 = .ok (.dup, 1) := by decide +kernel
theorem dX8_init_30 : decode cX8_init 30 = .ok (.invokespecial 21, 3) := by decide +kernel
theorem dX8_init_33 : decode cX8_init 33 = .ok (.putfield 22, 3) := by decide +kernel
theorem dX8_init_36 : decode cX8_init 36 = .ok (.aload_n 0, 1) := by decide +kernel
theorem dX8_init_37 : decode cX8_init 37 = .ok (.aload_n 2, 1) := by decide +kernel
theorem dX8_init_38 : decode cX8_init 38 = .ok (.putfield 26, 3) := by decide +kernel
theorem dX8_init_41 : decode cX8_init 41 = .ok (.aload_n 0, 1) := by decide +kernel
theorem dX8_init_42 : decode cX8_init 42 = .ok (.new 30, 3) := by decide +kernel
theorem dX8_init_45 : decode cX8_init 45 = .ok (.dup, 1) := by decide +kernel
theorem dX8_init_46 : decode cX8_init 46 = .ok (.aload_n 1, 1) := by decide +kernel
theorem dX8_init_47 : decode cX8_init 47 = .ok (.aload_n 2, 1) := by decide +kernel
theorem dX8_init_48 : decode cX8_init 48 = .ok (.invokespecial 32, 3) := by decide +kernel
theorem dX8_init_51 : decode cX8_init 51 = .ok (.putfield 35, 3) := by decide +kernel
theorem dX8_init_54 : decode cX8_init 54 = .ok (.aload_n 0, 1) := by decide +kernel
theorem dX8_init_55 : decode cX8_init 55 = .ok (.new 39, 3) := by decide +kernel
theorem dX8_init_58 : decode cX8_init 58 = .ok (.dup, 1) := by decide +kernel
theorem dX8_init_59 : decode cX8_init 59 = .ok (.aload_n 1, 1) := by decide +kernel
theorem dX8_init_60 : decode cX8_init 60 = .ok (.invokespecial 41, 3) := by decide +kernel
theorem dX8_init_63 : decode cX8_init 63 = .ok (.putfield 44, 3) := by decide +kernel
theorem dX8_init_66 : decode cX8_init 66 = .ok (.aload_n 0, 1) := by decide +kernel
theorem dX8_init_67 : decode cX8_init 67 = .ok (.new 48, 3) := by decide +kernel
theorem dX8_init_70 : decode cX8_init 70 = .ok (.dup, 1) := by decide +kernel
theorem dX8_init_71 : decode cX8_init 71 = .ok (.invokespecial 50, 3) := by decide +kernel
theorem dX8_init_74 : decode cX8_init 74 = .ok (.putfield 51, 3) := by decide +kernel
theorem dX8_init_77 : decode cX8_init 77 = .ok (.aload_n 0, 1) := by decide +kernel
theorem dX8_init_78 : decode cX8_init 78 = .ok (.new 55, 3) := by decide +kernel
theorem dX8_init_81 : decode cX8_init 81 = .ok (.dup, 1) := by decide +kernel
theorem dX8_init_82 : decode cX8_init 82 = .ok (.invokespecial 57, 3) := by decide +kernel
theorem dX8_init_85 : decode cX8_init 85 = .ok (.putfield 58, 3) := by decide +kernel
theorem dX8_init_88 : decode cX8_init 88 = .ok (.return_, 1) := by decide +kernel
theorem dX8_now_0 : decode cX8_now 0 = .ok (.iload_n 1, 1) := by decide +kernel
theorem dX8_now_1 : decode cX8_now 1 = .ok (.invokestatic 62, 3) := by decide +kernel
theorem dX8_now_4 : decode cX8_now 4 = .ok (.ifCond .eq 14, 3) := by decide +kernel
theorem dX8_now_7 : decode cX8_now 7 = .ok (.iload_n 1, 1) := by decide +kernel
theorem dX8_now_8 : decode cX8_now 8 = .ok (.aload_n 0, 1) := by decide +kernel
theorem dX8_now_9 : decode cX8_now 9 = .ok (.getfield 15, 3) := by decide +kernel
theorem dX8_now_12 : decode cX8_now 12 = .ok (.getfield 66, 3) := by decide +kernel
theorem dX8_now_15 : decode cX8_now 15 = .ok (.if_icmp .ge 5, 3) := by decide +kernel
theorem dX8_now_18 : decode cX8_now 18 = .ok (.iconst (-1), 1) := by decide +kernel
theorem dX8_now_19 : decode cX8_now 19 = .ok (.ireturn, 1) := by decide +kernel
theorem dX8_now_20 : decode cX8_now 20 = .ok (.aload_n 0, 1) := by decide +kernel
theorem dX8_now_21 : decode cX8_now 21 = .ok (.getfield 15, 3) := by decide +kernel
theorem dX8_now_24 : decode cX8_now 24 = .ok (.getfield 66, 3) := by decide +kernel
theorem dX8_now_27 : decode cX8_now 27 = .ok (.istore_n 2, 1) := by decide +kernel
theorem dX8_now_28 : decode cX8_now 28 = .ok (.aload_n 0, 1) := by decide +kernel
theorem dX8_now_29 : decode cX8_now 29 = .ok (.getfield 15, 3) := by decide +kernel
theorem dX8_now_32 : decode cX8_now 32 = .ok (.iload_n 1, 1) := by decide +kernel
theorem dX8_now_33 : decode cX8_now 33 = .ok (.putfield 66, 3) := by decide +kernel
theorem dX8_now_36 : decode cX8_now 36 = .ok (.iload_n 2, 1) := by decide +kernel
theorem dX8_now_37 : decode cX8_now 37 = .ok (.ireturn, 1) := by decide +kernel
theorem dX8_figure_0 : decode cX8_figure 0 = .ok (.iload_n 3, 1) := by decide +kernel
theorem dX8_figure_1 : decode cX8_figure 1 = .ok (.bipush (-4), 2) := by decide +kernel
theorem dX8_figure_3 : decode cX8_figure 3 = .ok (.if_icmp .eq 14, 3) := by decide +kernel
theorem dX8_figure_6 : decode cX8_figure 6 = .ok (.iload_n 3, 1) := by decide +kernel
theorem dX8_figure_7 : decode cX8_figure 7 = .ok (.ifCond .lt 14, 3) := by decide +kernel
theorem dX8_figure_10 : decode cX8_figure 10 = .ok (.iload_n 3, 1) := by decide +kernel
theorem dX8_figure_11 : decode cX8_figure 11 = .ok (.sipush 999, 3) := by decide +kernel
theorem dX8_figure_14 : decode cX8_figure 14 = .ok (.if_icmp .gt 7, 3) := by decide +kernel
theorem dX8_figure_17 : decode cX8_figure 17 = .ok (.iconst 1, 1) := by decide +kernel
theorem dX8_figure_18 : decode cX8_figure 18 = .ok (.goto 4, 3) := by decide +kernel
theorem dX8_figure_21 : decode cX8_figure 21 = .ok (.iconst 0, 1) := by decide +kernel
theorem dX8_figure_22 : decode cX8_figure 22 = .ok (.istore 4, 2) := by decide +kernel
theorem dX8_figure_24 : decode cX8_figure 24 = .ok (.iload_n 1, 1) := by decide +kernel
theorem dX8_figure_25 : decode cX8_figure 25 = .ok (.invokestatic 70, 3) := by decide +kernel
theorem dX8_figure_28 : decode cX8_figure 28 = .ok (.ifCond .eq 26, 3) := by decide +kernel
theorem dX8_figure_31 : decode cX8_figure 31 = .ok (.iload_n 2, 1) := by decide +kernel
theorem dX8_figure_32 : decode cX8_figure 32 = .ok (.invokestatic 62, 3) := by decide +kernel
theorem dX8_figure_35 : decode cX8_figure 35 = .ok (.ifCond .eq 19, 3) := by decide +kernel
theorem dX8_figure_38 : decode cX8_figure 38 = .ok (.iload_n 2, 1) := by decide +kernel
theorem dX8_figure_39 : decode cX8_figure 39 = .ok (.aload_n 0, 1) := by decide +kernel
theorem dX8_figure_40 : decode cX8_figure 40 = .ok (.getfield 15, 3) := by decide +kernel
theorem dX8_figure_43 : decode cX8_figure 43 = .ok (.getfield 66, 3) := by decide +kernel
theorem dX8_figure_46 : decode cX8_figure 46 = .ok (.if_icmp .gt 8, 3) := by decide +kernel
theorem dX8_figure_49 : decode cX8_figure 49 = .ok (.iload 4, 2) := by decide +kernel
theorem dX8_figure_51 : decode cX8_figure 51 = .ok (.ifCond .ne 6, 3) := by decide +kernel
theorem dX8_figure_54 : decode cX8_figure 54 = .ok (.bipush (-5), 2) := by decide +kernel
theorem dX8_figure_56 : decode cX8_figure 56 = .ok (.ireturn, 1) := by decide +kernel
theorem dX8_figure_57 : decode cX8_figure 57 = .ok (.aload_n 0, 1) := by decide +kernel
theorem dX8_figure_58 : decode cX8_figure 58 = .ok (.getfield 15, 3) := by decide +kernel
theorem dX8_figure_61 : decode cX8_figure 61 = .ok (.getfield 73, 3) := by decide +kernel
theorem dX8_figure_64 : decode cX8_figure 64 = .ok (.sipush 200, 3) := by decide +kernel
theorem dX8_figure_67 : decode cX8_figure 67 = .ok (.if_icmp .lt 6, 3) := by decide +kernel
theorem dX8_figure_70 : decode cX8_figure 70 = .ok (.bipush (-7), 2) := by decide +kernel
theorem dX8_figure_72 : decode cX8_figure 72 = .ok (.ireturn, 1) := by decide +kernel
theorem dX8_figure_73 : decode cX8_figure 73 = .ok (.aload_n 0, 1) := by decide +kernel
theorem dX8_figure_74 : decode cX8_figure 74 = .ok (.getfield 15, 3) := by decide +kernel
theorem dX8_figure_77 : decode cX8_figure 77 = .ok (.iload_n 1, 1) := by decide +kernel
theorem dX8_figure_78 : decode cX8_figure 78 = .ok (.iload_n 2, 1) := by decide +kernel
theorem dX8_figure_79 : decode cX8_figure 79 = .ok (.aload_n 0, 1) := by decide +kernel
theorem dX8_figure_80 : decode cX8_figure 80 = .ok (.getfield 15, 3) := by decide +kernel
theorem dX8_figure_83 : decode cX8_figure 83 = .ok (.getfield 66, 3) := by decide +kernel
theorem dX8_figure_86 : decode cX8_figure 86 = .ok (.invokevirtual 76, 3) := by decide +kernel
theorem dX8_figure_89 : decode cX8_figure 89 = .ok (.istore 5, 2) := by decide +kernel
theorem dX8_figure_91 : decode cX8_figure 91 = .ok (.aload_n 0, 1) := by decide +kernel
theorem dX8_figure_92 : decode cX8_figure 92 = .ok (.getfield 15, 3) := by decide +kernel
theorem dX8_figure_95 : decode cX8_figure 95 = .ok (.iload_n 1, 1) := by decide +kernel
theorem dX8_figure_96 : decode cX8_figure 96 = .ok (.iload_n 2, 1) := by decide +kernel
theorem dX8_figure_97 : decode cX8_figure 97 = .ok (.iload_n 3, 1) := by decide +kernel
theorem dX8_figure_98 : decode cX8_figure 98 = .ok (.invokevirtual 80, 3) := by decide +kernel
theorem dX8_figure_101 : decode cX8_figure 101 = .ok (.iload 5, 2) := by decide +kernel
theorem dX8_figure_103 : decode cX8_figure 103 = .ok (.ireturn, 1) := by decide +kernel
theorem dX8_known_0 : decode cX8_known 0 = .ok (.iload_n 1, 1) := by decide +kernel
theorem dX8_known_1 : decode cX8_known 1 = .ok (.invokestatic 70, 3) := by decide +kernel
theorem dX8_known_4 : decode cX8_known 4 = .ok (.ifCond .eq 17, 3) := by decide +kernel
theorem dX8_known_7 : decode cX8_known 7 = .ok (.iload_n 2, 1) := by decide +kernel
theorem dX8_known_8 : decode cX8_known 8 = .ok (.invokestatic 62, 3) := by decide +kernel
theorem dX8_known_11 : decode cX8_known 11 = .ok (.ifCond .eq 10, 3) := by decide +kernel
theorem dX8_known_14 : decode cX8_known 14 = .ok (.iload_n 3, 1) := by decide +kernel
theorem dX8_known_15 : decode cX8_known 15 = .ok (.invokestatic 62, 3) := by decide +kernel
theorem dX8_known_18 : decode cX8_known 18 = .ok (.ifCond .ne 5, 3) := by decide +kernel
theorem dX8_known_21 : decode cX8_known 21 = .ok (.iconst (-1), 1) := by decide +kernel
theorem dX8_known_22 : decode cX8_known 22 = .ok (.ireturn, 1) := by decide +kernel
theorem dX8_known_23 : decode cX8_known 23 = .ok (.aload_n 0, 1) := by decide +kernel
theorem dX8_known_24 : decode cX8_known 24 = .ok (.getfield 15, 3) := by decide +kernel
theorem dX8_known_27 : decode cX8_known 27 = .ok (.iload_n 1, 1) := by decide +kernel
theorem dX8_known_28 : decode cX8_known 28 = .ok (.iload_n 2, 1) := by decide +kernel
theorem dX8_known_29 : decode cX8_known 29 = .ok (.iload_n 3, 1) := by decide +kernel
theorem dX8_known_30 : decode cX8_known 30 = .ok (.invokevirtual 76, 3) := by decide +kernel
theorem dX8_known_33 : decode cX8_known 33 = .ok (.ireturn, 1) := by decide +kernel
theorem dX8_mark_0 : decode cX8_mark 0 = .ok (.iload_n 1, 1) := by decide +kernel
theorem dX8_mark_1 : decode cX8_mark 1 = .ok (.ifCond .lt 15, 3) := by decide +kernel
theorem dX8_mark_4 : decode cX8_mark 4 = .ok (.iload_n 1, 1) := by decide +kernel
theorem dX8_mark_5 : decode cX8_mark 5 = .ok (.iconst 1, 1) := by decide +kernel
theorem dX8_mark_6 : decode cX8_mark 6 = .ok (.if_icmp .gt 10, 3) := by decide +kernel
theorem dX8_mark_9 : decode cX8_mark 9 = .ok (.iload_n 2, 1) := by decide +kernel
theorem dX8_mark_10 : decode cX8_mark 10 = .ok (.invokestatic 62, 3) := by decide +kernel
theorem dX8_mark_13 : decode cX8_mark 13 = .ok (.ifCond .ne 5, 3) := by decide +kernel
theorem dX8_mark_16 : decode cX8_mark 16 = .ok (.iconst (-1), 1) := by decide +kernel
theorem dX8_mark_17 : decode cX8_mark 17 = .ok (.ireturn, 1) := by decide +kernel
theorem dX8_mark_18 : decode cX8_mark 18 = .ok (.iload_n 1, 1) := by decide +kernel
theorem dX8_mark_19 : decode cX8_mark 19 = .ok (.ifCond .ne 13, 3) := by decide +kernel
theorem dX8_mark_22 : decode cX8_mark 22 = .ok (.aload_n 0, 1) := by decide +kernel
theorem dX8_mark_23 : decode cX8_mark 23 = .ok (.getfield 15, 3) := by decide +kernel
theorem dX8_mark_26 : decode cX8_mark 26 = .ok (.getfield 84, 3) := by decide +kernel
theorem dX8_mark_29 : decode cX8_mark 29 = .ok (.goto 10, 3) := by decide +kernel
theorem dX8_mark_32 : decode cX8_mark 32 = .ok (.aload_n 0, 1) := by decide +kernel
theorem dX8_mark_33 : decode cX8_mark 33 = .ok (.getfield 15, 3) := by decide +kernel
theorem dX8_mark_36 : decode cX8_mark 36 = .ok (.getfield 88, 3) := by decide +kernel
theorem dX8_mark_39 : decode cX8_mark 39 = .ok (.astore 4, 2) := by decide +kernel
theorem dX8_mark_41 : decode cX8_mark 41 = .ok (.aload 4, 2) := by decide +kernel
theorem dX8_mark_43 : decode cX8_mark 43 = .ok (.iload_n 2, 1) := by decide +kernel
theorem dX8_mark_44 : decode cX8_mark 44 = .ok (.baload, 1) := by decide +kernel
theorem dX8_mark_45 : decode cX8_mark 45 = .ok (.ifCond .eq 7, 3) := by decide +kernel
theorem dX8_mark_48 : decode cX8_mark 48 = .ok (.iconst 1, 1) := by decide +kernel
theorem dX8_mark_49 : decode cX8_mark 49 = .ok (.goto 4, 3) := by decide +kernel
theorem dX8_mark_52 : decode cX8_mark 52 = .ok (.iconst 0, 1) := by decide +kernel
theorem dX8_mark_53 : decode cX8_mark 53 = .ok (.istore 5, 2) := by decide +kernel
theorem dX8_mark_55 : decode cX8_mark 55 = .ok (.aload 4, 2) := by decide +kernel
theorem dX8_mark_57 : decode cX8_mark 57 = .ok (.iload_n 2, 1) := by decide +kernel
theorem dX8_mark_58 : decode cX8_mark 58 = .ok (.iload_n 3, 1) := by decide +kernel
theorem dX8_mark_59 : decode cX8_mark 59 = .ok (.bastore, 1) := by decide +kernel
theorem dX8_mark_60 : decode cX8_mark 60 = .ok (.iload 5, 2) := by decide +kernel
theorem dX8_mark_62 : decode cX8_mark 62 = .ok (.ireturn, 1) := by decide +kernel
theorem dX8_feed_0 : decode cX8_feed 0 = .ok (.aload_n 0, 1) := by decide +kernel
theorem dX8_feed_1 : decode cX8_feed 1 = .ok (.getfield 22, 3) := by decide +kernel
theorem dX8_feed_4 : decode cX8_feed 4 = .ok (.lload_n 1, 1) := by decide +kernel
theorem dX8_feed_5 : decode cX8_feed 5 = .ok (.invokevirtual 91, 3) := by decide +kernel
theorem dX8_feed_8 : decode cX8_feed 8 = .ok (.ireturn, 1) := by decide +kernel
theorem dX8_end_0 : decode cX8_end 0 = .ok (.iload_n 1, 1) := by decide +kernel
theorem dX8_end_1 : decode cX8_end 1 = .ok (.ifCond .lt 14, 3) := by decide +kernel
theorem dX8_end_4 : decode cX8_end 4 = .ok (.iload_n 1, 1) := by decide +kernel
theorem dX8_end_5 : decode cX8_end 5 = .ok (.aload_n 0, 1) := by decide +kernel
theorem dX8_end_6 : decode cX8_end 6 = .ok (.getfield 22, 3) := by decide +kernel
theorem dX8_end_9 : decode cX8_end 9 = .ok (.getfield 95, 3) := by decide +kernel
theorem dX8_end_12 : decode cX8_end 12 = .ok (.if_icmp .le 5, 3) := by decide +kernel
theorem dX8_end_15 : decode cX8_end 15 = .ok (.iconst (-1), 1) := by decide +kernel
theorem dX8_end_16 : decode cX8_end 16 = .ok (.ireturn, 1) := by decide +kernel
theorem dX8_end_17 : decode cX8_end 17 = .ok (.aload_n 0, 1) := by decide +kernel
theorem dX8_end_18 : decode cX8_end 18 = .ok (.getfield 22, 3) := by decide +kernel
theorem dX8_end_21 : decode cX8_end 21 = .ok (.getfield 95, 3) := by decide +kernel
theorem dX8_end_24 : decode cX8_end 24 = .ok (.istore_n 2, 1) := by decide +kernel
theorem dX8_end_25 : decode cX8_end 25 = .ok (.aload_n 0, 1) := by decide +kernel
theorem dX8_end_26 : decode cX8_end 26 = .ok (.getfield 22, 3) := by decide +kernel
theorem dX8_end_29 : decode cX8_end 29 = .ok (.iload_n 1, 1) := by decide +kernel
theorem dX8_end_30 : decode cX8_end 30 = .ok (.putfield 95, 3) := by decide +kernel
theorem dX8_end_33 : decode cX8_end 33 = .ok (.iload_n 2, 1) := by decide +kernel
theorem dX8_end_34 : decode cX8_end 34 = .ok (.ireturn, 1) := by decide +kernel
theorem dX8_text_0 : decode cX8_text 0 = .ok (.aload_n 0, 1) := by decide +kernel
theorem dX8_text_1 : decode cX8_text 1 = .ok (.getfield 22, 3) := by decide +kernel
theorem dX8_text_4 : decode cX8_text 4 = .ok (.invokevirtual 98, 3) := by decide +kernel
theorem dX8_text_7 : decode cX8_text 7 = .ok (.aload_n 0, 1) := by decide +kernel
theorem dX8_text_8 : decode cX8_text 8 = .ok (.getfield 22, 3) := by decide +kernel
theorem dX8_text_11 : decode cX8_text 11 = .ok (.iconst 0, 1) := by decide +kernel
theorem dX8_text_12 : decode cX8_text 12 = .ok (.putfield 95, 3) := by decide +kernel
theorem dX8_text_15 : decode cX8_text 15 = .ok (.aload_n 0, 1) := by decide +kernel
theorem dX8_text_16 : decode cX8_text 16 = .ok (.getfield 22, 3) := by decide +kernel
theorem dX8_text_19 : decode cX8_text 19 = .ok (.getfield 101, 3) := by decide +kernel
theorem dX8_text_22 : decode cX8_text 22 = .ok (.ifCond .eq 14, 3) := by decide +kernel
theorem dX8_text_25 : decode cX8_text 25 = .ok (.bipush (-10), 2) := by decide +kernel
theorem dX8_text_27 : decode cX8_text 27 = .ok (.aload_n 0, 1) := by decide +kernel
theorem dX8_text_28 : decode cX8_text 28 = .ok (.getfield 22, 3) := by decide +kernel
theorem dX8_text_31 : decode cX8_text 31 = .ok (.getfield 104, 3) := by decide +kernel
theorem dX8_text_34 : decode cX8_text 34 = .ok (.isub, 1) := by decide +kernel
theorem dX8_text_35 : decode cX8_text 35 = .ok (.ireturn, 1) := by decide +kernel
theorem dX8_text_36 : decode cX8_text 36 = .ok (.aload_n 0, 1) := by decide +kernel
theorem dX8_text_37 : decode cX8_text 37 = .ok (.getfield 26, 3) := by decide +kernel
theorem dX8_text_40 : decode cX8_text 40 = .ok (.aload_n 0, 1) := by decide +kernel
theorem dX8_text_41 : decode cX8_text 41 = .ok (.getfield 22, 3) := by decide +kernel
theorem dX8_text_44 : decode cX8_text 44 = .ok (.getfield 107, 3) := by decide +kernel
theorem dX8_text_47 : decode cX8_text 47 = .ok (.invokevirtual 110, 3) := by decide +kernel
theorem dX8_text_50 : decode cX8_text 50 = .ok (.aload_n 0, 1) := by decide +kernel
theorem dX8_text_51 : decode cX8_text 51 = .ok (.getfield 26, 3) := by decide +kernel
theorem dX8_text_54 : decode cX8_text 54 = .ok (.getfield 114, 3) := by decide +kernel
theorem dX8_text_57 : decode cX8_text 57 = .ok (.ireturn, 1) := by decide +kernel
theorem dX8_fault_0 : decode cX8_fault 0 = .ok (.aload_n 0, 1) := by decide +kernel
theorem dX8_fault_1 : decode cX8_fault 1 = .ok (.getfield 22, 3) := by decide +kernel
theorem dX8_fault_4 : decode cX8_fault 4 = .ok (.getfield 101, 3) := by decide +kernel
theorem dX8_fault_7 : decode cX8_fault 7 = .ok (.ireturn, 1) := by decide +kernel
theorem dX8_teller_0 : decode cX8_teller 0 = .ok (.aload_n 0, 1) := by decide +kernel
theorem dX8_teller_1 : decode cX8_teller 1 = .ok (.iload_n 1, 1) := by decide +kernel
theorem dX8_teller_2 : decode cX8_teller 2 = .ok (.invokevirtual 117, 3) := by decide +kernel
theorem dX8_teller_5 : decode cX8_teller 5 = .ok (.ifCond .eq 12, 3) := by decide +kernel
theorem dX8_teller_8 : decode cX8_teller 8 = .ok (.iload_n 2, 1) := by decide +kernel
theorem dX8_teller_9 : decode cX8_teller 9 = .ok (.ifCond .lt 8, 3) := by decide +kernel
theorem dX8_teller_12 : decode cX8_teller 12 = .ok (.iload_n 2, 1) := by decide +kernel
theorem dX8_teller_13 : decode cX8_teller 13 = .ok (.iconst 2, 1) := by decide +kernel
theorem dX8_teller_14 : decode cX8_teller 14 = .ok (.if_icmp .le 5, 3) := by decide +kernel
theorem dX8_teller_17 : decode cX8_teller 17 = .ok (.iconst (-1), 1) := by decide +kernel
theorem dX8_teller_18 : decode cX8_teller 18 = .ok (.ireturn, 1) := by decide +kernel
theorem dX8_teller_19 : decode cX8_teller 19 = .ok (.iload_n 2, 1) := by decide +kernel
theorem dX8_teller_20 : decode cX8_teller 20 = .ok (.ifCond .ne 15, 3) := by decide +kernel
theorem dX8_teller_23 : decode cX8_teller 23 = .ok (.aload_n 0, 1) := by decide +kernel
theorem dX8_teller_24 : decode cX8_teller 24 = .ok (.getfield 26, 3) := by decide +kernel
theorem dX8_teller_27 : decode cX8_teller 27 = .ok (.getfield 120, 3) := by decide +kernel
theorem dX8_teller_30 : decode cX8_teller 30 = .ok (.iload_n 1, 1) := by decide +kernel
theorem dX8_teller_31 : decode cX8_teller 31 = .ok (.iaload, 1) := by decide +kernel
theorem dX8_teller_32 : decode cX8_teller 32 = .ok (.goto 29, 3) := by decide +kernel
theorem dX8_teller_35 : decode cX8_teller 35 = .ok (.iload_n 2, 1) := by decide +kernel
theorem dX8_teller_36 : decode cX8_teller 36 = .ok (.iconst 1, 1) := by decide +kernel
theorem dX8_teller_37 : decode cX8_teller 37 = .ok (.if_icmp .ne 15, 3) := by decide +kernel
theorem dX8_teller_40 : decode cX8_teller 40 = .ok (.aload_n 0, 1) := by decide +kernel
theorem dX8_teller_41 : decode cX8_teller 41 = .ok (.getfield 26, 3) := by decide +kernel
theorem dX8_teller_44 : decode cX8_teller 44 = .ok (.getfield 124, 3) := by decide +kernel
theorem dX8_teller_47 : decode cX8_teller 47 = .ok (.iload_n 1, 1) := by decide +kernel
theorem dX8_teller_48 : decode cX8_teller 48 = .ok (.iaload, 1) := by decide +kernel
theorem dX8_teller_49 : decode cX8_teller 49 = .ok (.goto 12, 3) := by decide +kernel
theorem dX8_teller_52 : decode cX8_teller 52 = .ok (.aload_n 0, 1) := by decide +kernel
theorem dX8_teller_53 : decode cX8_teller 53 = .ok (.getfield 26, 3) := by decide +kernel
theorem dX8_teller_56 : decode cX8_teller 56 = .ok (.getfield 127, 3) := by decide +kernel
theorem dX8_teller_59 : decode cX8_teller 59 = .ok (.iload_n 1, 1) := by decide +kernel
theorem dX8_teller_60 : decode cX8_teller 60 = .ok (.iaload, 1) := by decide +kernel
theorem dX8_teller_61 : decode cX8_teller 61 = .ok (.ireturn, 1) := by decide +kernel
theorem dX8_tells_0 : decode cX8_tells 0 = .ok (.aload_n 0, 1) := by decide +kernel
theorem dX8_tells_1 : decode cX8_tells 1 = .ok (.iload_n 1, 1) := by decide +kernel
theorem dX8_tells_2 : decode cX8_tells 2 = .ok (.iload_n 2, 1) := by decide +kernel
theorem dX8_tells_3 : decode cX8_tells 3 = .ok (.iload 4, 2) := by decide +kernel
theorem dX8_tells_5 : decode cX8_tells 5 = .ok (.invokevirtual 130, 3) := by decide +kernel
theorem dX8_tells_8 : decode cX8_tells 8 = .ok (.ifCond .eq 18, 3) := by decide +kernel
theorem dX8_tells_11 : decode cX8_tells 11 = .ok (.iload_n 3, 1) := by decide +kernel
theorem dX8_tells_12 : decode cX8_tells 12 = .ok (.ifCond .lt 14, 3) := by decide +kernel
theorem dX8_tells_15 : decode cX8_tells 15 = .ok (.iload_n 3, 1) := by decide +kernel
theorem dX8_tells_16 : decode cX8_tells 16 = .ok (.aload_n 0, 1) := by decide +kernel
theorem dX8_tells_17 : decode cX8_tells 17 = .ok (.getfield 15, 3) := by decide +kernel
theorem dX8_tells_20 : decode cX8_tells 20 = .ok (.getfield 66, 3) := by decide +kernel
theorem dX8_tells_23 : decode cX8_tells 23 = .ok (.if_icmp .le 5, 3) := by decide +kernel
theorem dX8_tells_26 : decode cX8_tells 26 = .ok (.iconst (-1), 1) := by decide +kernel
theorem dX8_tells_27 : decode cX8_tells 27 = .ok (.ireturn, 1) := by decide +kernel
theorem dX8_tells_28 : decode cX8_tells 28 = .ok (.aload_n 0, 1) := by decide +kernel
theorem dX8_tells_29 : decode cX8_tells 29 = .ok (.getfield 35, 3) := by decide +kernel
theorem dX8_tells_32 : decode cX8_tells 32 = .ok (.iload_n 1, 1) := by decide +kernel
theorem dX8_tells_33 : decode cX8_tells 33 = .ok (.iload_n 2, 1) := by decide +kernel
theorem dX8_tells_34 : decode cX8_tells 34 = .ok (.iload 4, 2) := by decide +kernel
theorem dX8_tells_36 : decode cX8_tells 36 = .ok (.iload_n 3, 1) := by decide +kernel
theorem dX8_tells_37 : decode cX8_tells 37 = .ok (.iload_n 3, 1) := by decide +kernel
theorem dX8_tells_38 : decode cX8_tells 38 = .ok (.invokevirtual 134, 3) := by decide +kernel
theorem dX8_tells_41 : decode cX8_tells 41 = .ok (.aload_n 0, 1) := by decide +kernel
theorem dX8_tells_42 : decode cX8_tells 42 = .ok (.getfield 35, 3) := by decide +kernel
theorem dX8_tells_45 : decode cX8_tells 45 = .ok (.iload_n 2, 1) := by decide +kernel
theorem dX8_tells_46 : decode cX8_tells 46 = .ok (.iload_n 3, 1) := by decide +kernel
theorem dX8_tells_47 : decode cX8_tells 47 = .ok (.invokevirtual 138, 3) := by decide +kernel
theorem dX8_tells_50 : decode cX8_tells 50 = .ok (.ireturn, 1) := by decide +kernel
theorem dX8_weight_0 : decode cX8_weight 0 = .ok (.aload_n 0, 1) := by decide +kernel
theorem dX8_weight_1 : decode cX8_weight 1 = .ok (.iload_n 1, 1) := by decide +kernel
theorem dX8_weight_2 : decode cX8_weight 2 = .ok (.iload_n 2, 1) := by decide +kernel
theorem dX8_weight_3 : decode cX8_weight 3 = .ok (.iload 5, 2) := by decide +kernel
theorem dX8_weight_5 : decode cX8_weight 5 = .ok (.invokevirtual 130, 3) := by decide +kernel
theorem dX8_weight_8 : decode cX8_weight 8 = .ok (.ifCond .eq 29, 3) := by decide +kernel
theorem dX8_weight_11 : decode cX8_weight 11 = .ok (.iload 4, 2) := by decide +kernel
theorem dX8_weight_13 : decode cX8_weight 13 = .ok (.ifCond .lt 24, 3) := by decide +kernel
theorem dX8_weight_16 : decode cX8_weight 16 = .ok (.iload 4, 2) := by decide +kernel
theorem dX8_weight_18 : decode cX8_weight 18 = .ok (.aload_n 0, 1) := by decide +kernel
theorem dX8_weight_19 : decode cX8_weight 19 = .ok (.getfield 15, 3) := by decide +kernel
theorem dX8_weight_22 : decode cX8_weight 22 = .ok (.getfield 66, 3) := by decide +kernel
theorem dX8_weight_25 : decode cX8_weight 25 = .ok (.if_icmp .gt 12, 3) := by decide +kernel
theorem dX8_weight_28 : decode cX8_weight 28 = .ok (.aload_n 0, 1) := by decide +kernel
theorem dX8_weight_29 : decode cX8_weight 29 = .ok (.iload_n 2, 1) := by decide +kernel
theorem dX8_weight_30 : decode cX8_weight 30 = .ok (.iload_n 3, 1) := by decide +kernel
theorem dX8_weight_31 : decode cX8_weight 31 = .ok (.invokevirtual 142, 3) := by decide +kernel
theorem dX8_weight_34 : decode cX8_weight 34 = .ok (.ifCond .ne 5, 3) := by decide +kernel
theorem dX8_weight_37 : decode cX8_weight 37 = .ok (.iconst (-1), 1) := by decide +kernel
theorem dX8_weight_38 : decode cX8_weight 38 = .ok (.ireturn, 1) := by decide +kernel
theorem dX8_weight_39 : decode cX8_weight 39 = .ok (.aload_n 0, 1) := by decide +kernel
theorem dX8_weight_40 : decode cX8_weight 40 = .ok (.getfield 35, 3) := by decide +kernel
theorem dX8_weight_43 : decode cX8_weight 43 = .ok (.iload_n 1, 1) := by decide +kernel
theorem dX8_weight_44 : decode cX8_weight 44 = .ok (.iload_n 3, 1) := by decide +kernel
theorem dX8_weight_45 : decode cX8_weight 45 = .ok (.iload 5, 2) := by decide +kernel
theorem dX8_weight_47 : decode cX8_weight 47 = .ok (.iconst 0, 1) := by decide +kernel
theorem dX8_weight_48 : decode cX8_weight 48 = .ok (.iload 4, 2) := by decide +kernel
theorem dX8_weight_50 : decode cX8_weight 50 = .ok (.invokevirtual 134, 3) := by decide +kernel
theorem dX8_weight_53 : decode cX8_weight 53 = .ok (.aload_n 0, 1) := by decide +kernel
theorem dX8_weight_54 : decode cX8_weight 54 = .ok (.getfield 35, 3) := by decide +kernel
theorem dX8_weight_57 : decode cX8_weight 57 = .ok (.iload_n 3, 1) := by decide +kernel
theorem dX8_weight_58 : decode cX8_weight 58 = .ok (.iload 4, 2) := by decide +kernel
theorem dX8_weight_60 : decode cX8_weight 60 = .ok (.invokevirtual 138, 3) := by decide +kernel
theorem dX8_weight_63 : decode cX8_weight 63 = .ok (.bipush (-4), 2) := by decide +kernel
theorem dX8_weight_65 : decode cX8_weight 65 = .ok (.if_icmp .ne 8, 3) := by decide +kernel
theorem dX8_weight_68 : decode cX8_weight 68 = .ok (.bipush (-4), 2) := by decide +kernel
theorem dX8_weight_70 : decode cX8_weight 70 = .ok (.goto 22, 3) := by decide +kernel
theorem dX8_weight_73 : decode cX8_weight 73 = .ok (.aload_n 0, 1) := by decide +kernel
theorem dX8_weight_74 : decode cX8_weight 74 = .ok (.getfield 35, 3) := by decide +kernel
theorem dX8_weight_77 : decode cX8_weight 77 = .ok (.iload_n 3, 1) := by decide +kernel
theorem dX8_weight_78 : decode cX8_weight 78 = .ok (.aload_n 0, 1) := by decide +kernel
theorem dX8_weight_79 : decode cX8_weight 79 = .ok (.getfield 26, 3) := by decide +kernel
theorem dX8_weight_82 : decode cX8_weight 82 = .ok (.getfield 124, 3) := by decide +kernel
theorem dX8_weight_85 : decode cX8_weight 85 = .ok (.iload_n 2, 1) := by decide +kernel
theorem dX8_weight_86 : decode cX8_weight 86 = .ok (.iaload, 1) := by decide +kernel
theorem dX8_weight_87 : decode cX8_weight 87 = .ok (.iload 4, 2) := by decide +kernel
theorem dX8_weight_89 : decode cX8_weight 89 = .ok (.invokevirtual 146, 3) := by decide +kernel
theorem dX8_weight_92 : decode cX8_weight 92 = .ok (.ireturn, 1) := by decide +kernel
theorem dX8_miss_0 : decode cX8_miss 0 = .ok (.aload_n 0, 1) := by decide +kernel
theorem dX8_miss_1 : decode cX8_miss 1 = .ok (.iload_n 1, 1) := by decide +kernel
theorem dX8_miss_2 : decode cX8_miss 2 = .ok (.iload_n 2, 1) := by decide +kernel
theorem dX8_miss_3 : decode cX8_miss 3 = .ok (.iload_n 3, 1) := by decide +kernel
theorem dX8_miss_4 : decode cX8_miss 4 = .ok (.invokevirtual 130, 3) := by decide +kernel
theorem dX8_miss_7 : decode cX8_miss 7 = .ok (.ifCond .eq 11, 3) := by decide +kernel
theorem dX8_miss_10 : decode cX8_miss 10 = .ok (.iload 4, 2) := by decide +kernel
theorem dX8_miss_12 : decode cX8_miss 12 = .ok (.invokestatic 62, 3) := by decide +kernel
theorem dX8_miss_15 : decode cX8_miss 15 = .ok (.ifCond .ne 5, 3) := by decide +kernel
theorem dX8_miss_18 : decode cX8_miss 18 = .ok (.iconst (-1), 1) := by decide +kernel
theorem dX8_miss_19 : decode cX8_miss 19 = .ok (.ireturn, 1) := by decide +kernel
theorem dX8_miss_20 : decode cX8_miss 20 = .ok (.aload_n 0, 1) := by decide +kernel
theorem dX8_miss_21 : decode cX8_miss 21 = .ok (.getfield 35, 3) := by decide +kernel
theorem dX8_miss_24 : decode cX8_miss 24 = .ok (.iload_n 1, 1) := by decide +kernel
theorem dX8_miss_25 : decode cX8_miss 25 = .ok (.iload_n 2, 1) := by decide +kernel
theorem dX8_miss_26 : decode cX8_miss 26 = .ok (.iload_n 3, 1) := by decide +kernel
theorem dX8_miss_27 : decode cX8_miss 27 = .ok (.iload 4, 2) := by decide +kernel
theorem dX8_miss_29 : decode cX8_miss 29 = .ok (.iload 4, 2) := by decide +kernel
theorem dX8_miss_31 : decode cX8_miss 31 = .ok (.invokevirtual 149, 3) := by decide +kernel
theorem dX8_miss_34 : decode cX8_miss 34 = .ok (.aload_n 0, 1) := by decide +kernel
theorem dX8_miss_35 : decode cX8_miss 35 = .ok (.getfield 35, 3) := by decide +kernel
theorem dX8_miss_38 : decode cX8_miss 38 = .ok (.iload 4, 2) := by decide +kernel
theorem dX8_miss_40 : decode cX8_miss 40 = .ok (.invokevirtual 152, 3) := by decide +kernel
theorem dX8_miss_43 : decode cX8_miss 43 = .ok (.ireturn, 1) := by decide +kernel
theorem dX8_misses_0 : decode cX8_misses 0 = .ok (.aload_n 0, 1) := by decide +kernel
theorem dX8_misses_1 : decode cX8_misses 1 = .ok (.iload_n 1, 1) := by decide +kernel
theorem dX8_misses_2 : decode cX8_misses 2 = .ok (.iload_n 2, 1) := by decide +kernel
theorem dX8_misses_3 : decode cX8_misses 3 = .ok (.iload_n 3, 1) := by decide +kernel
theorem dX8_misses_4 : decode cX8_misses 4 = .ok (.invokevirtual 130, 3) := by decide +kernel
theorem dX8_misses_7 : decode cX8_misses 7 = .ok (.ifCond .eq 24, 3) := by decide +kernel
theorem dX8_misses_10 : decode cX8_misses 10 = .ok (.iload 4, 2) := by decide +kernel
theorem dX8_misses_12 : decode cX8_misses 12 = .ok (.iload 5, 2) := by decide +kernel
theorem dX8_misses_14 : decode cX8_misses 14 = .ok (.invokestatic 156, 3) := by decide +kernel
theorem dX8_misses_17 : decode cX8_misses 17 = .ok (.ifCond .eq 14, 3) := by decide +kernel
theorem dX8_misses_20 : decode cX8_misses 20 = .ok (.iload 6, 2) := by decide +kernel
theorem dX8_misses_22 : decode cX8_misses 22 = .ok (.ifCond .lt 9, 3) := by decide +kernel
theorem dX8_misses_25 : decode cX8_misses 25 = .ok (.iload 6, 2) := by decide +kernel
theorem dX8_misses_27 : decode cX8_misses 27 = .ok (.iconst 3, 1) := by decide +kernel
theorem dX8_misses_28 : decode cX8_misses 28 = .ok (.if_icmp .le 5, 3) := by decide +kernel
theorem dX8_misses_31 : decode cX8_misses 31 = .ok (.iconst (-1), 1) := by decide +kernel
theorem dX8_misses_32 : decode cX8_misses 32 = .ok (.ireturn, 1) := by decide +kernel
theorem dX8_misses_33 : decode cX8_misses 33 = .ok (.aload_n 0, 1) := by decide +kernel
theorem dX8_misses_34 : decode cX8_misses 34 = .ok (.getfield 35, 3) := by decide +kernel
theorem dX8_misses_37 : decode cX8_misses 37 = .ok (.iload_n 1, 1) := by decide +kernel
theorem dX8_misses_38 : decode cX8_misses 38 = .ok (.iload_n 2, 1) := by decide +kernel
theorem dX8_misses_39 : decode cX8_misses 39 = .ok (.iload_n 3, 1) := by decide +kernel
theorem dX8_misses_40 : decode cX8_misses 40 = .ok (.iload 4, 2) := by decide +kernel
theorem dX8_misses_42 : decode cX8_misses 42 = .ok (.iload 5, 2) := by decide +kernel
theorem dX8_misses_44 : decode cX8_misses 44 = .ok (.invokevirtual 149, 3) := by decide +kernel
theorem dX8_misses_47 : decode cX8_misses 47 = .ok (.iload 6, 2) := by decide +kernel
theorem dX8_misses_49 : decode cX8_misses 49 = .ok (.iconst 2, 1) := by decide +kernel
theorem dX8_misses_50 : decode cX8_misses 50 = .ok (.if_icmp .ge 26, 3) := by decide +kernel
theorem dX8_misses_53 : decode cX8_misses 53 = .ok (.iload 6, 2) := by decide +kernel
theorem dX8_misses_55 : decode cX8_misses 55 = .ok (.ifCond .ne 13, 3) := by decide +kernel
theorem dX8_misses_58 : decode cX8_misses 58 = .ok (.aload_n 0, 1) := by decide +kernel
theorem dX8_misses_59 : decode cX8_misses 59 = .ok (.getfield 35, 3) := by decide +kernel
theorem dX8_misses_62 : decode cX8_misses 62 = .ok (.getfield 159, 3) := by decide +kernel
theorem dX8_misses_65 : decode cX8_misses 65 = .ok (.goto 10, 3) := by decide +kernel
theorem dX8_misses_68 : decode cX8_misses 68 = .ok (.aload_n 0, 1) := by decide +kernel
theorem dX8_misses_69 : decode cX8_misses 69 = .ok (.getfield 35, 3) := by decide +kernel
theorem dX8_misses_72 : decode cX8_misses 72 = .ok (.getfield 162, 3) := by decide +kernel
theorem dX8_misses_75 : decode cX8_misses 75 = .ok (.ireturn, 1) := by decide +kernel
theorem dX8_misses_76 : decode cX8_misses 76 = .ok (.aload_n 0, 1) := by decide +kernel
theorem dX8_misses_77 : decode cX8_misses 77 = .ok (.getfield 35, 3) := by decide +kernel
theorem dX8_misses_80 : decode cX8_misses 80 = .ok (.iload 4, 2) := by decide +kernel
theorem dX8_misses_82 : decode cX8_misses 82 = .ok (.iload 5, 2) := by decide +kernel
theorem dX8_misses_84 : decode cX8_misses 84 = .ok (.invokevirtual 165, 3) := by decide +kernel
theorem dX8_misses_87 : decode cX8_misses 87 = .ok (.istore 7, 2) := by decide +kernel
theorem dX8_misses_89 : decode cX8_misses 89 = .ok (.iload 7, 2) := by decide +kernel
theorem dX8_misses_91 : decode cX8_misses 91 = .ok (.ifCond .ge 8, 3) := by decide +kernel
theorem dX8_misses_94 : decode cX8_misses 94 = .ok (.bipush (-4), 2) := by decide +kernel
theorem dX8_misses_96 : decode cX8_misses 96 = .ok (.goto 23, 3) := by decide +kernel
theorem dX8_misses_99 : decode cX8_misses 99 = .ok (.iload 6, 2) := by decide +kernel
theorem dX8_misses_101 : decode cX8_misses 101 = .ok (.iconst 2, 1) := by decide +kernel
theorem dX8_misses_102 : decode cX8_misses 102 = .ok (.if_icmp .ne 15, 3) := by decide +kernel
theorem dX8_misses_105 : decode cX8_misses 105 = .ok (.aload_n 0, 1) := by decide +kernel
theorem dX8_misses_106 : decode cX8_misses 106 = .ok (.getfield 35, 3) := by decide +kernel
theorem dX8_misses_109 : decode cX8_misses 109 = .ok (.iload 7, 2) := by decide +kernel
theorem dX8_misses_111 : decode cX8_misses 111 = .ok (.invokevirtual 152, 3) := by decide +kernel
theorem dX8_misses_114 : decode cX8_misses 114 = .ok (.goto 5, 3) := by decide +kernel
theorem dX8_misses_117 : decode cX8_misses 117 = .ok (.iload 7, 2) := by decide +kernel
theorem dX8_misses_119 : decode cX8_misses 119 = .ok (.ireturn, 1) := by decide +kernel
theorem dX8_best_0 : decode cX8_best 0 = .ok (.iload_n 1, 1) := by decide +kernel
theorem dX8_best_1 : decode cX8_best 1 = .ok (.invokestatic 70, 3) := by decide +kernel
theorem dX8_best_4 : decode cX8_best 4 = .ok (.ifCond .eq 19, 3) := by decide +kernel
theorem dX8_best_7 : decode cX8_best 7 = .ok (.iload_n 2, 1) := by decide +kernel
theorem dX8_best_8 : decode cX8_best 8 = .ok (.invokestatic 168, 3) := by decide +kernel
theorem dX8_best_11 : decode cX8_best 11 = .ok (.ifCond .eq 12, 3) := by decide +kernel
theorem dX8_best_14 : decode cX8_best 14 = .ok (.iload_n 3, 1) := by decide +kernel
theorem dX8_best_15 : decode cX8_best 15 = .ok (.iload 4, 2) := by decide +kernel
theorem dX8_best_17 : decode cX8_best 17 = .ok (.invokestatic 156, 3) := by decide +kernel
theorem dX8_best_20 : decode cX8_best 20 = .ok (.ifCond .ne 5, 3) := by decide +kernel
theorem dX8_best_23 : decode cX8_best 23 = .ok (.iconst (-1), 1) := by decide +kernel
theorem dX8_best_24 : decode cX8_best 24 = .ok (.ireturn, 1) := by decide +kernel
theorem dX8_best_25 : decode cX8_best 25 = .ok (.bipush (-4), 2) := by decide +kernel
theorem dX8_best_27 : decode cX8_best 27 = .ok (.istore 5, 2) := by decide +kernel
theorem dX8_best_29 : decode cX8_best 29 = .ok (.iconst 0, 1) := by decide +kernel
theorem dX8_best_30 : decode cX8_best 30 = .ok (.istore 6, 2) := by decide +kernel
theorem dX8_best_32 : decode cX8_best 32 = .ok (.iconst 0, 1) := by decide +kernel
theorem dX8_best_33 : decode cX8_best 33 = .ok (.istore 7, 2) := by decide +kernel
theorem dX8_best_35 : decode cX8_best 35 = .ok (.iconst 0, 1) := by decide +kernel
theorem dX8_best_36 : decode cX8_best 36 = .ok (.istore 8, 2) := by decide +kernel
theorem dX8_best_38 : decode cX8_best 38 = .ok (.iload 8, 2) := by decide +kernel
theorem dX8_best_40 : decode cX8_best 40 = .ok (.aload_n 0, 1) := by decide +kernel
theorem dX8_best_41 : decode cX8_best 41 = .ok (.getfield 26, 3) := by decide +kernel
theorem dX8_best_44 : decode cX8_best 44 = .ok (.getfield 114, 3) := by decide +kernel
theorem dX8_best_47 : decode cX8_best 47 = .ok (.if_icmp .ge 100, 3) := by decide +kernel
theorem dX8_best_50 : decode cX8_best 50 = .ok (.aload_n 0, 1) := by decide +kernel
theorem dX8_best_51 : decode cX8_best 51 = .ok (.getfield 35, 3) := by decide +kernel
theorem dX8_best_54 : decode cX8_best 54 = .ok (.iload_n 1, 1) := by decide +kernel
theorem dX8_best_55 : decode cX8_best 55 = .ok (.iload 8, 2) := by decide +kernel
theorem dX8_best_57 : decode cX8_best 57 = .ok (.iload_n 2, 1) := by decide +kernel
theorem dX8_best_58 : decode cX8_best 58 = .ok (.iload_n 3, 1) := by decide +kernel
theorem dX8_best_59 : decode cX8_best 59 = .ok (.iload 4, 2) := by decide +kernel
theorem dX8_best_61 : decode cX8_best 61 = .ok (.invokevirtual 149, 3) := by decide +kernel
theorem dX8_best_64 : decode cX8_best 64 = .ok (.aload_n 0, 1) := by decide +kernel
theorem dX8_best_65 : decode cX8_best 65 = .ok (.getfield 35, 3) := by decide +kernel
theorem dX8_best_68 : decode cX8_best 68 = .ok (.getfield 162, 3) := by decide +kernel
theorem dX8_best_71 : decode cX8_best 71 = .ok (.i2l, 1) := by decide +kernel
theorem dX8_best_72 : decode cX8_best 72 = .ok (.iload 6, 2) := by decide +kernel
theorem dX8_best_74 : decode cX8_best 74 = .ok (.i2l, 1) := by decide +kernel
theorem dX8_best_75 : decode cX8_best 75 = .ok (.lmul, 1) := by decide +kernel
theorem dX8_best_76 : decode cX8_best 76 = .ok (.iload 7, 2) := by decide +kernel
theorem dX8_best_78 : decode cX8_best 78 = .ok (.i2l, 1) := by decide +kernel
theorem dX8_best_79 : decode cX8_best 79 = .ok (.aload_n 0, 1) := by decide +kernel
theorem dX8_best_80 : decode cX8_best 80 = .ok (.getfield 35, 3) := by decide +kernel
theorem dX8_best_83 : decode cX8_best 83 = .ok (.getfield 159, 3) := by decide +kernel
theorem dX8_best_86 : decode cX8_best 86 = .ok (.i2l, 1) := by decide +kernel
theorem dX8_best_87 : decode cX8_best 87 = .ok (.lmul, 1) := by decide +kernel
theorem dX8_best_88 : decode cX8_best 88 = .ok (.lcmp, 1) := by decide +kernel
theorem dX8_best_89 : decode cX8_best 89 = .ok (.ifCond .ge 7, 3) := by decide +kernel
theorem dX8_best_92 : decode cX8_best 92 = .ok (.iconst 1, 1) := by decide +kernel
theorem dX8_best_93 : decode cX8_best 93 = .ok (.goto 4, 3) := by decide +kernel
theorem dX8_best_96 : decode cX8_best 96 = .ok (.iconst 0, 1) := by decide +kernel
theorem dX8_best_97 : decode cX8_best 97 = .ok (.istore 9, 2) := by decide +kernel
theorem dX8_best_99 : decode cX8_best 99 = .ok (.aload_n 0, 1) := by decide +kernel
theorem dX8_best_100 : decode cX8_best 100 = .ok (.getfield 35, 3) := by decide +kernel
theorem dX8_best_103 : decode cX8_best 103 = .ok (.getfield 159, 3) := by decide +kernel
theorem dX8_best_106 : decode cX8_best 106 = .ok (.ifCond .le 35, 3) := by decide +kernel
theorem dX8_best_109 : decode cX8_best 109 = .ok (.iload 5, 2) := by decide +kernel
theorem dX8_best_111 : decode cX8_best 111 = .ok (.ifCond .lt 8, 3) := by decide +kernel
theorem dX8_best_114 : decode cX8_best 114 = .ok (.iload 9, 2) := by decide +kernel
theorem dX8_best_116 : decode cX8_best 116 = .ok (.ifCond .eq 25, 3) := by decide +kernel
theorem dX8_best_119 : decode cX8_best 119 = .ok (.iload 8, 2) := by decide +kernel
theorem dX8_best_121 : decode cX8_best 121 = .ok (.istore 5, 2) := by decide +kernel
theorem dX8_best_123 : decode cX8_best 123 = .ok (.aload_n 0, 1) := by decide +kernel
theorem dX8_best_124 : decode cX8_best 124 = .ok (.getfield 35, 3) := by decide +kernel
theorem dX8_best_127 : decode cX8_best 127 = .ok (.getfield 159, 3) := by decide +kernel
theorem dX8_best_130 : decode cX8_best 130 = .ok (.istore 6, 2) := by decide +kernel
theorem dX8_best_132 : decode cX8_best 132 = .ok (.aload_n 0, 1) := by decide +kernel
theorem dX8_best_133 : decode cX8_best 133 = .ok (.getfield 35, 3) := by decide +kernel
theorem dX8_best_136 : decode cX8_best 136 = .ok (.getfield 162, 3) := by decide +kernel
theorem dX8_best_139 : decode cX8_best 139 = .ok (.istore 7, 2) := by decide +kernel
theorem dX8_best_141 : decode cX8_best 141 = .ok (.iinc 8 1, 3) := by decide +kernel
theorem dX8_best_144 : decode cX8_best 144 = .ok (.goto (-106), 3) := by decide +kernel
theorem dX8_best_147 : decode cX8_best 147 = .ok (.iload 5, 2) := by decide +kernel
theorem dX8_best_149 : decode cX8_best 149 = .ok (.ireturn, 1) := by decide +kernel
theorem dX8_fit_0 : decode cX8_fit 0 = .ok (.iload_n 2, 1) := by decide +kernel
theorem dX8_fit_1 : decode cX8_fit 1 = .ok (.ifCond .lt 12, 3) := by decide +kernel
theorem dX8_fit_4 : decode cX8_fit 4 = .ok (.iload_n 2, 1) := by decide +kernel
theorem dX8_fit_5 : decode cX8_fit 5 = .ok (.iconst 3, 1) := by decide +kernel
theorem dX8_fit_6 : decode cX8_fit 6 = .ok (.if_icmp .gt 7, 3) := by decide +kernel
theorem dX8_fit_9 : decode cX8_fit 9 = .ok (.iconst 1, 1) := by decide +kernel
theorem dX8_fit_10 : decode cX8_fit 10 = .ok (.goto 4, 3) := by decide +kernel
theorem dX8_fit_13 : decode cX8_fit 13 = .ok (.iconst 0, 1) := by decide +kernel
theorem dX8_fit_14 : decode cX8_fit 14 = .ok (.istore 7, 2) := by decide +kernel
theorem dX8_fit_16 : decode cX8_fit 16 = .ok (.iload_n 1, 1) := by decide +kernel
theorem dX8_fit_17 : decode cX8_fit 17 = .ok (.invokestatic 70, 3) := by decide +kernel
theorem dX8_fit_20 : decode cX8_fit 20 = .ok (.ifCond .eq 36, 3) := by decide +kernel
theorem dX8_fit_23 : decode cX8_fit 23 = .ok (.iload 7, 2) := by decide +kernel
theorem dX8_fit_25 : decode cX8_fit 25 = .ok (.ifCond .eq 31, 3) := by decide +kernel
theorem dX8_fit_28 : decode cX8_fit 28 = .ok (.iload_n 3, 1) := by decide +kernel
theorem dX8_fit_29 : decode cX8_fit 29 = .ok (.invokestatic 168, 3) := by decide +kernel
theorem dX8_fit_32 : decode cX8_fit 32 = .ok (.ifCond .eq 24, 3) := by decide +kernel
theorem dX8_fit_35 : decode cX8_fit 35 = .ok (.iload 4, 2) := by decide +kernel
theorem dX8_fit_37 : decode cX8_fit 37 = .ok (.iload 5, 2) := by decide +kernel
theorem dX8_fit_39 : decode cX8_fit 39 = .ok (.invokestatic 156, 3) := by decide +kernel
theorem dX8_fit_42 : decode cX8_fit 42 = .ok (.ifCond .eq 14, 3) := by decide +kernel
theorem dX8_fit_45 : decode cX8_fit 45 = .ok (.iload 6, 2) := by decide +kernel
theorem dX8_fit_47 : decode cX8_fit 47 = .ok (.ifCond .lt 9, 3) := by decide +kernel
theorem dX8_fit_50 : decode cX8_fit 50 = .ok (.iload 6, 2) := by decide +kernel
theorem dX8_fit_52 : decode cX8_fit 52 = .ok (.iconst 2, 1) := by decide +kernel
theorem dX8_fit_53 : decode cX8_fit 53 = .ok (.if_icmp .le 5, 3) := by decide +kernel
theorem dX8_fit_56 : decode cX8_fit 56 = .ok (.iconst (-1), 1) := by decide +kernel
theorem dX8_fit_57 : decode cX8_fit 57 = .ok (.ireturn, 1) := by decide +kernel
theorem dX8_fit_58 : decode cX8_fit 58 = .ok (.aload_n 0, 1) := by decide +kernel
theorem dX8_fit_59 : decode cX8_fit 59 = .ok (.getfield 44, 3) := by decide +kernel
theorem dX8_fit_62 : decode cX8_fit 62 = .ok (.iload_n 1, 1) := by decide +kernel
theorem dX8_fit_63 : decode cX8_fit 63 = .ok (.iload_n 2, 1) := by decide +kernel
theorem dX8_fit_64 : decode cX8_fit 64 = .ok (.iload_n 3, 1) := by decide +kernel
theorem dX8_fit_65 : decode cX8_fit 65 = .ok (.iload 4, 2) := by decide +kernel
theorem dX8_fit_67 : decode cX8_fit 67 = .ok (.iload 5, 2) := by decide +kernel
theorem dX8_fit_69 : decode cX8_fit 69 = .ok (.invokevirtual 171, 3) := by decide +kernel
theorem dX8_fit_72 : decode cX8_fit 72 = .ok (.aload_n 0, 1) := by decide +kernel
theorem dX8_fit_73 : decode cX8_fit 73 = .ok (.getfield 44, 3) := by decide +kernel
theorem dX8_fit_76 : decode cX8_fit 76 = .ok (.invokevirtual 172, 3) := by decide +kernel
theorem dX8_fit_79 : decode cX8_fit 79 = .ok (.istore 8, 2) := by decide +kernel
theorem dX8_fit_81 : decode cX8_fit 81 = .ok (.aload_n 0, 1) := by decide +kernel
theorem dX8_fit_82 : decode cX8_fit 82 = .ok (.getfield 44, 3) := by decide +kernel
theorem dX8_fit_85 : decode cX8_fit 85 = .ok (.getfield 176, 3) := by decide +kernel
theorem dX8_fit_88 : decode cX8_fit 88 = .ok (.iload 8, 2) := by decide +kernel
theorem dX8_fit_90 : decode cX8_fit 90 = .ok (.iaload, 1) := by decide +kernel
theorem dX8_fit_91 : decode cX8_fit 91 = .ok (.ifCond .ne 6, 3) := by decide +kernel
theorem dX8_fit_94 : decode cX8_fit 94 = .ok (.bipush (-4), 2) := by decide +kernel
theorem dX8_fit_96 : decode cX8_fit 96 = .ok (.ireturn, 1) := by decide +kernel
theorem dX8_fit_97 : decode cX8_fit 97 = .ok (.iload 6, 2) := by decide +kernel
theorem dX8_fit_99 : decode cX8_fit 99 = .ok (.ifCond .le 33, 3) := by decide +kernel
theorem dX8_fit_102 : decode cX8_fit 102 = .ok (.iload 6, 2) := by decide +kernel
theorem dX8_fit_104 : decode cX8_fit 104 = .ok (.iconst 1, 1) := by decide +kernel
theorem dX8_fit_105 : decode cX8_fit 105 = .ok (.if_icmp .ne 16, 3) := by decide +kernel
theorem dX8_fit_108 : decode cX8_fit 108 = .ok (.aload_n 0, 1) := by decide +kernel
theorem dX8_fit_109 : decode cX8_fit 109 = .ok (.getfield 44, 3) := by decide +kernel
theorem dX8_fit_112 : decode cX8_fit 112 = .ok (.getfield 176, 3) := by decide +kernel
theorem dX8_fit_115 : decode cX8_fit 115 = .ok (.iload 8, 2) := by decide +kernel
theorem dX8_fit_117 : decode cX8_fit 117 = .ok (.iaload, 1) := by decide +kernel
theorem dX8_fit_118 : decode cX8_fit 118 = .ok (.goto 13, 3) := by decide +kernel
theorem dX8_fit_121 : decode cX8_fit 121 = .ok (.aload_n 0, 1) := by decide +kernel
theorem dX8_fit_122 : decode cX8_fit 122 = .ok (.getfield 44, 3) := by decide +kernel
theorem dX8_fit_125 : decode cX8_fit 125 = .ok (.getfield 179, 3) := by decide +kernel
theorem dX8_fit_128 : decode cX8_fit 128 = .ok (.iload 8, 2) := by decide +kernel
theorem dX8_fit_130 : decode cX8_fit 130 = .ok (.iaload, 1) := by decide +kernel
theorem dX8_fit_131 : decode cX8_fit 131 = .ok (.ireturn, 1) := by decide +kernel
theorem dX8_fit_132 : decode cX8_fit 132 = .ok (.iload_n 2, 1) := by decide +kernel
theorem dX8_fit_133 : decode cX8_fit 133 = .ok (.iconst 2, 1) := by decide +kernel
theorem dX8_fit_134 : decode cX8_fit 134 = .ok (.if_icmp .ne 20, 3) := by decide +kernel
theorem dX8_fit_137 : decode cX8_fit 137 = .ok (.iload 8, 2) := by decide +kernel
theorem dX8_fit_139 : decode cX8_fit 139 = .ok (.bipush 11, 2) := by decide +kernel
theorem dX8_fit_141 : decode cX8_fit 141 = .ok (.idiv, 1) := by decide +kernel
theorem dX8_fit_142 : decode cX8_fit 142 = .ok (.bipush 10, 2) := by decide +kernel
theorem dX8_fit_144 : decode cX8_fit 144 = .ok (.imul, 1) := by decide +kernel
theorem dX8_fit_145 : decode cX8_fit 145 = .ok (.iload 8, 2) := by decide +kernel
theorem dX8_fit_147 : decode cX8_fit 147 = .ok (.bipush 11, 2) := by decide +kernel
theorem dX8_fit_149 : decode cX8_fit 149 = .ok (.irem, 1) := by decide +kernel
theorem dX8_fit_150 : decode cX8_fit 150 = .ok (.iadd, 1) := by decide +kernel
theorem dX8_fit_151 : decode cX8_fit 151 = .ok (.goto 7, 3) := by decide +kernel
theorem dX8_fit_154 : decode cX8_fit 154 = .ok (.iload 8, 2) := by decide +kernel
theorem dX8_fit_156 : decode cX8_fit 156 = .ok (.iconst 1, 1) := by decide +kernel
theorem dX8_fit_157 : decode cX8_fit 157 = .ok (.iadd, 1) := by decide +kernel
theorem dX8_fit_158 : decode cX8_fit 158 = .ok (.ireturn, 1) := by decide +kernel
theorem dX8_span_0 : decode cX8_span 0 = .ok (.aload_n 0, 1) := by decide +kernel
theorem dX8_span_1 : decode cX8_span 1 = .ok (.iload_n 1, 1) := by decide +kernel
theorem dX8_span_2 : decode cX8_span 2 = .ok (.iload_n 2, 1) := by decide +kernel
theorem dX8_span_3 : decode cX8_span 3 = .ok (.iload_n 3, 1) := by decide +kernel
theorem dX8_span_4 : decode cX8_span 4 = .ok (.invokevirtual 130, 3) := by decide +kernel
theorem dX8_span_7 : decode cX8_span 7 = .ok (.ifCond .eq 21, 3) := by decide +kernel
theorem dX8_span_10 : decode cX8_span 10 = .ok (.iload 4, 2) := by decide +kernel
theorem dX8_span_12 : decode cX8_span 12 = .ok (.iload 5, 2) := by decide +kernel
theorem dX8_span_14 : decode cX8_span 14 = .ok (.invokestatic 156, 3) := by decide +kernel
theorem dX8_span_17 : decode cX8_span 17 = .ok (.ifCond .eq 11, 3) := by decide +kernel
theorem dX8_span_20 : decode cX8_span 20 = .ok (.iload 6, 2) := by decide +kernel
theorem dX8_span_22 : decode cX8_span 22 = .ok (.invokestatic 182, 3) := by decide +kernel
theorem dX8_span_25 : decode cX8_span 25 = .ok (.ifCond .ne 5, 3) := by decide +kernel
theorem dX8_span_28 : decode cX8_span 28 = .ok (.iconst (-1), 1) := by decide +kernel
theorem dX8_span_29 : decode cX8_span 29 = .ok (.ireturn, 1) := by decide +kernel
theorem dX8_span_30 : decode cX8_span 30 = .ok (.aload_n 0, 1) := by decide +kernel
theorem dX8_span_31 : decode cX8_span 31 = .ok (.getfield 35, 3) := by decide +kernel
theorem dX8_span_34 : decode cX8_span 34 = .ok (.iload_n 1, 1) := by decide +kernel
theorem dX8_span_35 : decode cX8_span 35 = .ok (.iload_n 2, 1) := by decide +kernel
theorem dX8_span_36 : decode cX8_span 36 = .ok (.iload_n 3, 1) := by decide +kernel
theorem dX8_span_37 : decode cX8_span 37 = .ok (.iload 4, 2) := by decide +kernel
theorem dX8_span_39 : decode cX8_span 39 = .ok (.iload 5, 2) := by decide +kernel
theorem dX8_span_41 : decode cX8_span 41 = .ok (.invokevirtual 149, 3) := by decide +kernel
theorem dX8_span_44 : decode cX8_span 44 = .ok (.aload_n 0, 1) := by decide +kernel
theorem dX8_span_45 : decode cX8_span 45 = .ok (.getfield 35, 3) := by decide +kernel
theorem dX8_span_48 : decode cX8_span 48 = .ok (.iconst 0, 1) := by decide +kernel
theorem dX8_span_49 : decode cX8_span 49 = .ok (.putfield 185, 3) := by decide +kernel
theorem dX8_span_52 : decode cX8_span 52 = .ok (.iload 4, 2) := by decide +kernel
theorem dX8_span_54 : decode cX8_span 54 = .ok (.istore 7, 2) := by decide +kernel
theorem dX8_span_56 : decode cX8_span 56 = .ok (.iload 7, 2) := by decide +kernel
theorem dX8_span_58 : decode cX8_span 58 = .ok (.iload 5, 2) := by decide +kernel
theorem dX8_span_60 : decode cX8_span 60 = .ok (.if_icmp .gt 18, 3) := by decide +kernel
theorem dX8_span_63 : decode cX8_span 63 = .ok (.aload_n 0, 1) := by decide +kernel
theorem dX8_span_64 : decode cX8_span 64 = .ok (.getfield 35, 3) := by decide +kernel
theorem dX8_span_67 : decode cX8_span 67 = .ok (.iload 7, 2) := by decide +kernel
theorem dX8_span_69 : decode cX8_span 69 = .ok (.invokevirtual 188, 3) := by decide +kernel
theorem dX8_span_72 : decode cX8_span 72 = .ok (.iinc 7 1, 3) := by decide +kernel
theorem dX8_span_75 : decode cX8_span 75 = .ok (.goto (-19), 3) := by decide +kernel
theorem dX8_span_78 : decode cX8_span 78 = .ok (.aload_n 0, 1) := by decide +kernel
theorem dX8_span_79 : decode cX8_span 79 = .ok (.getfield 35, 3) := by decide +kernel
theorem dX8_span_82 : decode cX8_span 82 = .ok (.iload 6, 2) := by decide +kernel
theorem dX8_span_84 : decode cX8_span 84 = .ok (.invokevirtual 192, 3) := by decide +kernel
theorem dX8_span_87 : decode cX8_span 87 = .ok (.ireturn, 1) := by decide +kernel
theorem dX8_hold_0 : decode cX8_hold 0 = .ok (.aload_n 0, 1) := by decide +kernel
theorem dX8_hold_1 : decode cX8_hold 1 = .ok (.iload_n 1, 1) := by decide +kernel
theorem dX8_hold_2 : decode cX8_hold 2 = .ok (.iload_n 2, 1) := by decide +kernel
theorem dX8_hold_3 : decode cX8_hold 3 = .ok (.iload_n 3, 1) := by decide +kernel
theorem dX8_hold_4 : decode cX8_hold 4 = .ok (.invokevirtual 130, 3) := by decide +kernel
theorem dX8_hold_7 : decode cX8_hold 7 = .ok (.ifCond .eq 26, 3) := by decide +kernel
theorem dX8_hold_10 : decode cX8_hold 10 = .ok (.iload 4, 2) := by decide +kernel
theorem dX8_hold_12 : decode cX8_hold 12 = .ok (.iload 5, 2) := by decide +kernel
theorem dX8_hold_14 : decode cX8_hold 14 = .ok (.invokestatic 156, 3) := by decide +kernel
theorem dX8_hold_17 : decode cX8_hold 17 = .ok (.ifCond .eq 16, 3) := by decide +kernel
theorem dX8_hold_20 : decode cX8_hold 20 = .ok (.iload 6, 2) := by decide +kernel
theorem dX8_hold_22 : decode cX8_hold 22 = .ok (.ifCond .lt 11, 3) := by decide +kernel
theorem dX8_hold_25 : decode cX8_hold 25 = .ok (.iload 6, 2) := by decide +kernel
theorem dX8_hold_27 : decode cX8_hold 27 = .ok (.sipush 999, 3) := by decide +kernel
theorem dX8_hold_30 : decode cX8_hold 30 = .ok (.if_icmp .le 5, 3) := by decide +kernel
theorem dX8_hold_33 : decode cX8_hold 33 = .ok (.iconst (-1), 1) := by decide +kernel
theorem dX8_hold_34 : decode cX8_hold 34 = .ok (.ireturn, 1) := by decide +kernel
theorem dX8_hold_35 : decode cX8_hold 35 = .ok (.aload_n 0, 1) := by decide +kernel
theorem dX8_hold_36 : decode cX8_hold 36 = .ok (.getfield 35, 3) := by decide +kernel
theorem dX8_hold_39 : decode cX8_hold 39 = .ok (.iload_n 1, 1) := by decide +kernel
theorem dX8_hold_40 : decode cX8_hold 40 = .ok (.iload_n 2, 1) := by decide +kernel
theorem dX8_hold_41 : decode cX8_hold 41 = .ok (.iload_n 3, 1) := by decide +kernel
theorem dX8_hold_42 : decode cX8_hold 42 = .ok (.iload 4, 2) := by decide +kernel
theorem dX8_hold_44 : decode cX8_hold 44 = .ok (.iload 5, 2) := by decide +kernel
theorem dX8_hold_46 : decode cX8_hold 46 = .ok (.invokevirtual 149, 3) := by decide +kernel
theorem dX8_hold_49 : decode cX8_hold 49 = .ok (.iconst 0, 1) := by decide +kernel
theorem dX8_hold_50 : decode cX8_hold 50 = .ok (.istore 7, 2) := by decide +kernel
theorem dX8_hold_52 : decode cX8_hold 52 = .ok (.iload 4, 2) := by decide +kernel
theorem dX8_hold_54 : decode cX8_hold 54 = .ok (.istore 8, 2) := by decide +kernel
theorem dX8_hold_56 : decode cX8_hold 56 = .ok (.iload 8, 2) := by decide +kernel
theorem dX8_hold_58 : decode cX8_hold 58 = .ok (.iload 5, 2) := by decide +kernel
theorem dX8_hold_60 : decode cX8_hold 60 = .ok (.if_icmp .gt 37, 3) := by decide +kernel
theorem dX8_hold_63 : decode cX8_hold 63 = .ok (.aload_n 0, 1) := by decide +kernel
theorem dX8_hold_64 : decode cX8_hold 64 = .ok (.getfield 35, 3) := by decide +kernel
theorem dX8_hold_67 : decode cX8_hold 67 = .ok (.iload 8, 2) := by decide +kernel
theorem dX8_hold_69 : decode cX8_hold 69 = .ok (.invokevirtual 152, 3) := by decide +kernel
theorem dX8_hold_72 : decode cX8_hold 72 = .ok (.istore 9, 2) := by decide +kernel
theorem dX8_hold_74 : decode cX8_hold 74 = .ok (.iload 9, 2) := by decide +kernel
theorem dX8_hold_76 : decode cX8_hold 76 = .ok (.bipush (-4), 2) := by decide +kernel
theorem dX8_hold_78 : decode cX8_hold 78 = .ok (.if_icmp .eq 13, 3) := by decide +kernel
theorem dX8_hold_81 : decode cX8_hold 81 = .ok (.iload 9, 2) := by decide +kernel
theorem dX8_hold_83 : decode cX8_hold 83 = .ok (.iload 6, 2) := by decide +kernel
theorem dX8_hold_85 : decode cX8_hold 85 = .ok (.if_icmp .gt 6, 3) := by decide +kernel
theorem dX8_hold_88 : decode cX8_hold 88 = .ok (.iinc 7 1, 3) := by decide +kernel
theorem dX8_hold_91 : decode cX8_hold 91 = .ok (.iinc 8 1, 3) := by decide +kernel
theorem dX8_hold_94 : decode cX8_hold 94 = .ok (.goto (-38), 3) := by decide +kernel
theorem dX8_hold_97 : decode cX8_hold 97 = .ok (.iload 7, 2) := by decide +kernel
theorem dX8_hold_99 : decode cX8_hold 99 = .ok (.ireturn, 1) := by decide +kernel
theorem dX8_going_0 : decode cX8_going 0 = .ok (.aload_n 0, 1) := by decide +kernel
theorem dX8_going_1 : decode cX8_going 1 = .ok (.iload_n 1, 1) := by decide +kernel
theorem dX8_going_2 : decode cX8_going 2 = .ok (.iload_n 2, 1) := by decide +kernel
theorem dX8_going_3 : decode cX8_going 3 = .ok (.iload_n 3, 1) := by decide +kernel
theorem dX8_going_4 : decode cX8_going 4 = .ok (.invokevirtual 130, 3) := by decide +kernel
theorem dX8_going_7 : decode cX8_going 7 = .ok (.ifCond .eq 32, 3) := by decide +kernel
theorem dX8_going_10 : decode cX8_going 10 = .ok (.iload 4, 2) := by decide +kernel
theorem dX8_going_12 : decode cX8_going 12 = .ok (.iload 5, 2) := by decide +kernel
theorem dX8_going_14 : decode cX8_going 14 = .ok (.invokestatic 156, 3) := by decide +kernel
theorem dX8_going_17 : decode cX8_going 17 = .ok (.ifCond .eq 22, 3) := by decide +kernel
theorem dX8_going_20 : decode cX8_going 20 = .ok (.iload 6, 2) := by decide +kernel
theorem dX8_going_22 : decode cX8_going 22 = .ok (.invokestatic 182, 3) := by decide +kernel
theorem dX8_going_25 : decode cX8_going 25 = .ok (.ifCond .eq 14, 3) := by decide +kernel
theorem dX8_going_28 : decode cX8_going 28 = .ok (.iload 7, 2) := by decide +kernel
theorem dX8_going_30 : decode cX8_going 30 = .ok (.ifCond .lt 9, 3) := by decide +kernel
theorem dX8_going_33 : decode cX8_going 33 = .ok (.iload 7, 2) := by decide +kernel
theorem dX8_going_35 : decode cX8_going 35 = .ok (.iconst 1, 1) := by decide +kernel
theorem dX8_going_36 : decode cX8_going 36 = .ok (.if_icmp .le 5, 3) := by decide +kernel
theorem dX8_going_39 : decode cX8_going 39 = .ok (.iconst (-1), 1) := by decide +kernel
theorem dX8_going_40 : decode cX8_going 40 = .ok (.ireturn, 1) := by decide +kernel
theorem dX8_going_41 : decode cX8_going 41 = .ok (.aload_n 0, 1) := by decide +kernel
theorem dX8_going_42 : decode cX8_going 42 = .ok (.getfield 35, 3) := by decide +kernel
theorem dX8_going_45 : decode cX8_going 45 = .ok (.iload_n 1, 1) := by decide +kernel
theorem dX8_going_46 : decode cX8_going 46 = .ok (.iload_n 2, 1) := by decide +kernel
theorem dX8_going_47 : decode cX8_going 47 = .ok (.iload_n 3, 1) := by decide +kernel
theorem dX8_going_48 : decode cX8_going 48 = .ok (.iconst 0, 1) := by decide +kernel
theorem dX8_going_49 : decode cX8_going 49 = .ok (.iload 5, 2) := by decide +kernel
theorem dX8_going_51 : decode cX8_going 51 = .ok (.invokevirtual 149, 3) := by decide +kernel
theorem dX8_going_54 : decode cX8_going 54 = .ok (.aload_n 0, 1) := by decide +kernel
theorem dX8_going_55 : decode cX8_going 55 = .ok (.getfield 35, 3) := by decide +kernel
theorem dX8_going_58 : decode cX8_going 58 = .ok (.iconst 0, 1) := by decide +kernel
theorem dX8_going_59 : decode cX8_going 59 = .ok (.putfield 185, 3) := by decide +kernel
theorem dX8_going_62 : decode cX8_going 62 = .ok (.iconst 0, 1) := by decide +kernel
theorem dX8_going_63 : decode cX8_going 63 = .ok (.istore 8, 2) := by decide +kernel
theorem dX8_going_65 : decode cX8_going 65 = .ok (.iconst 0, 1) := by decide +kernel
theorem dX8_going_66 : decode cX8_going 66 = .ok (.istore 9, 2) := by decide +kernel
theorem dX8_going_68 : decode cX8_going 68 = .ok (.iconst 0, 1) := by decide +kernel
theorem dX8_going_69 : decode cX8_going 69 = .ok (.istore 10, 2) := by decide +kernel
theorem dX8_going_71 : decode cX8_going 71 = .ok (.iload 4, 2) := by decide +kernel
theorem dX8_going_73 : decode cX8_going 73 = .ok (.istore 11, 2) := by decide +kernel
theorem dX8_going_75 : decode cX8_going 75 = .ok (.iload 11, 2) := by decide +kernel
theorem dX8_going_77 : decode cX8_going 77 = .ok (.iload 5, 2) := by decide +kernel
theorem dX8_going_79 : decode cX8_going 79 = .ok (.if_icmp .gt 89, 3) := by decide +kernel
theorem dX8_going_82 : decode cX8_going 82 = .ok (.iload 8, 2) := by decide +kernel
theorem dX8_going_84 : decode cX8_going 84 = .ok (.iload 11, 2) := by decide +kernel
theorem dX8_going_86 : decode cX8_going 86 = .ok (.iload_n 3, 1) := by decide +kernel
theorem dX8_going_87 : decode cX8_going 87 = .ok (.isub, 1) := by decide +kernel
theorem dX8_going_88 : decode cX8_going 88 = .ok (.if_icmp .gt 18, 3) := by decide +kernel
theorem dX8_going_91 : decode cX8_going 91 = .ok (.aload_n 0, 1) := by decide +kernel
theorem dX8_going_92 : decode cX8_going 92 = .ok (.getfield 35, 3) := by decide +kernel
theorem dX8_going_95 : decode cX8_going 95 = .ok (.iload 8, 2) := by decide +kernel
theorem dX8_going_97 : decode cX8_going 97 = .ok (.invokevirtual 188, 3) := by decide +kernel
theorem dX8_going_100 : decode cX8_going 100 = .ok (.iinc 8 1, 3) := by decide +kernel
theorem dX8_going_103 : decode cX8_going 103 = .ok (.goto (-21), 3) := by decide +kernel
theorem dX8_going_106 : decode cX8_going 106 = .ok (.aload_n 0, 1) := by decide +kernel
theorem dX8_going_107 : decode cX8_going 107 = .ok (.getfield 35, 3) := by decide +kernel
theorem dX8_going_110 : decode cX8_going 110 = .ok (.iload 11, 2) := by decide +kernel
theorem dX8_going_112 : decode cX8_going 112 = .ok (.invokevirtual 152, 3) := by decide +kernel
theorem dX8_going_115 : decode cX8_going 115 = .ok (.istore 12, 2) := by decide +kernel
theorem dX8_going_117 : decode cX8_going 117 = .ok (.iload 12, 2) := by decide +kernel
theorem dX8_going_119 : decode cX8_going 119 = .ok (.bipush (-4), 2) := by decide +kernel
theorem dX8_going_121 : decode cX8_going 121 = .ok (.if_icmp .eq 41, 3) := by decide +kernel
theorem dX8_going_124 : decode cX8_going 124 = .ok (.aload_n 0, 1) := by decide +kernel
theorem dX8_going_125 : decode cX8_going 125 = .ok (.getfield 35, 3) := by decide +kernel
theorem dX8_going_128 : decode cX8_going 128 = .ok (.getfield 185, 3) := by decide +kernel
theorem dX8_going_131 : decode cX8_going 131 = .ok (.iconst 3, 1) := by decide +kernel
theorem dX8_going_132 : decode cX8_going 132 = .ok (.if_icmp .lt 30, 3) := by decide +kernel
theorem dX8_going_135 : decode cX8_going 135 = .ok (.iinc 9 1, 3) := by decide +kernel
theorem dX8_going_138 : decode cX8_going 138 = .ok (.iload 10, 2) := by decide +kernel
theorem dX8_going_140 : decode cX8_going 140 = .ok (.iload 12, 2) := by decide +kernel
theorem dX8_going_142 : decode cX8_going 142 = .ok (.aload_n 0, 1) := by decide +kernel
theorem dX8_going_143 : decode cX8_going 143 = .ok (.getfield 35, 3) := by decide +kernel
theorem dX8_going_146 : decode cX8_going 146 = .ok (.iload 6, 2) := by decide +kernel
theorem dX8_going_148 : decode cX8_going 148 = .ok (.invokevirtual 192, 3) := by decide +kernel
theorem dX8_going_151 : decode cX8_going 151 = .ok (.if_icmp .gt 7, 3) := by decide +kernel
theorem dX8_going_154 : decode cX8_going 154 = .ok (.iconst 1, 1) := by decide +kernel
theorem dX8_going_155 : decode cX8_going 155 = .ok (.goto 4, 3) := by decide +kernel
theorem dX8_going_158 : decode cX8_going 158 = .ok (.iconst 0, 1) := by decide +kernel
theorem dX8_going_159 : decode cX8_going 159 = .ok (.iadd, 1) := by decide +kernel
theorem dX8_going_160 : decode cX8_going 160 = .ok (.istore 10, 2) := by decide +kernel
theorem dX8_going_162 : decode cX8_going 162 = .ok (.iinc 11 1, 3) := by decide +kernel
theorem dX8_going_165 : decode cX8_going 165 = .ok (.goto (-90), 3) := by decide +kernel
theorem dX8_going_168 : decode cX8_going 168 = .ok (.iload 7, 2) := by decide +kernel
theorem dX8_going_170 : decode cX8_going 170 = .ok (.ifCond .ne 8, 3) := by decide +kernel
theorem dX8_going_173 : decode cX8_going 173 = .ok (.iload 9, 2) := by decide +kernel
theorem dX8_going_175 : decode cX8_going 175 = .ok (.goto 5, 3) := by decide +kernel
theorem dX8_going_178 : decode cX8_going 178 = .ok (.iload 10, 2) := by decide +kernel
theorem dX8_going_180 : decode cX8_going 180 = .ok (.ireturn, 1) := by decide +kernel
theorem dX8_agree_0 : decode cX8_agree 0 = .ok (.lload_n 1, 1) := by decide +kernel
theorem dX8_agree_1 : decode cX8_agree 1 = .ok (.lconst 0, 1) := by decide +kernel
theorem dX8_agree_2 : decode cX8_agree 2 = .ok (.lcmp, 1) := by decide +kernel
theorem dX8_agree_3 : decode cX8_agree 3 = .ok (.ifCond .lt 15, 3) := by decide +kernel
theorem dX8_agree_6 : decode cX8_agree 6 = .ok (.lload_n 1, 1) := by decide +kernel
theorem dX8_agree_7 : decode cX8_agree 7 = .ok (.ldc2_w 195, 3) := by decide +kernel
theorem dX8_agree_10 : decode cX8_agree 10 = .ok (.lcmp, 1) := by decide +kernel
theorem dX8_agree_11 : decode cX8_agree 11 = .ok (.ifCond .ge 7, 3) := by decide +kernel
theorem dX8_agree_14 : decode cX8_agree 14 = .ok (.iconst 1, 1) := by decide +kernel
theorem dX8_agree_15 : decode cX8_agree 15 = .ok (.goto 4, 3) := by decide +kernel
theorem dX8_agree_18 : decode cX8_agree 18 = .ok (.iconst 0, 1) := by decide +kernel
theorem dX8_agree_19 : decode cX8_agree 19 = .ok (.istore 6, 2) := by decide +kernel
theorem dX8_agree_21 : decode cX8_agree 21 = .ok (.iload_n 3, 1) := by decide +kernel
theorem dX8_agree_22 : decode cX8_agree 22 = .ok (.ifCond .lt 13, 3) := by decide +kernel
theorem dX8_agree_25 : decode cX8_agree 25 = .ok (.iload_n 3, 1) := by decide +kernel
theorem dX8_agree_26 : decode cX8_agree 26 = .ok (.ldc 197, 2) := by decide +kernel
theorem dX8_agree_28 : decode cX8_agree 28 = .ok (.if_icmp .ge 7, 3) := by decide +kernel
theorem dX8_agree_31 : decode cX8_agree 31 = .ok (.iconst 1, 1) := by decide +kernel
theorem dX8_agree_32 : decode cX8_agree 32 = .ok (.goto 4, 3) := by decide +kernel
theorem dX8_agree_35 : decode cX8_agree 35 = .ok (.iconst 0, 1) := by decide +kernel
theorem dX8_agree_36 : decode cX8_agree 36 = .ok (.istore 7, 2) := by decide +kernel
theorem dX8_agree_38 : decode cX8_agree 38 = .ok (.iload 6, 2) := by decide +kernel
theorem dX8_agree_40 : decode cX8_agree 40 = .ok (.ifCond .eq 29, 3) := by decide +kernel
theorem dX8_agree_43 : decode cX8_agree 43 = .ok (.iload 7, 2) := by decide +kernel
theorem dX8_agree_45 : decode cX8_agree 45 = .ok (.ifCond .eq 24, 3) := by decide +kernel
theorem dX8_agree_48 : decode cX8_agree 48 = .ok (.iload 4, 2) := by decide +kernel
theorem dX8_agree_50 : decode cX8_agree 50 = .ok (.ifCond .lt 19, 3) := by decide +kernel
theorem dX8_agree_53 : decode cX8_agree 53 = .ok (.iload 4, 2) := by decide +kernel
theorem dX8_agree_55 : decode cX8_agree 55 = .ok (.sipush 9999, 3) := by decide +kernel
theorem dX8_agree_58 : decode cX8_agree 58 = .ok (.if_icmp .gt 11, 3) := by decide +kernel
theorem dX8_agree_61 : decode cX8_agree 61 = .ok (.iload 5, 2) := by decide +kernel
theorem dX8_agree_63 : decode cX8_agree 63 = .ok (.invokestatic 70, 3) := by decide +kernel
theorem dX8_agree_66 : decode cX8_agree 66 = .ok (.ifCond .ne 6, 3) := by decide +kernel
theorem dX8_agree_69 : decode cX8_agree 69 = .ok (.ldc 198, 2) := by decide +kernel
theorem dX8_agree_71 : decode cX8_agree 71 = .ok (.ireturn, 1) := by decide +kernel
theorem dX8_agree_72 : decode cX8_agree 72 = .ok (.iconst 0, 1) := by decide +kernel
theorem dX8_agree_73 : decode cX8_agree 73 = .ok (.istore 8, 2) := by decide +kernel
theorem dX8_agree_75 : decode cX8_agree 75 = .ok (.iconst 0, 1) := by decide +kernel
theorem dX8_agree_76 : decode cX8_agree 76 = .ok (.istore 9, 2) := by decide +kernel
theorem dX8_agree_78 : decode cX8_agree 78 = .ok (.iconst 0, 1) := by decide +kernel
theorem dX8_agree_79 : decode cX8_agree 79 = .ok (.istore 10, 2) := by decide +kernel
theorem dX8_agree_81 : decode cX8_agree 81 = .ok (.iload 10, 2) := by decide +kernel
theorem dX8_agree_83 : decode cX8_agree 83 = .ok (.iconst 4, 1) := by decide +kernel
theorem dX8_agree_84 : decode cX8_agree 84 = .ok (.if_icmp .ge 31, 3) := by decide +kernel
theorem dX8_agree_87 : decode cX8_agree 87 = .ok (.iload 8, 2) := by decide +kernel
theorem dX8_agree_89 : decode cX8_agree 89 = .ok (.lload_n 1, 1) := by decide +kernel
theorem dX8_agree_90 : decode cX8_agree 90 = .ok (.iload 10, 2) := by decide +kernel
theorem dX8_agree_92 : decode cX8_agree 92 = .ok (.invokestatic 199, 3) := by decide +kernel
theorem dX8_agree_95 : decode cX8_agree 95 = .ok (.iadd, 1) := by decide +kernel
theorem dX8_agree_96 : decode cX8_agree 96 = .ok (.istore 8, 2) := by decide +kernel
theorem dX8_agree_98 : decode cX8_agree 98 = .ok (.iload 9, 2) := by decide +kernel
theorem dX8_agree_100 : decode cX8_agree 100 = .ok (.iload_n 3, 1) := by decide +kernel
theorem dX8_agree_101 : decode cX8_agree 101 = .ok (.iload 10, 2) := by decide +kernel
theorem dX8_agree_103 : decode cX8_agree 103 = .ok (.invokestatic 203, 3) := by decide +kernel
theorem dX8_agree_106 : decode cX8_agree 106 = .ok (.iadd, 1) := by decide +kernel
theorem dX8_agree_107 : decode cX8_agree 107 = .ok (.istore 9, 2) := by decide +kernel
theorem dX8_agree_109 : decode cX8_agree 109 = .ok (.iinc 10 1, 3) := by decide +kernel
theorem dX8_agree_112 : decode cX8_agree 112 = .ok (.goto (-31), 3) := by decide +kernel
theorem dX8_agree_115 : decode cX8_agree 115 = .ok (.lload_n 1, 1) := by decide +kernel
theorem dX8_agree_116 : decode cX8_agree 116 = .ok (.iload 5, 2) := by decide +kernel
theorem dX8_agree_118 : decode cX8_agree 118 = .ok (.invokestatic 199, 3) := by decide +kernel
theorem dX8_agree_121 : decode cX8_agree 121 = .ok (.istore 10, 2) := by decide +kernel
theorem dX8_agree_123 : decode cX8_agree 123 = .ok (.iload 8, 2) := by decide +kernel
theorem dX8_agree_125 : decode cX8_agree 125 = .ok (.iload 4, 2) := by decide +kernel
theorem dX8_agree_127 : decode cX8_agree 127 = .ok (.if_icmp .ne 6, 3) := by decide +kernel
theorem dX8_agree_130 : decode cX8_agree 130 = .ok (.iload 10, 2) := by decide +kernel
theorem dX8_agree_132 : decode cX8_agree 132 = .ok (.ireturn, 1) := by decide +kernel
theorem dX8_agree_133 : decode cX8_agree 133 = .ok (.iload 9, 2) := by decide +kernel
theorem dX8_agree_135 : decode cX8_agree 135 = .ok (.ifCond .ne 6, 3) := by decide +kernel
theorem dX8_agree_138 : decode cX8_agree 138 = .ok (.ldc 206, 2) := by decide +kernel
theorem dX8_agree_140 : decode cX8_agree 140 = .ok (.ireturn, 1) := by decide +kernel
theorem dX8_agree_141 : decode cX8_agree 141 = .ok (.iload_n 3, 1) := by decide +kernel
theorem dX8_agree_142 : decode cX8_agree 142 = .ok (.iload 9, 2) := by decide +kernel
theorem dX8_agree_144 : decode cX8_agree 144 = .ok (.iload 4, 2) := by decide +kernel
theorem dX8_agree_146 : decode cX8_agree 146 = .ok (.iload 8, 2) := by decide +kernel
theorem dX8_agree_148 : decode cX8_agree 148 = .ok (.isub, 1) := by decide +kernel
theorem dX8_agree_149 : decode cX8_agree 149 = .ok (.invokestatic 207, 3) := by decide +kernel
theorem dX8_agree_152 : decode cX8_agree 152 = .ok (.iload 5, 2) := by decide +kernel
theorem dX8_agree_154 : decode cX8_agree 154 = .ok (.invokestatic 212, 3) := by decide +kernel
theorem dX8_agree_157 : decode cX8_agree 157 = .ok (.istore 11, 2) := by decide +kernel
theorem dX8_agree_159 : decode cX8_agree 159 = .ok (.iload 4, 2) := by decide +kernel
theorem dX8_agree_161 : decode cX8_agree 161 = .ok (.iload 8, 2) := by decide +kernel
theorem dX8_agree_163 : decode cX8_agree 163 = .ok (.if_icmp .le 11, 3) := by decide +kernel
theorem dX8_agree_166 : decode cX8_agree 166 = .ok (.iload 10, 2) := by decide +kernel
theorem dX8_agree_168 : decode cX8_agree 168 = .ok (.iload 11, 2) := by decide +kernel
theorem dX8_agree_170 : decode cX8_agree 170 = .ok (.iadd, 1) := by decide +kernel
theorem dX8_agree_171 : decode cX8_agree 171 = .ok (.goto 8, 3) := by decide +kernel
theorem dX8_agree_174 : decode cX8_agree 174 = .ok (.iload 10, 2) := by decide +kernel
theorem dX8_agree_176 : decode cX8_agree 176 = .ok (.iload 11, 2) := by decide +kernel
theorem dX8_agree_178 : decode cX8_agree 178 = .ok (.isub, 1) := by decide +kernel
theorem dX8_agree_179 : decode cX8_agree 179 = .ok (.ireturn, 1) := by decide +kernel
theorem dX8_number_0 : decode cX8_number 0 = .ok (.aload_n 0, 1) := by decide +kernel
theorem dX8_number_1 : decode cX8_number 1 = .ok (.iload_n 1, 1) := by decide +kernel
theorem dX8_number_2 : decode cX8_number 2 = .ok (.iload_n 2, 1) := by decide +kernel
theorem dX8_number_3 : decode cX8_number 3 = .ok (.iload_n 3, 1) := by decide +kernel
theorem dX8_number_4 : decode cX8_number 4 = .ok (.invokevirtual 130, 3) := by decide +kernel
theorem dX8_number_7 : decode cX8_number 7 = .ok (.ifCond .eq 24, 3) := by decide +kernel
theorem dX8_number_10 : decode cX8_number 10 = .ok (.iload 4, 2) := by decide +kernel
theorem dX8_number_12 : decode cX8_number 12 = .ok (.iload 5, 2) := by decide +kernel
theorem dX8_number_14 : decode cX8_number 14 = .ok (.invokestatic 156, 3) := by decide +kernel
theorem dX8_number_17 : decode cX8_number 17 = .ok (.ifCond .eq 14, 3) := by decide +kernel
theorem dX8_number_20 : decode cX8_number 20 = .ok (.iload 8, 2) := by decide +kernel
theorem dX8_number_22 : decode cX8_number 22 = .ok (.ifCond .lt 9, 3) := by decide +kernel
theorem dX8_number_25 : decode cX8_number 25 = .ok (.iload 8, 2) := by decide +kernel
theorem dX8_number_27 : decode cX8_number 27 = .ok (.iconst 1, 1) := by decide +kernel
theorem dX8_number_28 : decode cX8_number 28 = .ok (.if_icmp .le 5, 3) := by decide +kernel
theorem dX8_number_31 : decode cX8_number 31 = .ok (.iconst (-1), 1) := by decide +kernel
theorem dX8_number_32 : decode cX8_number 32 = .ok (.ireturn, 1) := by decide +kernel
theorem dX8_number_33 : decode cX8_number 33 = .ok (.iload 6, 2) := by decide +kernel
theorem dX8_number_35 : decode cX8_number 35 = .ok (.invokestatic 216, 3) := by decide +kernel
theorem dX8_number_38 : decode cX8_number 38 = .ok (.ifCond .eq 11, 3) := by decide +kernel
theorem dX8_number_41 : decode cX8_number 41 = .ok (.iload 7, 2) := by decide +kernel
theorem dX8_number_43 : decode cX8_number 43 = .ok (.invokestatic 216, 3) := by decide +kernel
theorem dX8_number_46 : decode cX8_number 46 = .ok (.ifCond .ne 5, 3) := by decide +kernel
theorem dX8_number_49 : decode cX8_number 49 = .ok (.iconst (-1), 1) := by decide +kernel
theorem dX8_number_50 : decode cX8_number 50 = .ok (.ireturn, 1) := by decide +kernel
theorem dX8_number_51 : decode cX8_number 51 = .ok (.aload_n 0, 1) := by decide +kernel
theorem dX8_number_52 : decode cX8_number 52 = .ok (.getfield 35, 3) := by decide +kernel
theorem dX8_number_55 : decode cX8_number 55 = .ok (.iload_n 1, 1) := by decide +kernel
theorem dX8_number_56 : decode cX8_number 56 = .ok (.iload_n 2, 1) := by decide +kernel
theorem dX8_number_57 : decode cX8_number 57 = .ok (.iload_n 3, 1) := by decide +kernel
theorem dX8_number_58 : decode cX8_number 58 = .ok (.aload_n 0, 1) := by decide +kernel
theorem dX8_number_59 : decode cX8_number 59 = .ok (.getfield 15, 3) := by decide +kernel
theorem dX8_number_62 : decode cX8_number 62 = .ok (.getfield 66, 3) := by decide +kernel
theorem dX8_number_65 : decode cX8_number 65 = .ok (.aload_n 0, 1) := by decide +kernel
theorem dX8_number_66 : decode cX8_number 66 = .ok (.getfield 15, 3) := by decide +kernel
theorem dX8_number_69 : decode cX8_number 69 = .ok (.getfield 66, 3) := by decide +kernel
theorem dX8_number_72 : decode cX8_number 72 = .ok (.invokevirtual 134, 3) := by decide +kernel
theorem dX8_number_75 : decode cX8_number 75 = .ok (.aload_n 0, 1) := by decide +kernel
theorem dX8_number_76 : decode cX8_number 76 = .ok (.getfield 35, 3) := by decide +kernel
theorem dX8_number_79 : decode cX8_number 79 = .ok (.iload_n 2, 1) := by decide +kernel
theorem dX8_number_80 : decode cX8_number 80 = .ok (.aload_n 0, 1) := by decide +kernel
theorem dX8_number_81 : decode cX8_number 81 = .ok (.getfield 15, 3) := by decide +kernel
theorem dX8_number_84 : decode cX8_number 84 = .ok (.getfield 66, 3) := by decide +kernel
theorem dX8_number_87 : decode cX8_number 87 = .ok (.invokevirtual 138, 3) := by decide +kernel
theorem dX8_number_90 : decode cX8_number 90 = .ok (.istore 9, 2) := by decide +kernel
theorem dX8_number_92 : decode cX8_number 92 = .ok (.aload_n 0, 1) := by decide +kernel
theorem dX8_number_93 : decode cX8_number 93 = .ok (.getfield 35, 3) := by decide +kernel
theorem dX8_number_96 : decode cX8_number 96 = .ok (.iload_n 1, 1) := by decide +kernel
theorem dX8_number_97 : decode cX8_number 97 = .ok (.iload_n 2, 1) := by decide +kernel
theorem dX8_number_98 : decode cX8_number 98 = .ok (.iload_n 3, 1) := by decide +kernel
theorem dX8_number_99 : decode cX8_number 99 = .ok (.iload 4, 2) := by decide +kernel
theorem dX8_number_101 : decode cX8_number 101 = .ok (.iload 5, 2) := by decide +kernel
theorem dX8_number_103 : decode cX8_number 103 = .ok (.invokevirtual 149, 3) := by decide +kernel
theorem dX8_number_106 : decode cX8_number 106 = .ok (.iload 9, 2) := by decide +kernel
theorem dX8_number_108 : decode cX8_number 108 = .ok (.bipush (-4), 2) := by decide +kernel
theorem dX8_number_110 : decode cX8_number 110 = .ok (.if_icmp .eq 13, 3) := by decide +kernel
theorem dX8_number_113 : decode cX8_number 113 = .ok (.aload_n 0, 1) := by decide +kernel
theorem dX8_number_114 : decode cX8_number 114 = .ok (.getfield 35, 3) := by decide +kernel
theorem dX8_number_117 : decode cX8_number 117 = .ok (.getfield 159, 3) := by decide +kernel
theorem dX8_number_120 : decode cX8_number 120 = .ok (.ifCond .ne 6, 3) := by decide +kernel
theorem dX8_number_123 : decode cX8_number 123 = .ok (.bipush (-4), 2) := by decide +kernel
theorem dX8_number_125 : decode cX8_number 125 = .ok (.ireturn, 1) := by decide +kernel
theorem dX8_number_126 : decode cX8_number 126 = .ok (.aload_n 0, 1) := by decide +kernel
theorem dX8_number_127 : decode cX8_number 127 = .ok (.getfield 35, 3) := by decide +kernel
theorem dX8_number_130 : decode cX8_number 130 = .ok (.iload 9, 2) := by decide +kernel
theorem dX8_number_132 : decode cX8_number 132 = .ok (.iload 4, 2) := by decide +kernel
theorem dX8_number_134 : decode cX8_number 134 = .ok (.iload 5, 2) := by decide +kernel
theorem dX8_number_136 : decode cX8_number 136 = .ok (.iload 6, 2) := by decide +kernel
theorem dX8_number_138 : decode cX8_number 138 = .ok (.iload 7, 2) := by decide +kernel
theorem dX8_number_140 : decode cX8_number 140 = .ok (.invokevirtual 219, 3) := by decide +kernel
theorem dX8_number_143 : decode cX8_number 143 = .ok (.istore 10, 2) := by decide +kernel
theorem dX8_number_145 : decode cX8_number 145 = .ok (.iload 8, 2) := by decide +kernel
theorem dX8_number_147 : decode cX8_number 147 = .ok (.ifCond .ne 8, 3) := by decide +kernel
theorem dX8_number_150 : decode cX8_number 150 = .ok (.iload 10, 2) := by decide +kernel
theorem dX8_number_152 : decode cX8_number 152 = .ok (.goto 23, 3) := by decide +kernel
theorem dX8_number_155 : decode cX8_number 155 = .ok (.aload_n 0, 1) := by decide +kernel
theorem dX8_number_156 : decode cX8_number 156 = .ok (.getfield 35, 3) := by decide +kernel
theorem dX8_number_159 : decode cX8_number 159 = .ok (.iload 10, 2) := by decide +kernel
theorem dX8_number_161 : decode cX8_number 161 = .ok (.iload 9, 2) := by decide +kernel
theorem dX8_number_163 : decode cX8_number 163 = .ok (.isub, 1) := by decide +kernel
theorem dX8_number_164 : decode cX8_number 164 = .ok (.iload 4, 2) := by decide +kernel
theorem dX8_number_166 : decode cX8_number 166 = .ok (.iload 5, 2) := by decide +kernel
theorem dX8_number_168 : decode cX8_number 168 = .ok (.iload 6, 2) := by decide +kernel
theorem dX8_number_170 : decode cX8_number 170 = .ok (.iload 7, 2) := by decide +kernel
theorem dX8_number_172 : decode cX8_number 172 = .ok (.invokevirtual 223, 3) := by decide +kernel
theorem dX8_number_175 : decode cX8_number 175 = .ok (.ireturn, 1) := by decide +kernel
theorem dX8_worth_0 : decode cX8_worth 0 = .ok (.aload_n 0, 1) := by decide +kernel
theorem dX8_worth_1 : decode cX8_worth 1 = .ok (.iload_n 1, 1) := by decide +kernel
theorem dX8_worth_2 : decode cX8_worth 2 = .ok (.iload_n 2, 1) := by decide +kernel
theorem dX8_worth_3 : decode cX8_worth 3 = .ok (.iload_n 3, 1) := by decide +kernel
theorem dX8_worth_4 : decode cX8_worth 4 = .ok (.invokevirtual 130, 3) := by decide +kernel
theorem dX8_worth_7 : decode cX8_worth 7 = .ok (.ifCond .eq 13, 3) := by decide +kernel
theorem dX8_worth_10 : decode cX8_worth 10 = .ok (.iload 4, 2) := by decide +kernel
theorem dX8_worth_12 : decode cX8_worth 12 = .ok (.iload 5, 2) := by decide +kernel
theorem dX8_worth_14 : decode cX8_worth 14 = .ok (.invokestatic 156, 3) := by decide +kernel
theorem dX8_worth_17 : decode cX8_worth 17 = .ok (.ifCond .ne 6, 3) := by decide +kernel
theorem dX8_worth_20 : decode cX8_worth 20 = .ok (.ldc 198, 2) := by decide +kernel
theorem dX8_worth_22 : decode cX8_worth 22 = .ok (.ireturn, 1) := by decide +kernel
theorem dX8_worth_23 : decode cX8_worth 23 = .ok (.aload_n 0, 1) := by decide +kernel
theorem dX8_worth_24 : decode cX8_worth 24 = .ok (.getfield 35, 3) := by decide +kernel
theorem dX8_worth_27 : decode cX8_worth 27 = .ok (.iload_n 1, 1) := by decide +kernel
theorem dX8_worth_28 : decode cX8_worth 28 = .ok (.iload_n 2, 1) := by decide +kernel
theorem dX8_worth_29 : decode cX8_worth 29 = .ok (.iload_n 3, 1) := by decide +kernel
theorem dX8_worth_30 : decode cX8_worth 30 = .ok (.iload 4, 2) := by decide +kernel
theorem dX8_worth_32 : decode cX8_worth 32 = .ok (.iload 5, 2) := by decide +kernel
theorem dX8_worth_34 : decode cX8_worth 34 = .ok (.invokevirtual 149, 3) := by decide +kernel
theorem dX8_worth_37 : decode cX8_worth 37 = .ok (.aload_n 0, 1) := by decide +kernel
theorem dX8_worth_38 : decode cX8_worth 38 = .ok (.getfield 35, 3) := by decide +kernel
theorem dX8_worth_41 : decode cX8_worth 41 = .ok (.iload 4, 2) := by decide +kernel
theorem dX8_worth_43 : decode cX8_worth 43 = .ok (.iload 5, 2) := by decide +kernel
theorem dX8_worth_45 : decode cX8_worth 45 = .ok (.invokevirtual 226, 3) := by decide +kernel
theorem dX8_worth_48 : decode cX8_worth 48 = .ok (.aload_n 0, 1) := by decide +kernel
theorem dX8_worth_49 : decode cX8_worth 49 = .ok (.getfield 35, 3) := by decide +kernel
theorem dX8_worth_52 : decode cX8_worth 52 = .ok (.getfield 230, 3) := by decide +kernel
theorem dX8_worth_55 : decode cX8_worth 55 = .ok (.ifCond .ne 8, 3) := by decide +kernel
theorem dX8_worth_58 : decode cX8_worth 58 = .ok (.ldc 206, 2) := by decide +kernel
theorem dX8_worth_60 : decode cX8_worth 60 = .ok (.goto 10, 3) := by decide +kernel
theorem dX8_worth_63 : decode cX8_worth 63 = .ok (.aload_n 0, 1) := by decide +kernel
theorem dX8_worth_64 : decode cX8_worth 64 = .ok (.getfield 35, 3) := by decide +kernel
theorem dX8_worth_67 : decode cX8_worth 67 = .ok (.getfield 233, 3) := by decide +kernel
theorem dX8_worth_70 : decode cX8_worth 70 = .ok (.ireturn, 1) := by decide +kernel
theorem dX8_dealt_0 : decode cX8_dealt 0 = .ok (.aload_n 0, 1) := by decide +kernel
theorem dX8_dealt_1 : decode cX8_dealt 1 = .ok (.iload_n 1, 1) := by decide +kernel
theorem dX8_dealt_2 : decode cX8_dealt 2 = .ok (.iload_n 2, 1) := by decide +kernel
theorem dX8_dealt_3 : decode cX8_dealt 3 = .ok (.iload_n 3, 1) := by decide +kernel
theorem dX8_dealt_4 : decode cX8_dealt 4 = .ok (.invokevirtual 130, 3) := by decide +kernel
theorem dX8_dealt_7 : decode cX8_dealt 7 = .ok (.ifCond .eq 24, 3) := by decide +kernel
theorem dX8_dealt_10 : decode cX8_dealt 10 = .ok (.iload 4, 2) := by decide +kernel
theorem dX8_dealt_12 : decode cX8_dealt 12 = .ok (.iload 5, 2) := by decide +kernel
theorem dX8_dealt_14 : decode cX8_dealt 14 = .ok (.invokestatic 156, 3) := by decide +kernel
theorem dX8_dealt_17 : decode cX8_dealt 17 = .ok (.ifCond .eq 14, 3) := by decide +kernel
theorem dX8_dealt_20 : decode cX8_dealt 20 = .ok (.iload 6, 2) := by decide +kernel
theorem dX8_dealt_22 : decode cX8_dealt 22 = .ok (.ifCond .lt 9, 3) := by decide +kernel
theorem dX8_dealt_25 : decode cX8_dealt 25 = .ok (.iload 6, 2) := by decide +kernel
theorem dX8_dealt_27 : decode cX8_dealt 27 = .ok (.iconst 3, 1) := by decide +kernel
theorem dX8_dealt_28 : decode cX8_dealt 28 = .ok (.if_icmp .le 5, 3) := by decide +kernel
theorem dX8_dealt_31 : decode cX8_dealt 31 = .ok (.iconst (-1), 1) := by decide +kernel
theorem dX8_dealt_32 : decode cX8_dealt 32 = .ok (.ireturn, 1) := by decide +kernel
theorem dX8_dealt_33 : decode cX8_dealt 33 = .ok (.aload_n 0, 1) := by decide +kernel
theorem dX8_dealt_34 : decode cX8_dealt 34 = .ok (.getfield 35, 3) := by decide +kernel
theorem dX8_dealt_37 : decode cX8_dealt 37 = .ok (.iload_n 1, 1) := by decide +kernel
theorem dX8_dealt_38 : decode cX8_dealt 38 = .ok (.iload_n 2, 1) := by decide +kernel
theorem dX8_dealt_39 : decode cX8_dealt 39 = .ok (.iload_n 3, 1) := by decide +kernel
theorem dX8_dealt_40 : decode cX8_dealt 40 = .ok (.iload 4, 2) := by decide +kernel
theorem dX8_dealt_42 : decode cX8_dealt 42 = .ok (.iload 5, 2) := by decide +kernel
theorem dX8_dealt_44 : decode cX8_dealt 44 = .ok (.invokevirtual 149, 3) := by decide +kernel
theorem dX8_dealt_47 : decode cX8_dealt 47 = .ok (.aload_n 0, 1) := by decide +kernel
theorem dX8_dealt_48 : decode cX8_dealt 48 = .ok (.getfield 35, 3) := by decide +kernel
theorem dX8_dealt_51 : decode cX8_dealt 51 = .ok (.iload 4, 2) := by decide +kernel
theorem dX8_dealt_53 : decode cX8_dealt 53 = .ok (.iload 5, 2) := by decide +kernel
theorem dX8_dealt_55 : decode cX8_dealt 55 = .ok (.invokevirtual 226, 3) := by decide +kernel
theorem dX8_dealt_58 : decode cX8_dealt 58 = .ok (.aload_n 0, 1) := by decide +kernel
theorem dX8_dealt_59 : decode cX8_dealt 59 = .ok (.getfield 35, 3) := by decide +kernel
theorem dX8_dealt_62 : decode cX8_dealt 62 = .ok (.getfield 159, 3) := by decide +kernel
theorem dX8_dealt_65 : decode cX8_dealt 65 = .ok (.bipush 16, 2) := by decide +kernel
theorem dX8_dealt_67 : decode cX8_dealt 67 = .ok (.if_icmp .le 6, 3) := by decide +kernel
theorem dX8_dealt_70 : decode cX8_dealt 70 = .ok (.bipush (-2), 2) := by decide +kernel
theorem dX8_dealt_72 : decode cX8_dealt 72 = .ok (.ireturn, 1) := by decide +kernel
theorem dX8_dealt_73 : decode cX8_dealt 73 = .ok (.iload 6, 2) := by decide +kernel
theorem dX8_dealt_75 : decode cX8_dealt 75 = .ok (.iconst 1, 1) := by decide +kernel
theorem dX8_dealt_76 : decode cX8_dealt 76 = .ok (.if_icmp .le 27, 3) := by decide +kernel
theorem dX8_dealt_79 : decode cX8_dealt 79 = .ok (.iload 6, 2) := by decide +kernel
theorem dX8_dealt_81 : decode cX8_dealt 81 = .ok (.iconst 2, 1) := by decide +kernel
theorem dX8_dealt_82 : decode cX8_dealt 82 = .ok (.if_icmp .ne 13, 3) := by decide +kernel
theorem dX8_dealt_85 : decode cX8_dealt 85 = .ok (.aload_n 0, 1) := by decide +kernel
theorem dX8_dealt_86 : decode cX8_dealt 86 = .ok (.getfield 35, 3) := by decide +kernel
theorem dX8_dealt_89 : decode cX8_dealt 89 = .ok (.getfield 159, 3) := by decide +kernel
theorem dX8_dealt_92 : decode cX8_dealt 92 = .ok (.goto 10, 3) := by decide +kernel
theorem dX8_dealt_95 : decode cX8_dealt 95 = .ok (.aload_n 0, 1) := by decide +kernel
theorem dX8_dealt_96 : decode cX8_dealt 96 = .ok (.getfield 35, 3) := by decide +kernel
theorem dX8_dealt_99 : decode cX8_dealt 99 = .ok (.getfield 230, 3) := by decide +kernel
theorem dX8_dealt_102 : decode cX8_dealt 102 = .ok (.ireturn, 1) := by decide +kernel
theorem dX8_dealt_103 : decode cX8_dealt 103 = .ok (.iload 6, 2) := by decide +kernel
theorem dX8_dealt_105 : decode cX8_dealt 105 = .ok (.ifCond .ne 16, 3) := by decide +kernel
theorem dX8_dealt_108 : decode cX8_dealt 108 = .ok (.aload_n 0, 1) := by decide +kernel
theorem dX8_dealt_109 : decode cX8_dealt 109 = .ok (.getfield 35, 3) := by decide +kernel
theorem dX8_dealt_112 : decode cX8_dealt 112 = .ok (.getfield 230, 3) := by decide +kernel
theorem dX8_dealt_115 : decode cX8_dealt 115 = .ok (.ifCond .ne 6, 3) := by decide +kernel
theorem dX8_dealt_118 : decode cX8_dealt 118 = .ok (.bipush (-4), 2) := by decide +kernel
theorem dX8_dealt_120 : decode cX8_dealt 120 = .ok (.ireturn, 1) := by decide +kernel
theorem dX8_dealt_121 : decode cX8_dealt 121 = .ok (.iload 6, 2) := by decide +kernel
theorem dX8_dealt_123 : decode cX8_dealt 123 = .ok (.ifCond .ne 13, 3) := by decide +kernel
theorem dX8_dealt_126 : decode cX8_dealt 126 = .ok (.aload_n 0, 1) := by decide +kernel
theorem dX8_dealt_127 : decode cX8_dealt 127 = .ok (.getfield 35, 3) := by decide +kernel
theorem dX8_dealt_130 : decode cX8_dealt 130 = .ok (.getfield 233, 3) := by decide +kernel
theorem dX8_dealt_133 : decode cX8_dealt 133 = .ok (.goto 5, 3) := by decide +kernel
theorem dX8_dealt_136 : decode cX8_dealt 136 = .ok (.ldc 198, 2) := by decide +kernel
theorem dX8_dealt_138 : decode cX8_dealt 138 = .ok (.istore 7, 2) := by decide +kernel
theorem dX8_dealt_140 : decode cX8_dealt 140 = .ok (.aload_n 0, 1) := by decide +kernel
theorem dX8_dealt_141 : decode cX8_dealt 141 = .ok (.getfield 35, 3) := by decide +kernel
theorem dX8_dealt_144 : decode cX8_dealt 144 = .ok (.getfield 236, 3) := by decide +kernel
theorem dX8_dealt_147 : decode cX8_dealt 147 = .ok (.aload_n 0, 1) := by decide +kernel
theorem dX8_dealt_148 : decode cX8_dealt 148 = .ok (.getfield 35, 3) := by decide +kernel
theorem dX8_dealt_151 : decode cX8_dealt 151 = .ok (.getfield 159, 3) := by decide +kernel
theorem dX8_dealt_154 : decode cX8_dealt 154 = .ok (.iconst 0, 1) := by decide +kernel
theorem dX8_dealt_155 : decode cX8_dealt 155 = .ok (.aload_n 0, 1) := by decide +kernel
theorem dX8_dealt_156 : decode cX8_dealt 156 = .ok (.getfield 35, 3) := by decide +kernel
theorem dX8_dealt_159 : decode cX8_dealt 159 = .ok (.getfield 230, 3) := by decide +kernel
theorem dX8_dealt_162 : decode cX8_dealt 162 = .ok (.iload 7, 2) := by decide +kernel
theorem dX8_dealt_164 : decode cX8_dealt 164 = .ok (.invokestatic 239, 3) := by decide +kernel
theorem dX8_dealt_167 : decode cX8_dealt 167 = .ok (.ireturn, 1) := by decide +kernel
theorem dX8_change_0 : decode cX8_change 0 = .ok (.iload_n 1, 1) := by decide +kernel
theorem dX8_change_1 : decode cX8_change 1 = .ok (.invokestatic 70, 3) := by decide +kernel
theorem dX8_change_4 : decode cX8_change 4 = .ok (.ifCond .eq 11, 3) := by decide +kernel
theorem dX8_change_7 : decode cX8_change 7 = .ok (.iload_n 2, 1) := by decide +kernel
theorem dX8_change_8 : decode cX8_change 8 = .ok (.iload_n 3, 1) := by decide +kernel
theorem dX8_change_9 : decode cX8_change 9 = .ok (.invokestatic 156, 3) := by decide +kernel
theorem dX8_change_12 : decode cX8_change 12 = .ok (.ifCond .ne 5, 3) := by decide +kernel
theorem dX8_change_15 : decode cX8_change 15 = .ok (.iconst (-1), 1) := by decide +kernel
theorem dX8_change_16 : decode cX8_change 16 = .ok (.ireturn, 1) := by decide +kernel
theorem dX8_change_17 : decode cX8_change 17 = .ok (.aload_n 0, 1) := by decide +kernel
theorem dX8_change_18 : decode cX8_change 18 = .ok (.getfield 15, 3) := by decide +kernel
theorem dX8_change_21 : decode cX8_change 21 = .ok (.iload_n 1, 1) := by decide +kernel
theorem dX8_change_22 : decode cX8_change 22 = .ok (.iload_n 2, 1) := by decide +kernel
theorem dX8_change_23 : decode cX8_change 23 = .ok (.iload_n 3, 1) := by decide +kernel
theorem dX8_change_24 : decode cX8_change 24 = .ok (.invokevirtual 243, 3) := by decide +kernel
theorem dX8_change_27 : decode cX8_change 27 = .ok (.ireturn, 1) := by decide +kernel
theorem dX8_note_0 : decode cX8_note 0 = .ok (.aload_n 0, 1) := by decide +kernel
theorem dX8_note_1 : decode cX8_note 1 = .ok (.iload_n 1, 1) := by decide +kernel
theorem dX8_note_2 : decode cX8_note 2 = .ok (.iload_n 2, 1) := by decide +kernel
theorem dX8_note_3 : decode cX8_note 3 = .ok (.iload_n 3, 1) := by decide +kernel
theorem dX8_note_4 : decode cX8_note 4 = .ok (.invokevirtual 130, 3) := by decide +kernel
theorem dX8_note_7 : decode cX8_note 7 = .ok (.ifCond .eq 16, 3) := by decide +kernel
theorem dX8_note_10 : decode cX8_note 10 = .ok (.iload 4, 2) := by decide +kernel
theorem dX8_note_12 : decode cX8_note 12 = .ok (.ifCond .lt 11, 3) := by decide +kernel
theorem dX8_note_15 : decode cX8_note 15 = .ok (.iload 4, 2) := by decide +kernel
theorem dX8_note_17 : decode cX8_note 17 = .ok (.sipush 999, 3) := by decide +kernel
theorem dX8_note_20 : decode cX8_note 20 = .ok (.if_icmp .le 5, 3) := by decide +kernel
theorem dX8_note_23 : decode cX8_note 23 = .ok (.iconst (-1), 1) := by decide +kernel
theorem dX8_note_24 : decode cX8_note 24 = .ok (.ireturn, 1) := by decide +kernel
theorem dX8_note_25 : decode cX8_note 25 = .ok (.aload_n 0, 1) := by decide +kernel
theorem dX8_note_26 : decode cX8_note 26 = .ok (.getfield 51, 3) := by decide +kernel
theorem dX8_note_29 : decode cX8_note 29 = .ok (.getfield 246, 3) := by decide +kernel
theorem dX8_note_32 : decode cX8_note 32 = .ok (.bipush 24, 2) := by decide +kernel
theorem dX8_note_34 : decode cX8_note 34 = .ok (.if_icmp .lt 6, 3) := by decide +kernel
theorem dX8_note_37 : decode cX8_note 37 = .ok (.bipush (-3), 2) := by decide +kernel
theorem dX8_note_39 : decode cX8_note 39 = .ok (.ireturn, 1) := by decide +kernel
theorem dX8_note_40 : decode cX8_note 40 = .ok (.aload_n 0, 1) := by decide +kernel
theorem dX8_note_41 : decode cX8_note 41 = .ok (.getfield 35, 3) := by decide +kernel
theorem dX8_note_44 : decode cX8_note 44 = .ok (.iload_n 1, 1) := by decide +kernel
theorem dX8_note_45 : decode cX8_note 45 = .ok (.iload_n 2, 1) := by decide +kernel
theorem dX8_note_46 : decode cX8_note 46 = .ok (.iload_n 3, 1) := by decide +kernel
theorem dX8_note_47 : decode cX8_note 47 = .ok (.aload_n 0, 1) := by decide +kernel
theorem dX8_note_48 : decode cX8_note 48 = .ok (.getfield 15, 3) := by decide +kernel
theorem dX8_note_51 : decode cX8_note 51 = .ok (.getfield 66, 3) := by decide +kernel
theorem dX8_note_54 : decode cX8_note 54 = .ok (.aload_n 0, 1) := by decide +kernel
theorem dX8_note_55 : decode cX8_note 55 = .ok (.getfield 15, 3) := by decide +kernel
theorem dX8_note_58 : decode cX8_note 58 = .ok (.getfield 66, 3) := by decide +kernel
theorem dX8_note_61 : decode cX8_note 61 = .ok (.invokevirtual 134, 3) := by decide +kernel
theorem dX8_note_64 : decode cX8_note 64 = .ok (.aload_n 0, 1) := by decide +kernel
theorem dX8_note_65 : decode cX8_note 65 = .ok (.getfield 35, 3) := by decide +kernel
theorem dX8_note_68 : decode cX8_note 68 = .ok (.iload_n 2, 1) := by decide +kernel
theorem dX8_note_69 : decode cX8_note 69 = .ok (.aload_n 0, 1) := by decide +kernel
theorem dX8_note_70 : decode cX8_note 70 = .ok (.getfield 15, 3) := by decide +kernel
theorem dX8_note_73 : decode cX8_note 73 = .ok (.getfield 66, 3) := by decide +kernel
theorem dX8_note_76 : decode cX8_note 76 = .ok (.invokevirtual 138, 3) := by decide +kernel
theorem dX8_note_79 : decode cX8_note 79 = .ok (.istore 5, 2) := by decide +kernel
theorem dX8_note_81 : decode cX8_note 81 = .ok (.iload 5, 2) := by decide +kernel
theorem dX8_note_83 : decode cX8_note 83 = .ok (.bipush (-4), 2) := by decide +kernel
theorem dX8_note_85 : decode cX8_note 85 = .ok (.if_icmp .ne 6, 3) := by decide +kernel
theorem dX8_note_88 : decode cX8_note 88 = .ok (.bipush (-4), 2) := by decide +kernel
theorem dX8_note_90 : decode cX8_note 90 = .ok (.ireturn, 1) := by decide +kernel
theorem dX8_note_91 : decode cX8_note 91 = .ok (.aload_n 0, 1) := by decide +kernel
theorem dX8_note_92 : decode cX8_note 92 = .ok (.getfield 51, 3) := by decide +kernel
theorem dX8_note_95 : decode cX8_note 95 = .ok (.iload_n 1, 1) := by decide +kernel
theorem dX8_note_96 : decode cX8_note 96 = .ok (.iload_n 2, 1) := by decide +kernel
theorem dX8_note_97 : decode cX8_note 97 = .ok (.aload_n 0, 1) := by decide +kernel
theorem dX8_note_98 : decode cX8_note 98 = .ok (.getfield 15, 3) := by decide +kernel
theorem dX8_note_101 : decode cX8_note 101 = .ok (.getfield 66, 3) := by decide +kernel
theorem dX8_note_104 : decode cX8_note 104 = .ok (.aload_n 0, 1) := by decide +kernel
theorem dX8_note_105 : decode cX8_note 105 = .ok (.getfield 15, 3) := by decide +kernel
theorem dX8_note_108 : decode cX8_note 108 = .ok (.getfield 66, 3) := by decide +kernel
theorem dX8_note_111 : decode cX8_note 111 = .ok (.iload_n 3, 1) := by decide +kernel
theorem dX8_note_112 : decode cX8_note 112 = .ok (.iadd, 1) := by decide +kernel
theorem dX8_note_113 : decode cX8_note 113 = .ok (.iload 5, 2) := by decide +kernel
theorem dX8_note_115 : decode cX8_note 115 = .ok (.iload 4, 2) := by decide +kernel
theorem dX8_note_117 : decode cX8_note 117 = .ok (.invokevirtual 247, 3) := by decide +kernel
theorem dX8_note_120 : decode cX8_note 120 = .ok (.ireturn, 1) := by decide +kernel
theorem dX8_noteOf_0 : decode cX8_noteOf 0 = .ok (.iload_n 1, 1) := by decide +kernel
theorem dX8_noteOf_1 : decode cX8_noteOf 1 = .ok (.ifCond .lt 24, 3) := by decide +kernel
theorem dX8_noteOf_4 : decode cX8_noteOf 4 = .ok (.iload_n 1, 1) := by decide +kernel
theorem dX8_noteOf_5 : decode cX8_noteOf 5 = .ok (.aload_n 0, 1) := by decide +kernel
theorem dX8_noteOf_6 : decode cX8_noteOf 6 = .ok (.getfield 51, 3) := by decide +kernel
theorem dX8_noteOf_9 : decode cX8_noteOf 9 = .ok (.getfield 246, 3) := by decide +kernel
theorem dX8_noteOf_12 : decode cX8_noteOf 12 = .ok (.if_icmp .ge 13, 3) := by decide +kernel
theorem dX8_noteOf_15 : decode cX8_noteOf 15 = .ok (.iload_n 2, 1) := by decide +kernel
theorem dX8_noteOf_16 : decode cX8_noteOf 16 = .ok (.ifCond .lt 9, 3) := by decide +kernel
theorem dX8_noteOf_19 : decode cX8_noteOf 19 = .ok (.iload_n 2, 1) := by decide +kernel
theorem dX8_noteOf_20 : decode cX8_noteOf 20 = .ok (.bipush 8, 2) := by decide +kernel
theorem dX8_noteOf_22 : decode cX8_noteOf 22 = .ok (.if_icmp .le 5, 3) := by decide +kernel
theorem dX8_noteOf_25 : decode cX8_noteOf 25 = .ok (.iconst (-1), 1) := by decide +kernel
theorem dX8_noteOf_26 : decode cX8_noteOf 26 = .ok (.ireturn, 1) := by decide +kernel
theorem dX8_noteOf_27 : decode cX8_noteOf 27 = .ok (.iload_n 2, 1) := by decide +kernel
theorem dX8_noteOf_28 : decode cX8_noteOf 28 = .ok (.tableswitch 120 0 7 #[48, 58, 68, 78, 88, 98, 108, 114], 48) := by decide +kernel
theorem dX8_noteOf_76 : decode cX8_noteOf 76 = .ok (.aload_n 0, 1) := by decide +kernel
theorem dX8_noteOf_77 : decode cX8_noteOf 77 = .ok (.getfield 51, 3) := by decide +kernel
theorem dX8_noteOf_80 : decode cX8_noteOf 80 = .ok (.getfield 251, 3) := by decide +kernel
theorem dX8_noteOf_83 : decode cX8_noteOf 83 = .ok (.iload_n 1, 1) := by decide +kernel
theorem dX8_noteOf_84 : decode cX8_noteOf 84 = .ok (.iaload, 1) := by decide +kernel
theorem dX8_noteOf_85 : decode cX8_noteOf 85 = .ok (.ireturn, 1) := by decide +kernel
theorem dX8_noteOf_86 : decode cX8_noteOf 86 = .ok (.aload_n 0, 1) := by decide +kernel
theorem dX8_noteOf_87 : decode cX8_noteOf 87 = .ok (.getfield 51, 3) := by decide +kernel
theorem dX8_noteOf_90 : decode cX8_noteOf 90 = .ok (.getfield 254, 3) := by decide +kernel
theorem dX8_noteOf_93 : decode cX8_noteOf 93 = .ok (.iload_n 1, 1) := by decide +kernel
theorem dX8_noteOf_94 : decode cX8_noteOf 94 = .ok (.iaload, 1) := by decide +kernel
theorem dX8_noteOf_95 : decode cX8_noteOf 95 = .ok (.ireturn, 1) := by decide +kernel
theorem dX8_noteOf_96 : decode cX8_noteOf 96 = .ok (.aload_n 0, 1) := by decide +kernel
theorem dX8_noteOf_97 : decode cX8_noteOf 97 = .ok (.getfield 51, 3) := by decide +kernel
theorem dX8_noteOf_100 : decode cX8_noteOf 100 = .ok (.getfield 257, 3) := by decide +kernel
theorem dX8_noteOf_103 : decode cX8_noteOf 103 = .ok (.iload_n 1, 1) := by decide +kernel
theorem dX8_noteOf_104 : decode cX8_noteOf 104 = .ok (.iaload, 1) := by decide +kernel
theorem dX8_noteOf_105 : decode cX8_noteOf 105 = .ok (.ireturn, 1) := by decide +kernel
theorem dX8_noteOf_106 : decode cX8_noteOf 106 = .ok (.aload_n 0, 1) := by decide +kernel
theorem dX8_noteOf_107 : decode cX8_noteOf 107 = .ok (.getfield 51, 3) := by decide +kernel
theorem dX8_noteOf_110 : decode cX8_noteOf 110 = .ok (.getfield 260, 3) := by decide +kernel
theorem dX8_noteOf_113 : decode cX8_noteOf 113 = .ok (.iload_n 1, 1) := by decide +kernel
theorem dX8_noteOf_114 : decode cX8_noteOf 114 = .ok (.iaload, 1) := by decide +kernel
theorem dX8_noteOf_115 : decode cX8_noteOf 115 = .ok (.ireturn, 1) := by decide +kernel
theorem dX8_noteOf_116 : decode cX8_noteOf 116 = .ok (.aload_n 0, 1) := by decide +kernel
theorem dX8_noteOf_117 : decode cX8_noteOf 117 = .ok (.getfield 51, 3) := by decide +kernel
theorem dX8_noteOf_120 : decode cX8_noteOf 120 = .ok (.getfield 263, 3) := by decide +kernel
theorem dX8_noteOf_123 : decode cX8_noteOf 123 = .ok (.iload_n 1, 1) := by decide +kernel
theorem dX8_noteOf_124 : decode cX8_noteOf 124 = .ok (.iaload, 1) := by decide +kernel
theorem dX8_noteOf_125 : decode cX8_noteOf 125 = .ok (.ireturn, 1) := by decide +kernel
theorem dX8_noteOf_126 : decode cX8_noteOf 126 = .ok (.aload_n 0, 1) := by decide +kernel
theorem dX8_noteOf_127 : decode cX8_noteOf 127 = .ok (.getfield 51, 3) := by decide +kernel
theorem dX8_noteOf_130 : decode cX8_noteOf 130 = .ok (.getfield 266, 3) := by decide +kernel
theorem dX8_noteOf_133 : decode cX8_noteOf 133 = .ok (.iload_n 1, 1) := by decide +kernel
theorem dX8_noteOf_134 : decode cX8_noteOf 134 = .ok (.iaload, 1) := by decide +kernel
theorem dX8_noteOf_135 : decode cX8_noteOf 135 = .ok (.ireturn, 1) := by decide +kernel
theorem dX8_noteOf_136 : decode cX8_noteOf 136 = .ok (.aload_n 0, 1) := by decide +kernel
theorem dX8_noteOf_137 : decode cX8_noteOf 137 = .ok (.iload_n 1, 1) := by decide +kernel
theorem dX8_noteOf_138 : decode cX8_noteOf 138 = .ok (.invokevirtual 269, 3) := by decide +kernel
theorem dX8_noteOf_141 : decode cX8_noteOf 141 = .ok (.ireturn, 1) := by decide +kernel
theorem dX8_noteOf_142 : decode cX8_noteOf 142 = .ok (.aload_n 0, 1) := by decide +kernel
theorem dX8_noteOf_143 : decode cX8_noteOf 143 = .ok (.iload_n 1, 1) := by decide +kernel
theorem dX8_noteOf_144 : decode cX8_noteOf 144 = .ok (.invokevirtual 272, 3) := by decide +kernel
theorem dX8_noteOf_147 : decode cX8_noteOf 147 = .ok (.ireturn, 1) := by decide +kernel
theorem dX8_noteOf_148 : decode cX8_noteOf 148 = .ok (.aload_n 0, 1) := by decide +kernel
theorem dX8_noteOf_149 : decode cX8_noteOf 149 = .ok (.getfield 51, 3) := by decide +kernel
theorem dX8_noteOf_152 : decode cX8_noteOf 152 = .ok (.getfield 275, 3) := by decide +kernel
theorem dX8_noteOf_155 : decode cX8_noteOf 155 = .ok (.iload_n 1, 1) := by decide +kernel
theorem dX8_noteOf_156 : decode cX8_noteOf 156 = .ok (.baload, 1) := by decide +kernel
theorem dX8_noteOf_157 : decode cX8_noteOf 157 = .ok (.ifCond .eq 7, 3) := by decide +kernel
theorem dX8_noteOf_160 : decode cX8_noteOf 160 = .ok (.iconst 1, 1) := by decide +kernel
theorem dX8_noteOf_161 : decode cX8_noteOf 161 = .ok (.goto 4, 3) := by decide +kernel
theorem dX8_noteOf_164 : decode cX8_noteOf 164 = .ok (.iconst 0, 1) := by decide +kernel
theorem dX8_noteOf_165 : decode cX8_noteOf 165 = .ok (.ireturn, 1) := by decide +kernel
theorem dX8_acted_0 : decode cX8_acted 0 = .ok (.iload_n 1, 1) := by decide +kernel
theorem dX8_acted_1 : decode cX8_acted 1 = .ok (.ifCond .lt 14, 3) := by decide +kernel
theorem dX8_acted_4 : decode cX8_acted 4 = .ok (.iload_n 1, 1) := by decide +kernel
theorem dX8_acted_5 : decode cX8_acted 5 = .ok (.aload_n 0, 1) := by decide +kernel
theorem dX8_acted_6 : decode cX8_acted 6 = .ok (.getfield 51, 3) := by decide +kernel
theorem dX8_acted_9 : decode cX8_acted 9 = .ok (.getfield 246, 3) := by decide +kernel
theorem dX8_acted_12 : decode cX8_acted 12 = .ok (.if_icmp .lt 5, 3) := by decide +kernel
theorem dX8_acted_15 : decode cX8_acted 15 = .ok (.iconst (-1), 1) := by decide +kernel
theorem dX8_acted_16 : decode cX8_acted 16 = .ok (.ireturn, 1) := by decide +kernel
theorem dX8_acted_17 : decode cX8_acted 17 = .ok (.aload_n 0, 1) := by decide +kernel
theorem dX8_acted_18 : decode cX8_acted 18 = .ok (.getfield 51, 3) := by decide +kernel
theorem dX8_acted_21 : decode cX8_acted 21 = .ok (.getfield 275, 3) := by decide +kernel
theorem dX8_acted_24 : decode cX8_acted 24 = .ok (.iload_n 1, 1) := by decide +kernel
theorem dX8_acted_25 : decode cX8_acted 25 = .ok (.baload, 1) := by decide +kernel
theorem dX8_acted_26 : decode cX8_acted 26 = .ok (.ifCond .ne 13, 3) := by decide +kernel
theorem dX8_acted_29 : decode cX8_acted 29 = .ok (.aload_n 0, 1) := by decide +kernel
theorem dX8_acted_30 : decode cX8_acted 30 = .ok (.iload_n 1, 1) := by decide +kernel
theorem dX8_acted_31 : decode cX8_acted 31 = .ok (.invokevirtual 269, 3) := by decide +kernel
theorem dX8_acted_34 : decode cX8_acted 34 = .ok (.bipush (-4), 2) := by decide +kernel
theorem dX8_acted_36 : decode cX8_acted 36 = .ok (.if_icmp .eq 6, 3) := by decide +kernel
theorem dX8_acted_39 : decode cX8_acted 39 = .ok (.bipush (-2), 2) := by decide +kernel
theorem dX8_acted_41 : decode cX8_acted 41 = .ok (.ireturn, 1) := by decide +kernel
theorem dX8_acted_42 : decode cX8_acted 42 = .ok (.aload_n 0, 1) := by decide +kernel
theorem dX8_acted_43 : decode cX8_acted 43 = .ok (.getfield 51, 3) := by decide +kernel
theorem dX8_acted_46 : decode cX8_acted 46 = .ok (.getfield 275, 3) := by decide +kernel
theorem dX8_acted_49 : decode cX8_acted 49 = .ok (.iload_n 1, 1) := by decide +kernel
theorem dX8_acted_50 : decode cX8_acted 50 = .ok (.iconst 1, 1) := by decide +kernel
theorem dX8_acted_51 : decode cX8_acted 51 = .ok (.bastore, 1) := by decide +kernel
theorem dX8_acted_52 : decode cX8_acted 52 = .ok (.iconst 1, 1) := by decide +kernel
theorem dX8_acted_53 : decode cX8_acted 53 = .ok (.ireturn, 1) := by decide +kernel
theorem dX8_notes_0 : decode cX8_notes 0 = .ok (.iload_n 1, 1) := by decide +kernel
theorem dX8_notes_1 : decode cX8_notes 1 = .ok (.ifCond .lt 8, 3) := by decide +kernel
theorem dX8_notes_4 : decode cX8_notes 4 = .ok (.iload_n 1, 1) := by decide +kernel
theorem dX8_notes_5 : decode cX8_notes 5 = .ok (.iconst 3, 1) := by decide +kernel
theorem dX8_notes_6 : decode cX8_notes 6 = .ok (.if_icmp .le 5, 3) := by decide +kernel
theorem dX8_notes_9 : decode cX8_notes 9 = .ok (.iconst (-1), 1) := by decide +kernel
theorem dX8_notes_10 : decode cX8_notes 10 = .ok (.ireturn, 1) := by decide +kernel
theorem dX8_notes_11 : decode cX8_notes 11 = .ok (.iload_n 1, 1) := by decide +kernel
theorem dX8_notes_12 : decode cX8_notes 12 = .ok (.iconst 1, 1) := by decide +kernel
theorem dX8_notes_13 : decode cX8_notes 13 = .ok (.if_icmp .eq 8, 3) := by decide +kernel
theorem dX8_notes_16 : decode cX8_notes 16 = .ok (.iload_n 1, 1) := by decide +kernel
theorem dX8_notes_17 : decode cX8_notes 17 = .ok (.iconst 3, 1) := by decide +kernel
theorem dX8_notes_18 : decode cX8_notes 18 = .ok (.if_icmp .ne 7, 3) := by decide +kernel
theorem dX8_notes_21 : decode cX8_notes 21 = .ok (.iconst 1, 1) := by decide +kernel
theorem dX8_notes_22 : decode cX8_notes 22 = .ok (.goto 4, 3) := by decide +kernel
theorem dX8_notes_25 : decode cX8_notes 25 = .ok (.iconst 0, 1) := by decide +kernel
theorem dX8_notes_26 : decode cX8_notes 26 = .ok (.istore_n 2, 1) := by decide +kernel
theorem dX8_notes_27 : decode cX8_notes 27 = .ok (.iconst 0, 1) := by decide +kernel
theorem dX8_notes_28 : decode cX8_notes 28 = .ok (.istore_n 3, 1) := by decide +kernel
theorem dX8_notes_29 : decode cX8_notes 29 = .ok (.iconst 0, 1) := by decide +kernel
theorem dX8_notes_30 : decode cX8_notes 30 = .ok (.istore 4, 2) := by decide +kernel
theorem dX8_notes_32 : decode cX8_notes 32 = .ok (.iload 4, 2) := by decide +kernel
theorem dX8_notes_34 : decode cX8_notes 34 = .ok (.aload_n 0, 1) := by decide +kernel
theorem dX8_notes_35 : decode cX8_notes 35 = .ok (.getfield 51, 3) := by decide +kernel
theorem dX8_notes_38 : decode cX8_notes 38 = .ok (.getfield 246, 3) := by decide +kernel
theorem dX8_notes_41 : decode cX8_notes 41 = .ok (.if_icmp .ge 67, 3) := by decide +kernel
theorem dX8_notes_44 : decode cX8_notes 44 = .ok (.aload_n 0, 1) := by decide +kernel
theorem dX8_notes_45 : decode cX8_notes 45 = .ok (.iload 4, 2) := by decide +kernel
theorem dX8_notes_47 : decode cX8_notes 47 = .ok (.invokevirtual 272, 3) := by decide +kernel
theorem dX8_notes_50 : decode cX8_notes 50 = .ok (.istore 5, 2) := by decide +kernel
theorem dX8_notes_52 : decode cX8_notes 52 = .ok (.iload 5, 2) := by decide +kernel
theorem dX8_notes_54 : decode cX8_notes 54 = .ok (.bipush (-4), 2) := by decide +kernel
theorem dX8_notes_56 : decode cX8_notes 56 = .ok (.if_icmp .eq 25, 3) := by decide +kernel
theorem dX8_notes_59 : decode cX8_notes 59 = .ok (.iload_n 1, 1) := by decide +kernel
theorem dX8_notes_60 : decode cX8_notes 60 = .ok (.iconst 2, 1) := by decide +kernel
theorem dX8_notes_61 : decode cX8_notes 61 = .ok (.if_icmp .lt 16, 3) := by decide +kernel
theorem dX8_notes_64 : decode cX8_notes 64 = .ok (.aload_n 0, 1) := by decide +kernel
theorem dX8_notes_65 : decode cX8_notes 65 = .ok (.getfield 51, 3) := by decide +kernel
theorem dX8_notes_68 : decode cX8_notes 68 = .ok (.getfield 275, 3) := by decide +kernel
theorem dX8_notes_71 : decode cX8_notes 71 = .ok (.iload 4, 2) := by decide +kernel
theorem dX8_notes_73 : decode cX8_notes 73 = .ok (.baload, 1) := by decide +kernel
theorem dX8_notes_74 : decode cX8_notes 74 = .ok (.ifCond .ne 7, 3) := by decide +kernel
theorem dX8_notes_77 : decode cX8_notes 77 = .ok (.iconst 1, 1) := by decide +kernel
theorem dX8_notes_78 : decode cX8_notes 78 = .ok (.goto 4, 3) := by decide +kernel
theorem dX8_notes_81 : decode cX8_notes 81 = .ok (.iconst 0, 1) := by decide +kernel
theorem dX8_notes_82 : decode cX8_notes 82 = .ok (.istore 6, 2) := by decide +kernel
theorem dX8_notes_84 : decode cX8_notes 84 = .ok (.iload 6, 2) := by decide +kernel
theorem dX8_notes_86 : decode cX8_notes 86 = .ok (.ifCond .eq 16, 3) := by decide +kernel
theorem dX8_notes_89 : decode cX8_notes 89 = .ok (.iload 5, 2) := by decide +kernel
theorem dX8_notes_91 : decode cX8_notes 91 = .ok (.iconst 1, 1) := by decide +kernel
theorem dX8_notes_92 : decode cX8_notes 92 = .ok (.if_icmp .eq 7, 3) := by decide +kernel
theorem dX8_notes_95 : decode cX8_notes 95 = .ok (.iload_n 2, 1) := by decide +kernel
theorem dX8_notes_96 : decode cX8_notes 96 = .ok (.ifCond .ne 6, 3) := by decide +kernel
theorem dX8_notes_99 : decode cX8_notes 99 = .ok (.iinc 3 1, 3) := by decide +kernel
theorem dX8_notes_102 : decode cX8_notes 102 = .ok (.iinc 4 1, 3) := by decide +kernel
theorem dX8_notes_105 : decode cX8_notes 105 = .ok (.goto (-73), 3) := by decide +kernel
theorem dX8_notes_108 : decode cX8_notes 108 = .ok (.iload_n 3, 1) := by decide +kernel
theorem dX8_notes_109 : decode cX8_notes 109 = .ok (.ireturn, 1) := by decide +kernel
theorem dX8_sheet_0 : decode cX8_sheet 0 = .ok (.iload_n 1, 1) := by decide +kernel
theorem dX8_sheet_1 : decode cX8_sheet 1 = .ok (.invokestatic 278, 3) := by decide +kernel
theorem dX8_sheet_4 : decode cX8_sheet 4 = .ok (.ifCond .eq 16, 3) := by decide +kernel
theorem dX8_sheet_7 : decode cX8_sheet 7 = .ok (.iload_n 2, 1) := by decide +kernel
theorem dX8_sheet_8 : decode cX8_sheet 8 = .ok (.invokestatic 281, 3) := by decide +kernel
theorem dX8_sheet_11 : decode cX8_sheet 11 = .ok (.ifCond .eq 9, 3) := by decide +kernel
theorem dX8_sheet_14 : decode cX8_sheet 14 = .ok (.iload_n 3, 1) := by decide +kernel
theorem dX8_sheet_15 : decode cX8_sheet 15 = .ok (.bipush 64, 2) := by decide +kernel
theorem dX8_sheet_17 : decode cX8_sheet 17 = .ok (.if_icmp .le 5, 3) := by decide +kernel
theorem dX8_sheet_20 : decode cX8_sheet 20 = .ok (.iconst (-1), 1) := by decide +kernel
theorem dX8_sheet_21 : decode cX8_sheet 21 = .ok (.ireturn, 1) := by decide +kernel
theorem dX8_sheet_22 : decode cX8_sheet 22 = .ok (.iload_n 3, 1) := by decide +kernel
theorem dX8_sheet_23 : decode cX8_sheet 23 = .ok (.ifCond .ge 6, 3) := by decide +kernel
theorem dX8_sheet_26 : decode cX8_sheet 26 = .ok (.bipush (-14), 2) := by decide +kernel
theorem dX8_sheet_28 : decode cX8_sheet 28 = .ok (.ireturn, 1) := by decide +kernel
theorem dX8_sheet_29 : decode cX8_sheet 29 = .ok (.aload_n 0, 1) := by decide +kernel
theorem dX8_sheet_30 : decode cX8_sheet 30 = .ok (.getfield 58, 3) := by decide +kernel
theorem dX8_sheet_33 : decode cX8_sheet 33 = .ok (.iload_n 1, 1) := by decide +kernel
theorem dX8_sheet_34 : decode cX8_sheet 34 = .ok (.iload_n 2, 1) := by decide +kernel
theorem dX8_sheet_35 : decode cX8_sheet 35 = .ok (.iload_n 3, 1) := by decide +kernel
theorem dX8_sheet_36 : decode cX8_sheet 36 = .ok (.invokevirtual 284, 3) := by decide +kernel
theorem dX8_sheet_39 : decode cX8_sheet 39 = .ok (.iconst 1, 1) := by decide +kernel
theorem dX8_sheet_40 : decode cX8_sheet 40 = .ok (.ireturn, 1) := by decide +kernel
theorem dX8_lay_0 : decode cX8_lay 0 = .ok (.iload_n 1, 1) := by decide +kernel
theorem dX8_lay_1 : decode cX8_lay 1 = .ok (.invokestatic 278, 3) := by decide +kernel
theorem dX8_lay_4 : decode cX8_lay 4 = .ok (.ifCond .ne 5, 3) := by decide +kernel
theorem dX8_lay_7 : decode cX8_lay 7 = .ok (.iconst (-1), 1) := by decide +kernel
theorem dX8_lay_8 : decode cX8_lay 8 = .ok (.ireturn, 1) := by decide +kernel
theorem dX8_lay_9 : decode cX8_lay 9 = .ok (.aload_n 0, 1) := by decide +kernel
theorem dX8_lay_10 : decode cX8_lay 10 = .ok (.getfield 58, 3) := by decide +kernel
theorem dX8_lay_13 : decode cX8_lay 13 = .ok (.iload_n 1, 1) := by decide +kernel
theorem dX8_lay_14 : decode cX8_lay 14 = .ok (.aload_n 0, 1) := by decide +kernel
theorem dX8_lay_15 : decode cX8_lay 15 = .ok (.getfield 58, 3) := by decide +kernel
theorem dX8_lay_18 : decode cX8_lay 18 = .ok (.getfield 287, 3) := by decide +kernel
theorem dX8_lay_21 : decode cX8_lay 21 = .ok (.iload_n 1, 1) := by decide +kernel
theorem dX8_lay_22 : decode cX8_lay 22 = .ok (.iaload, 1) := by decide +kernel
theorem dX8_lay_23 : decode cX8_lay 23 = .ok (.iload_n 2, 1) := by decide +kernel
theorem dX8_lay_24 : decode cX8_lay 24 = .ok (.invokevirtual 290, 3) := by decide +kernel
theorem dX8_lay_27 : decode cX8_lay 27 = .ok (.istore 4, 2) := by decide +kernel
theorem dX8_lay_29 : decode cX8_lay 29 = .ok (.iload 4, 2) := by decide +kernel
theorem dX8_lay_31 : decode cX8_lay 31 = .ok (.ifCond .eq 9, 3) := by decide +kernel
theorem dX8_lay_34 : decode cX8_lay 34 = .ok (.bipush (-10), 2) := by decide +kernel
theorem dX8_lay_36 : decode cX8_lay 36 = .ok (.iload 4, 2) := by decide +kernel
theorem dX8_lay_38 : decode cX8_lay 38 = .ok (.isub, 1) := by decide +kernel
theorem dX8_lay_39 : decode cX8_lay 39 = .ok (.ireturn, 1) := by decide +kernel
theorem dX8_lay_40 : decode cX8_lay 40 = .ok (.aload_n 0, 1) := by decide +kernel
theorem dX8_lay_41 : decode cX8_lay 41 = .ok (.getfield 58, 3) := by decide +kernel
theorem dX8_lay_44 : decode cX8_lay 44 = .ok (.iload_n 1, 1) := by decide +kernel
theorem dX8_lay_45 : decode cX8_lay 45 = .ok (.iload_n 2, 1) := by decide +kernel
theorem dX8_lay_46 : decode cX8_lay 46 = .ok (.iload_n 3, 1) := by decide +kernel
theorem dX8_lay_47 : decode cX8_lay 47 = .ok (.invokevirtual 293, 3) := by decide +kernel
theorem dX8_lay_50 : decode cX8_lay 50 = .ok (.iconst 1, 1) := by decide +kernel
theorem dX8_lay_51 : decode cX8_lay 51 = .ok (.ireturn, 1) := by decide +kernel
theorem dX8_read_0 : decode cX8_read 0 = .ok (.iload_n 1, 1) := by decide +kernel
theorem dX8_read_1 : decode cX8_read 1 = .ok (.invokestatic 70, 3) := by decide +kernel
theorem dX8_read_4 : decode cX8_read 4 = .ok (.ifCond .eq 37, 3) := by decide +kernel
theorem dX8_read_7 : decode cX8_read 7 = .ok (.iload_n 2, 1) := by decide +kernel
theorem dX8_read_8 : decode cX8_read 8 = .ok (.invokestatic 62, 3) := by decide +kernel
theorem dX8_read_11 : decode cX8_read 11 = .ok (.ifCond .eq 30, 3) := by decide +kernel
theorem dX8_read_14 : decode cX8_read 14 = .ok (.iload_n 3, 1) := by decide +kernel
theorem dX8_read_15 : decode cX8_read 15 = .ok (.invokestatic 278, 3) := by decide +kernel
theorem dX8_read_18 : decode cX8_read 18 = .ok (.ifCond .eq 23, 3) := by decide +kernel
theorem dX8_read_21 : decode cX8_read 21 = .ok (.iload 4, 2) := by decide +kernel
theorem dX8_read_23 : decode cX8_read 23 = .ok (.invokestatic 281, 3) := by decide +kernel
theorem dX8_read_26 : decode cX8_read 26 = .ok (.ifCond .eq 15, 3) := by decide +kernel
theorem dX8_read_29 : decode cX8_read 29 = .ok (.iload 6, 2) := by decide +kernel
theorem dX8_read_31 : decode cX8_read 31 = .ok (.ifCond .lt 10, 3) := by decide +kernel
theorem dX8_read_34 : decode cX8_read 34 = .ok (.iload 6, 2) := by decide +kernel
theorem dX8_read_36 : decode cX8_read 36 = .ok (.bipush 64, 2) := by decide +kernel
theorem dX8_read_38 : decode cX8_read 38 = .ok (.if_icmp .le 5, 3) := by decide +kernel
theorem dX8_read_41 : decode cX8_read 41 = .ok (.iconst (-1), 1) := by decide +kernel
theorem dX8_read_42 : decode cX8_read 42 = .ok (.ireturn, 1) := by decide +kernel
theorem dX8_read_43 : decode cX8_read 43 = .ok (.iload 6, 2) := by decide +kernel
theorem dX8_read_45 : decode cX8_read 45 = .ok (.ifCond .le 21, 3) := by decide +kernel
theorem dX8_read_48 : decode cX8_read 48 = .ok (.iload_n 2, 1) := by decide +kernel
theorem dX8_read_49 : decode cX8_read 49 = .ok (.iload 6, 2) := by decide +kernel
theorem dX8_read_51 : decode cX8_read 51 = .ok (.iadd, 1) := by decide +kernel
theorem dX8_read_52 : decode cX8_read 52 = .ok (.iconst 1, 1) := by decide +kernel
theorem dX8_read_53 : decode cX8_read 53 = .ok (.isub, 1) := by decide +kernel
theorem dX8_read_54 : decode cX8_read 54 = .ok (.aload_n 0, 1) := by decide +kernel
theorem dX8_read_55 : decode cX8_read 55 = .ok (.getfield 15, 3) := by decide +kernel
theorem dX8_read_58 : decode cX8_read 58 = .ok (.getfield 66, 3) := by decide +kernel
theorem dX8_read_61 : decode cX8_read 61 = .ok (.if_icmp .le 5, 3) := by decide +kernel
theorem dX8_read_64 : decode cX8_read 64 = .ok (.iconst (-1), 1) := by decide +kernel
theorem dX8_read_65 : decode cX8_read 65 = .ok (.ireturn, 1) := by decide +kernel
theorem dX8_read_66 : decode cX8_read 66 = .ok (.iconst 0, 1) := by decide +kernel
theorem dX8_read_67 : decode cX8_read 67 = .ok (.istore 7, 2) := by decide +kernel
theorem dX8_read_69 : decode cX8_read 69 = .ok (.iconst 0, 1) := by decide +kernel
theorem dX8_read_70 : decode cX8_read 70 = .ok (.istore 8, 2) := by decide +kernel
theorem dX8_read_72 : decode cX8_read 72 = .ok (.iconst 0, 1) := by decide +kernel
theorem dX8_read_73 : decode cX8_read 73 = .ok (.istore 9, 2) := by decide +kernel
theorem dX8_read_75 : decode cX8_read 75 = .ok (.iconst 0, 1) := by decide +kernel
theorem dX8_read_76 : decode cX8_read 76 = .ok (.istore 10, 2) := by decide +kernel
theorem dX8_read_78 : decode cX8_read 78 = .ok (.iload 10, 2) := by decide +kernel
theorem dX8_read_80 : decode cX8_read 80 = .ok (.iload 6, 2) := by decide +kernel
theorem dX8_read_82 : decode cX8_read 82 = .ok (.if_icmp .ge 111, 3) := by decide +kernel
theorem dX8_read_85 : decode cX8_read 85 = .ok (.iload 7, 2) := by decide +kernel
theorem dX8_read_87 : decode cX8_read 87 = .ok (.ifCond .ne 106, 3) := by decide +kernel
theorem dX8_read_90 : decode cX8_read 90 = .ok (.aload_n 0, 1) := by decide +kernel
theorem dX8_read_91 : decode cX8_read 91 = .ok (.getfield 58, 3) := by decide +kernel
theorem dX8_read_94 : decode cX8_read 94 = .ok (.iload_n 3, 1) := by decide +kernel
theorem dX8_read_95 : decode cX8_read 95 = .ok (.iload 4, 2) := by decide +kernel
theorem dX8_read_97 : decode cX8_read 97 = .ok (.iload 5, 2) := by decide +kernel
theorem dX8_read_99 : decode cX8_read 99 = .ok (.iload 10, 2) := by decide +kernel
theorem dX8_read_101 : decode cX8_read 101 = .ok (.iadd, 1) := by decide +kernel
theorem dX8_read_102 : decode cX8_read 102 = .ok (.invokevirtual 290, 3) := by decide +kernel
theorem dX8_read_105 : decode cX8_read 105 = .ok (.istore 7, 2) := by decide +kernel
theorem dX8_read_107 : decode cX8_read 107 = .ok (.iload 7, 2) := by decide +kernel
theorem dX8_read_109 : decode cX8_read 109 = .ok (.ifCond .ne 78, 3) := by decide +kernel
theorem dX8_read_112 : decode cX8_read 112 = .ok (.aload_n 0, 1) := by decide +kernel
theorem dX8_read_113 : decode cX8_read 113 = .ok (.getfield 58, 3) := by decide +kernel
theorem dX8_read_116 : decode cX8_read 116 = .ok (.iload_n 3, 1) := by decide +kernel
theorem dX8_read_117 : decode cX8_read 117 = .ok (.iload 5, 2) := by decide +kernel
theorem dX8_read_119 : decode cX8_read 119 = .ok (.iload 10, 2) := by decide +kernel
theorem dX8_read_121 : decode cX8_read 121 = .ok (.iadd, 1) := by decide +kernel
theorem dX8_read_122 : decode cX8_read 122 = .ok (.invokevirtual 296, 3) := by decide +kernel
theorem dX8_read_125 : decode cX8_read 125 = .ok (.istore 11, 2) := by decide +kernel
theorem dX8_read_127 : decode cX8_read 127 = .ok (.iload 11, 2) := by decide +kernel
theorem dX8_read_129 : decode cX8_read 129 = .ok (.sipush 999, 3) := by decide +kernel
theorem dX8_read_132 : decode cX8_read 132 = .ok (.if_icmp .le 9, 3) := by decide +kernel
theorem dX8_read_135 : decode cX8_read 135 = .ok (.bipush (-20), 2) := by decide +kernel
theorem dX8_read_137 : decode cX8_read 137 = .ok (.iload 10, 2) := by decide +kernel
theorem dX8_read_139 : decode cX8_read 139 = .ok (.isub, 1) := by decide +kernel
theorem dX8_read_140 : decode cX8_read 140 = .ok (.ireturn, 1) := by decide +kernel
theorem dX8_read_141 : decode cX8_read 141 = .ok (.iload 9, 2) := by decide +kernel
theorem dX8_read_143 : decode cX8_read 143 = .ok (.aload_n 0, 1) := by decide +kernel
theorem dX8_read_144 : decode cX8_read 144 = .ok (.iload_n 1, 1) := by decide +kernel
theorem dX8_read_145 : decode cX8_read 145 = .ok (.iload_n 2, 1) := by decide +kernel
theorem dX8_read_146 : decode cX8_read 146 = .ok (.iload 10, 2) := by decide +kernel
theorem dX8_read_148 : decode cX8_read 148 = .ok (.iadd, 1) := by decide +kernel
theorem dX8_read_149 : decode cX8_read 149 = .ok (.iload 11, 2) := by decide +kernel
theorem dX8_read_151 : decode cX8_read 151 = .ok (.invokevirtual 299, 3) := by decide +kernel
theorem dX8_read_154 : decode cX8_read 154 = .ok (.ifCond .eq 7, 3) := by decide +kernel
theorem dX8_read_157 : decode cX8_read 157 = .ok (.iconst 0, 1) := by decide +kernel
theorem dX8_read_158 : decode cX8_read 158 = .ok (.goto 4, 3) := by decide +kernel
theorem dX8_read_161 : decode cX8_read 161 = .ok (.iconst 1, 1) := by decide +kernel
theorem dX8_read_162 : decode cX8_read 162 = .ok (.iadd, 1) := by decide +kernel
theorem dX8_read_163 : decode cX8_read 163 = .ok (.istore 9, 2) := by decide +kernel
theorem dX8_read_165 : decode cX8_read 165 = .ok (.aload_n 0, 1) := by decide +kernel
theorem dX8_read_166 : decode cX8_read 166 = .ok (.getfield 15, 3) := by decide +kernel
theorem dX8_read_169 : decode cX8_read 169 = .ok (.getfield 73, 3) := by decide +kernel
theorem dX8_read_172 : decode cX8_read 172 = .ok (.iload 9, 2) := by decide +kernel
theorem dX8_read_174 : decode cX8_read 174 = .ok (.iadd, 1) := by decide +kernel
theorem dX8_read_175 : decode cX8_read 175 = .ok (.sipush 200, 3) := by decide +kernel
theorem dX8_read_178 : decode cX8_read 178 = .ok (.if_icmp .le 6, 3) := by decide +kernel
theorem dX8_read_181 : decode cX8_read 181 = .ok (.bipush (-3), 2) := by decide +kernel
theorem dX8_read_183 : decode cX8_read 183 = .ok (.ireturn, 1) := by decide +kernel
theorem dX8_read_184 : decode cX8_read 184 = .ok (.iinc 8 1, 3) := by decide +kernel
theorem dX8_read_187 : decode cX8_read 187 = .ok (.iinc 10 1, 3) := by decide +kernel
theorem dX8_read_190 : decode cX8_read 190 = .ok (.goto (-112), 3) := by decide +kernel
theorem dX8_read_193 : decode cX8_read 193 = .ok (.aload_n 0, 1) := by decide +kernel
theorem dX8_read_194 : decode cX8_read 194 = .ok (.iload_n 1, 1) := by decide +kernel
theorem dX8_read_195 : decode cX8_read 195 = .ok (.iload_n 2, 1) := by decide +kernel
theorem dX8_read_196 : decode cX8_read 196 = .ok (.iload_n 3, 1) := by decide +kernel
theorem dX8_read_197 : decode cX8_read 197 = .ok (.iload 5, 2) := by decide +kernel
theorem dX8_read_199 : decode cX8_read 199 = .ok (.iload 8, 2) := by decide +kernel
theorem dX8_read_201 : decode cX8_read 201 = .ok (.invokevirtual 302, 3) := by decide +kernel
theorem dX8_read_204 : decode cX8_read 204 = .ok (.aload_n 0, 1) := by decide +kernel
theorem dX8_read_205 : decode cX8_read 205 = .ok (.getfield 58, 3) := by decide +kernel
theorem dX8_read_208 : decode cX8_read 208 = .ok (.iload 7, 2) := by decide +kernel
theorem dX8_read_210 : decode cX8_read 210 = .ok (.putfield 305, 3) := by decide +kernel
theorem dX8_read_213 : decode cX8_read 213 = .ok (.iload 9, 2) := by decide +kernel
theorem dX8_read_215 : decode cX8_read 215 = .ok (.ireturn, 1) := by decide +kernel
theorem dX8_torn_0 : decode cX8_torn 0 = .ok (.aload_n 0, 1) := by decide +kernel
theorem dX8_torn_1 : decode cX8_torn 1 = .ok (.getfield 58, 3) := by decide +kernel
theorem dX8_torn_4 : decode cX8_torn 4 = .ok (.getfield 305, 3) := by decide +kernel
theorem dX8_torn_7 : decode cX8_torn 7 = .ok (.ireturn, 1) := by decide +kernel
theorem dX8_count_0 : decode cX8_count 0 = .ok (.iload_n 1, 1) := by decide +kernel
theorem dX8_count_1 : decode cX8_count 1 = .ok (.tableswitch 148 0 8 #[51, 59, 67, 78, 89, 97, 105, 113, 121], 51) := by decide +kernel
theorem dX8_count_52 : decode cX8_count 52 = .ok (.aload_n 0, 1) := by decide +kernel
theorem dX8_count_53 : decode cX8_count 53 = .ok (.getfield 15, 3) := by decide +kernel
theorem dX8_count_56 : decode cX8_count 56 = .ok (.getfield 66, 3) := by decide +kernel
theorem dX8_count_59 : decode cX8_count 59 = .ok (.ireturn, 1) := by decide +kernel
theorem dX8_count_60 : decode cX8_count 60 = .ok (.aload_n 0, 1) := by decide +kernel
theorem dX8_count_61 : decode cX8_count 61 = .ok (.getfield 15, 3) := by decide +kernel
theorem dX8_count_64 : decode cX8_count 64 = .ok (.getfield 73, 3) := by decide +kernel
theorem dX8_count_67 : decode cX8_count 67 = .ok (.ireturn, 1) := by decide +kernel
theorem dX8_count_68 : decode cX8_count 68 = .ok (.aload_n 0, 1) := by decide +kernel
theorem dX8_count_69 : decode cX8_count 69 = .ok (.getfield 15, 3) := by decide +kernel
theorem dX8_count_72 : decode cX8_count 72 = .ok (.getfield 84, 3) := by decide +kernel
theorem dX8_count_75 : decode cX8_count 75 = .ok (.invokestatic 308, 3) := by decide +kernel
theorem dX8_count_78 : decode cX8_count 78 = .ok (.ireturn, 1) := by decide +kernel
theorem dX8_count_79 : decode cX8_count 79 = .ok (.aload_n 0, 1) := by decide +kernel
theorem dX8_count_80 : decode cX8_count 80 = .ok (.getfield 15, 3) := by decide +kernel
theorem dX8_count_83 : decode cX8_count 83 = .ok (.getfield 88, 3) := by decide +kernel
theorem dX8_count_86 : decode cX8_count 86 = .ok (.invokestatic 308, 3) := by decide +kernel
theorem dX8_count_89 : decode cX8_count 89 = .ok (.ireturn, 1) := by decide +kernel
theorem dX8_count_90 : decode cX8_count 90 = .ok (.aload_n 0, 1) := by decide +kernel
theorem dX8_count_91 : decode cX8_count 91 = .ok (.getfield 26, 3) := by decide +kernel
theorem dX8_count_94 : decode cX8_count 94 = .ok (.getfield 114, 3) := by decide +kernel
theorem dX8_count_97 : decode cX8_count 97 = .ok (.ireturn, 1) := by decide +kernel
theorem dX8_count_98 : decode cX8_count 98 = .ok (.aload_n 0, 1) := by decide +kernel
theorem dX8_count_99 : decode cX8_count 99 = .ok (.getfield 51, 3) := by decide +kernel
theorem dX8_count_102 : decode cX8_count 102 = .ok (.getfield 246, 3) := by decide +kernel
theorem dX8_count_105 : decode cX8_count 105 = .ok (.ireturn, 1) := by decide +kernel
theorem dX8_count_106 : decode cX8_count 106 = .ok (.aload_n 0, 1) := by decide +kernel
theorem dX8_count_107 : decode cX8_count 107 = .ok (.getfield 15, 3) := by decide +kernel
theorem dX8_count_110 : decode cX8_count 110 = .ok (.invokevirtual 312, 3) := by decide +kernel
theorem dX8_count_113 : decode cX8_count 113 = .ok (.ireturn, 1) := by decide +kernel
theorem dX8_count_114 : decode cX8_count 114 = .ok (.aload_n 0, 1) := by decide +kernel
theorem dX8_count_115 : decode cX8_count 115 = .ok (.getfield 22, 3) := by decide +kernel
theorem dX8_count_118 : decode cX8_count 118 = .ok (.getfield 95, 3) := by decide +kernel
theorem dX8_count_121 : decode cX8_count 121 = .ok (.ireturn, 1) := by decide +kernel
theorem dX8_count_122 : decode cX8_count 122 = .ok (.aload_n 0, 1) := by decide +kernel
theorem dX8_count_123 : decode cX8_count 123 = .ok (.getfield 58, 3) := by decide +kernel
theorem dX8_count_126 : decode cX8_count 126 = .ok (.getfield 287, 3) := by decide +kernel
theorem dX8_count_129 : decode cX8_count 129 = .ok (.iconst 0, 1) := by decide +kernel
theorem dX8_count_130 : decode cX8_count 130 = .ok (.iaload, 1) := by decide +kernel
theorem dX8_count_131 : decode cX8_count 131 = .ok (.ifCond .ge 8, 3) := by decide +kernel
theorem dX8_count_134 : decode cX8_count 134 = .ok (.bipush (-4), 2) := by decide +kernel
theorem dX8_count_136 : decode cX8_count 136 = .ok (.goto 12, 3) := by decide +kernel
theorem dX8_count_139 : decode cX8_count 139 = .ok (.aload_n 0, 1) := by decide +kernel
theorem dX8_count_140 : decode cX8_count 140 = .ok (.getfield 58, 3) := by decide +kernel
theorem dX8_count_143 : decode cX8_count 143 = .ok (.getfield 315, 3) := by decide +kernel
theorem dX8_count_146 : decode cX8_count 146 = .ok (.iconst 0, 1) := by decide +kernel
theorem dX8_count_147 : decode cX8_count 147 = .ok (.iaload, 1) := by decide +kernel
theorem dX8_count_148 : decode cX8_count 148 = .ok (.ireturn, 1) := by decide +kernel
theorem dX8_count_149 : decode cX8_count 149 = .ok (.iconst (-1), 1) := by decide +kernel
theorem dX8_count_150 : decode cX8_count 150 = .ok (.ireturn, 1) := by decide +kernel
theorem dX8_isShop_0 : decode cX8_isShop 0 = .ok (.iload_n 0, 1) := by decide +kernel
theorem dX8_isShop_1 : decode cX8_isShop 1 = .ok (.ifCond .lt 12, 3) := by decide +kernel
theorem dX8_isShop_4 : decode cX8_isShop 4 = .ok (.iload_n 0, 1) := by decide +kernel
theorem dX8_isShop_5 : decode cX8_isShop 5 = .ok (.iconst 4, 1) := by decide +kernel
theorem dX8_isShop_6 : decode cX8_isShop 6 = .ok (.if_icmp .ge 7, 3) := by decide +kernel
theorem dX8_isShop_9 : decode cX8_isShop 9 = .ok (.iconst 1, 1) := by decide +kernel
theorem dX8_isShop_10 : decode cX8_isShop 10 = .ok (.goto 4, 3) := by decide +kernel
theorem dX8_isShop_13 : decode cX8_isShop 13 = .ok (.iconst 0, 1) := by decide +kernel
theorem dX8_isShop_14 : decode cX8_isShop 14 = .ok (.ireturn, 1) := by decide +kernel
theorem dX8_isDay_0 : decode cX8_isDay 0 = .ok (.iload_n 0, 1) := by decide +kernel
theorem dX8_isDay_1 : decode cX8_isDay 1 = .ok (.ifCond .lt 13, 3) := by decide +kernel
theorem dX8_isDay_4 : decode cX8_isDay 4 = .ok (.iload_n 0, 1) := by decide +kernel
theorem dX8_isDay_5 : decode cX8_isDay 5 = .ok (.bipush 64, 2) := by decide +kernel
theorem dX8_isDay_7 : decode cX8_isDay 7 = .ok (.if_icmp .ge 7, 3) := by decide +kernel
theorem dX8_isDay_10 : decode cX8_isDay 10 = .ok (.iconst 1, 1) := by decide +kernel
theorem dX8_isDay_11 : decode cX8_isDay 11 = .ok (.goto 4, 3) := by decide +kernel
theorem dX8_isDay_14 : decode cX8_isDay 14 = .ok (.iconst 0, 1) := by decide +kernel
theorem dX8_isDay_15 : decode cX8_isDay 15 = .ok (.ireturn, 1) := by decide +kernel
theorem dX8_areDays_0 : decode cX8_areDays 0 = .ok (.iload_n 0, 1) := by decide +kernel
theorem dX8_areDays_1 : decode cX8_areDays 1 = .ok (.invokestatic 62, 3) := by decide +kernel
theorem dX8_areDays_4 : decode cX8_areDays 4 = .ok (.ifCond .eq 19, 3) := by decide +kernel
theorem dX8_areDays_7 : decode cX8_areDays 7 = .ok (.iload_n 1, 1) := by decide +kernel
theorem dX8_areDays_8 : decode cX8_areDays 8 = .ok (.invokestatic 62, 3) := by decide +kernel
theorem dX8_areDays_11 : decode cX8_areDays 11 = .ok (.ifCond .eq 12, 3) := by decide +kernel
theorem dX8_areDays_14 : decode cX8_areDays 14 = .ok (.iload_n 0, 1) := by decide +kernel
theorem dX8_areDays_15 : decode cX8_areDays 15 = .ok (.iload_n 1, 1) := by decide +kernel
theorem dX8_areDays_16 : decode cX8_areDays 16 = .ok (.if_icmp .gt 7, 3) := by decide +kernel
theorem dX8_areDays_19 : decode cX8_areDays 19 = .ok (.iconst 1, 1) := by decide +kernel
theorem dX8_areDays_20 : decode cX8_areDays 20 = .ok (.goto 4, 3) := by decide +kernel
theorem dX8_areDays_23 : decode cX8_areDays 23 = .ok (.iconst 0, 1) := by decide +kernel
theorem dX8_areDays_24 : decode cX8_areDays 24 = .ok (.ireturn, 1) := by decide +kernel
theorem dX8_isAhead_0 : decode cX8_isAhead 0 = .ok (.iload_n 0, 1) := by decide +kernel
theorem dX8_isAhead_1 : decode cX8_isAhead 1 = .ok (.iconst 1, 1) := by decide +kernel
theorem dX8_isAhead_2 : decode cX8_isAhead 2 = .ok (.if_icmp .lt 13, 3) := by decide +kernel
theorem dX8_isAhead_5 : decode cX8_isAhead 5 = .ok (.iload_n 0, 1) := by decide +kernel
theorem dX8_isAhead_6 : decode cX8_isAhead 6 = .ok (.bipush 14, 2) := by decide +kernel
theorem dX8_isAhead_8 : decode cX8_isAhead 8 = .ok (.if_icmp .gt 7, 3) := by decide +kernel
theorem dX8_isAhead_11 : decode cX8_isAhead 11 = .ok (.iconst 1, 1) := by decide +kernel
theorem dX8_isAhead_12 : decode cX8_isAhead 12 = .ok (.goto 4, 3) := by decide +kernel
theorem dX8_isAhead_15 : decode cX8_isAhead 15 = .ok (.iconst 0, 1) := by decide +kernel
theorem dX8_isAhead_16 : decode cX8_isAhead 16 = .ok (.ireturn, 1) := by decide +kernel
theorem dX8_isPercent_0 : decode cX8_isPercent 0 = .ok (.iload_n 0, 1) := by decide +kernel
theorem dX8_isPercent_1 : decode cX8_isPercent 1 = .ok (.iconst 1, 1) := by decide +kernel
theorem dX8_isPercent_2 : decode cX8_isPercent 2 = .ok (.if_icmp .lt 13, 3) := by decide +kernel
theorem dX8_isPercent_5 : decode cX8_isPercent 5 = .ok (.iload_n 0, 1) := by decide +kernel
theorem dX8_isPercent_6 : decode cX8_isPercent 6 = .ok (.bipush 100, 2) := by decide +kernel
theorem dX8_isPercent_8 : decode cX8_isPercent 8 = .ok (.if_icmp .gt 7, 3) := by decide +kernel
theorem dX8_isPercent_11 : decode cX8_isPercent 11 = .ok (.iconst 1, 1) := by decide +kernel
theorem dX8_isPercent_12 : decode cX8_isPercent 12 = .ok (.goto 4, 3) := by decide +kernel
theorem dX8_isPercent_15 : decode cX8_isPercent 15 = .ok (.iconst 0, 1) := by decide +kernel
theorem dX8_isPercent_16 : decode cX8_isPercent 16 = .ok (.ireturn, 1) := by decide +kernel
theorem dX8_isCost_0 : decode cX8_isCost 0 = .ok (.iload_n 0, 1) := by decide +kernel
theorem dX8_isCost_1 : decode cX8_isCost 1 = .ok (.iconst 1, 1) := by decide +kernel
theorem dX8_isCost_2 : decode cX8_isCost 2 = .ok (.if_icmp .lt 13, 3) := by decide +kernel
theorem dX8_isCost_5 : decode cX8_isCost 5 = .ok (.iload_n 0, 1) := by decide +kernel
theorem dX8_isCost_6 : decode cX8_isCost 6 = .ok (.bipush 99, 2) := by decide +kernel
theorem dX8_isCost_8 : decode cX8_isCost 8 = .ok (.if_icmp .gt 7, 3) := by decide +kernel
theorem dX8_isCost_11 : decode cX8_isCost 11 = .ok (.iconst 1, 1) := by decide +kernel
theorem dX8_isCost_12 : decode cX8_isCost 12 = .ok (.goto 4, 3) := by decide +kernel
theorem dX8_isCost_15 : decode cX8_isCost 15 = .ok (.iconst 0, 1) := by decide +kernel
theorem dX8_isCost_16 : decode cX8_isCost 16 = .ok (.ireturn, 1) := by decide +kernel
theorem dX8_isSheet_0 : decode cX8_isSheet 0 = .ok (.iload_n 0, 1) := by decide +kernel
theorem dX8_isSheet_1 : decode cX8_isSheet 1 = .ok (.ifCond .lt 12, 3) := by decide +kernel
theorem dX8_isSheet_4 : decode cX8_isSheet 4 = .ok (.iload_n 0, 1) := by decide +kernel
theorem dX8_isSheet_5 : decode cX8_isSheet 5 = .ok (.iconst 4, 1) := by decide +kernel
theorem dX8_isSheet_6 : decode cX8_isSheet 6 = .ok (.if_icmp .ge 7, 3) := by decide +kernel
theorem dX8_isSheet_9 : decode cX8_isSheet 9 = .ok (.iconst 1, 1) := by decide +kernel
theorem dX8_isSheet_10 : decode cX8_isSheet 10 = .ok (.goto 4, 3) := by decide +kernel
theorem dX8_isSheet_13 : decode cX8_isSheet 13 = .ok (.iconst 0, 1) := by decide +kernel
theorem dX8_isSheet_14 : decode cX8_isSheet 14 = .ok (.ireturn, 1) := by decide +kernel
theorem dX8_isLane_0 : decode cX8_isLane 0 = .ok (.iload_n 0, 1) := by decide +kernel
theorem dX8_isLane_1 : decode cX8_isLane 1 = .ok (.ifCond .lt 12, 3) := by decide +kernel
theorem dX8_isLane_4 : decode cX8_isLane 4 = .ok (.iload_n 0, 1) := by decide +kernel
theorem dX8_isLane_5 : decode cX8_isLane 5 = .ok (.iconst 3, 1) := by decide +kernel
theorem dX8_isLane_6 : decode cX8_isLane 6 = .ok (.if_icmp .ge 7, 3) := by decide +kernel
theorem dX8_isLane_9 : decode cX8_isLane 9 = .ok (.iconst 1, 1) := by decide +kernel
theorem dX8_isLane_10 : decode cX8_isLane 10 = .ok (.goto 4, 3) := by decide +kernel
theorem dX8_isLane_13 : decode cX8_isLane 13 = .ok (.iconst 0, 1) := by decide +kernel
theorem dX8_isLane_14 : decode cX8_isLane 14 = .ok (.ireturn, 1) := by decide +kernel
theorem dX8_isTeller_0 : decode cX8_isTeller 0 = .ok (.iload_n 1, 1) := by decide +kernel
theorem dX8_isTeller_1 : decode cX8_isTeller 1 = .ok (.ifCond .lt 18, 3) := by decide +kernel
theorem dX8_isTeller_4 : decode cX8_isTeller 4 = .ok (.iload_n 1, 1) := by decide +kernel
theorem dX8_isTeller_5 : decode cX8_isTeller 5 = .ok (.aload_n 0, 1) := by decide +kernel
theorem dX8_isTeller_6 : decode cX8_isTeller 6 = .ok (.getfield 26, 3) := by decide +kernel
theorem dX8_isTeller_9 : decode cX8_isTeller 9 = .ok (.getfield 114, 3) := by decide +kernel
theorem dX8_isTeller_12 : decode cX8_isTeller 12 = .ok (.if_icmp .ge 7, 3) := by decide +kernel
theorem dX8_isTeller_15 : decode cX8_isTeller 15 = .ok (.iconst 1, 1) := by decide +kernel
theorem dX8_isTeller_16 : decode cX8_isTeller 16 = .ok (.goto 4, 3) := by decide +kernel
theorem dX8_isTeller_19 : decode cX8_isTeller 19 = .ok (.iconst 0, 1) := by decide +kernel
theorem dX8_isTeller_20 : decode cX8_isTeller 20 = .ok (.ireturn, 1) := by decide +kernel
theorem dX8_isAsked_0 : decode cX8_isAsked 0 = .ok (.iload_n 1, 1) := by decide +kernel
theorem dX8_isAsked_1 : decode cX8_isAsked 1 = .ok (.invokestatic 70, 3) := by decide +kernel
theorem dX8_isAsked_4 : decode cX8_isAsked 4 = .ok (.ifCond .eq 22, 3) := by decide +kernel
theorem dX8_isAsked_7 : decode cX8_isAsked 7 = .ok (.aload_n 0, 1) := by decide +kernel
theorem dX8_isAsked_8 : decode cX8_isAsked 8 = .ok (.iload_n 2, 1) := by decide +kernel
theorem dX8_isAsked_9 : decode cX8_isAsked 9 = .ok (.invokevirtual 117, 3) := by decide +kernel
theorem dX8_isAsked_12 : decode cX8_isAsked 12 = .ok (.ifCond .eq 14, 3) := by decide +kernel
theorem dX8_isAsked_15 : decode cX8_isAsked 15 = .ok (.iload_n 3, 1) := by decide +kernel
theorem dX8_isAsked_16 : decode cX8_isAsked 16 = .ok (.invokestatic 168, 3) := by decide +kernel
theorem dX8_isAsked_19 : decode cX8_isAsked 19 = .ok (.ifCond .eq 7, 3) := by decide +kernel
theorem dX8_isAsked_22 : decode cX8_isAsked 22 = .ok (.iconst 1, 1) := by decide +kernel
theorem dX8_isAsked_23 : decode cX8_isAsked 23 = .ok (.goto 4, 3) := by decide +kernel
theorem dX8_isAsked_26 : decode cX8_isAsked 26 = .ok (.iconst 0, 1) := by decide +kernel
theorem dX8_isAsked_27 : decode cX8_isAsked 27 = .ok (.ireturn, 1) := by decide +kernel
theorem dX8_isJoinedTo_0 : decode cX8_isJoinedTo 0 = .ok (.iload_n 2, 1) := by decide +kernel
theorem dX8_isJoinedTo_1 : decode cX8_isJoinedTo 1 = .ok (.ifCond .lt 46, 3) := by decide +kernel
theorem dX8_isJoinedTo_4 : decode cX8_isJoinedTo 4 = .ok (.iload_n 2, 1) := by decide +kernel
theorem dX8_isJoinedTo_5 : decode cX8_isJoinedTo 5 = .ok (.iload_n 1, 1) := by decide +kernel
theorem dX8_isJoinedTo_6 : decode cX8_isJoinedTo 6 = .ok (.if_icmp .ge 41, 3) := by decide +kernel
theorem dX8_isJoinedTo_9 : decode cX8_isJoinedTo 9 = .ok (.aload_n 0, 1) := by decide +kernel
theorem dX8_isJoinedTo_10 : decode cX8_isJoinedTo 10 = .ok (.iload_n 1, 1) := by decide +kernel
theorem dX8_isJoinedTo_11 : decode cX8_isJoinedTo 11 = .ok (.invokevirtual 117, 3) := by decide +kernel
theorem dX8_isJoinedTo_14 : decode cX8_isJoinedTo 14 = .ok (.ifCond .eq 33, 3) := by decide +kernel
theorem dX8_isJoinedTo_17 : decode cX8_isJoinedTo 17 = .ok (.aload_n 0, 1) := by decide +kernel
theorem dX8_isJoinedTo_18 : decode cX8_isJoinedTo 18 = .ok (.getfield 26, 3) := by decide +kernel
theorem dX8_isJoinedTo_21 : decode cX8_isJoinedTo 21 = .ok (.getfield 120, 3) := by decide +kernel
theorem dX8_isJoinedTo_24 : decode cX8_isJoinedTo 24 = .ok (.iload_n 1, 1) := by decide +kernel
theorem dX8_isJoinedTo_25 : decode cX8_isJoinedTo 25 = .ok (.iaload, 1) := by decide +kernel
theorem dX8_isJoinedTo_26 : decode cX8_isJoinedTo 26 = .ok (.iconst 4, 1) := by decide +kernel
theorem dX8_isJoinedTo_27 : decode cX8_isJoinedTo 27 = .ok (.if_icmp .ne 20, 3) := by decide +kernel
theorem dX8_isJoinedTo_30 : decode cX8_isJoinedTo 30 = .ok (.aload_n 0, 1) := by decide +kernel
theorem dX8_isJoinedTo_31 : decode cX8_isJoinedTo 31 = .ok (.getfield 26, 3) := by decide +kernel
theorem dX8_isJoinedTo_34 : decode cX8_isJoinedTo 34 = .ok (.getfield 120, 3) := by decide +kernel
theorem dX8_isJoinedTo_37 : decode cX8_isJoinedTo 37 = .ok (.iload_n 2, 1) := by decide +kernel
theorem dX8_isJoinedTo_38 : decode cX8_isJoinedTo 38 = .ok (.iaload, 1) := by decide +kernel
theorem dX8_isJoinedTo_39 : decode cX8_isJoinedTo 39 = .ok (.iconst 4, 1) := by decide +kernel
theorem dX8_isJoinedTo_40 : decode cX8_isJoinedTo 40 = .ok (.if_icmp .eq 7, 3) := by decide +kernel
theorem dX8_isJoinedTo_43 : decode cX8_isJoinedTo 43 = .ok (.iconst 1, 1) := by decide +kernel
theorem dX8_isJoinedTo_44 : decode cX8_isJoinedTo 44 = .ok (.goto 4, 3) := by decide +kernel
theorem dX8_isJoinedTo_47 : decode cX8_isJoinedTo 47 = .ok (.iconst 0, 1) := by decide +kernel
theorem dX8_isJoinedTo_48 : decode cX8_isJoinedTo 48 = .ok (.ireturn, 1) := by decide +kernel
theorem dX8_numberAt_0 : decode cX8_numberAt 0 = .ok (.lload_n 0, 1) := by decide +kernel
theorem dX8_numberAt_1 : decode cX8_numberAt 1 = .ok (.lstore_n 3, 1) := by decide +kernel
theorem dX8_numberAt_2 : decode cX8_numberAt 2 = .ok (.iconst 0, 1) := by decide +kernel
theorem dX8_numberAt_3 : decode cX8_numberAt 3 = .ok (.istore 5, 2) := by decide +kernel
theorem dX8_numberAt_5 : decode cX8_numberAt 5 = .ok (.iload 5, 2) := by decide +kernel
theorem dX8_numberAt_7 : decode cX8_numberAt 7 = .ok (.iload_n 2, 1) := by decide +kernel
theorem dX8_numberAt_8 : decode cX8_numberAt 8 = .ok (.if_icmp .ge 15, 3) := by decide +kernel
theorem dX8_numberAt_11 : decode cX8_numberAt 11 = .ok (.lload_n 3, 1) := by decide +kernel
theorem dX8_numberAt_12 : decode cX8_numberAt 12 = .ok (.ldc2_w 317, 3) := by decide +kernel
theorem dX8_numberAt_15 : decode cX8_numberAt 15 = .ok (.ldiv, 1) := by decide +kernel
theorem dX8_numberAt_16 : decode cX8_numberAt 16 = .ok (.lstore_n 3, 1) := by decide +kernel
theorem dX8_numberAt_17 : decode cX8_numberAt 17 = .ok (.iinc 5 1, 3) := by decide +kernel
theorem dX8_numberAt_20 : decode cX8_numberAt 20 = .ok (.goto (-15), 3) := by decide +kernel
theorem dX8_numberAt_23 : decode cX8_numberAt 23 = .ok (.lload_n 3, 1) := by decide +kernel
theorem dX8_numberAt_24 : decode cX8_numberAt 24 = .ok (.ldc2_w 317, 3) := by decide +kernel
theorem dX8_numberAt_27 : decode cX8_numberAt 27 = .ok (.lrem, 1) := by decide +kernel
theorem dX8_numberAt_28 : decode cX8_numberAt 28 = .ok (.l2i, 1) := by decide +kernel
theorem dX8_numberAt_29 : decode cX8_numberAt 29 = .ok (.ireturn, 1) := by decide +kernel
theorem dX8_weightAt_0 : decode cX8_weightAt 0 = .ok (.iload_n 0, 1) := by decide +kernel
theorem dX8_weightAt_1 : decode cX8_weightAt 1 = .ok (.istore_n 2, 1) := by decide +kernel
theorem dX8_weightAt_2 : decode cX8_weightAt 2 = .ok (.iconst 0, 1) := by decide +kernel
theorem dX8_weightAt_3 : decode cX8_weightAt 3 = .ok (.istore_n 3, 1) := by decide +kernel
theorem dX8_weightAt_4 : decode cX8_weightAt 4 = .ok (.iload_n 3, 1) := by decide +kernel
theorem dX8_weightAt_5 : decode cX8_weightAt 5 = .ok (.iload_n 1, 1) := by decide +kernel
theorem dX8_weightAt_6 : decode cX8_weightAt 6 = .ok (.if_icmp .ge 14, 3) := by decide +kernel
theorem dX8_weightAt_9 : decode cX8_weightAt 9 = .ok (.iload_n 2, 1) := by decide +kernel
theorem dX8_weightAt_10 : decode cX8_weightAt 10 = .ok (.bipush 100, 2) := by decide +kernel
theorem dX8_weightAt_12 : decode cX8_weightAt 12 = .ok (.idiv, 1) := by decide +kernel
theorem dX8_weightAt_13 : decode cX8_weightAt 13 = .ok (.istore_n 2, 1) := by decide +kernel
theorem dX8_weightAt_14 : decode cX8_weightAt 14 = .ok (.iinc 3 1, 3) := by decide +kernel
theorem dX8_weightAt_17 : decode cX8_weightAt 17 = .ok (.goto (-13), 3) := by decide +kernel
theorem dX8_weightAt_20 : decode cX8_weightAt 20 = .ok (.iload_n 2, 1) := by decide +kernel
theorem dX8_weightAt_21 : decode cX8_weightAt 21 = .ok (.bipush 100, 2) := by decide +kernel
theorem dX8_weightAt_23 : decode cX8_weightAt 23 = .ok (.irem, 1) := by decide +kernel
theorem dX8_weightAt_24 : decode cX8_weightAt 24 = .ok (.ireturn, 1) := by decide +kernel
theorem dX8_shareOf_0 : decode cX8_shareOf 0 = .ok (.iload_n 1, 1) := by decide +kernel
theorem dX8_shareOf_1 : decode cX8_shareOf 1 = .ok (.ifCond .gt 5, 3) := by decide +kernel
theorem dX8_shareOf_4 : decode cX8_shareOf 4 = .ok (.iconst 0, 1) := by decide +kernel
theorem dX8_shareOf_5 : decode cX8_shareOf 5 = .ok (.ireturn, 1) := by decide +kernel
theorem dX8_shareOf_6 : decode cX8_shareOf 6 = .ok (.iload_n 2, 1) := by decide +kernel
theorem dX8_shareOf_7 : decode cX8_shareOf 7 = .ok (.istore 4, 2) := by decide +kernel
theorem dX8_shareOf_9 : decode cX8_shareOf 9 = .ok (.iconst 0, 1) := by decide +kernel
theorem dX8_shareOf_10 : decode cX8_shareOf 10 = .ok (.istore 5, 2) := by decide +kernel
theorem dX8_shareOf_12 : decode cX8_shareOf 12 = .ok (.iload 5, 2) := by decide +kernel
theorem dX8_shareOf_14 : decode cX8_shareOf 14 = .ok (.iconst 4, 1) := by decide +kernel
theorem dX8_shareOf_15 : decode cX8_shareOf 15 = .ok (.if_icmp .ge 24, 3) := by decide +kernel
theorem dX8_shareOf_18 : decode cX8_shareOf 18 = .ok (.iload 4, 2) := by decide +kernel
theorem dX8_shareOf_20 : decode cX8_shareOf 20 = .ok (.iload_n 2, 1) := by decide +kernel
theorem dX8_shareOf_21 : decode cX8_shareOf 21 = .ok (.iload_n 0, 1) := by decide +kernel
theorem dX8_shareOf_22 : decode cX8_shareOf 22 = .ok (.iload 5, 2) := by decide +kernel
theorem dX8_shareOf_24 : decode cX8_shareOf 24 = .ok (.invokestatic 203, 3) := by decide +kernel
theorem dX8_shareOf_27 : decode cX8_shareOf 27 = .ok (.imul, 1) := by decide +kernel
theorem dX8_shareOf_28 : decode cX8_shareOf 28 = .ok (.iload_n 1, 1) := by decide +kernel
theorem dX8_shareOf_29 : decode cX8_shareOf 29 = .ok (.idiv, 1) := by decide +kernel
theorem dX8_shareOf_30 : decode cX8_shareOf 30 = .ok (.isub, 1) := by decide +kernel
theorem dX8_shareOf_31 : decode cX8_shareOf 31 = .ok (.istore 4, 2) := by decide +kernel
theorem dX8_shareOf_33 : decode cX8_shareOf 33 = .ok (.iinc 5 1, 3) := by decide +kernel
theorem dX8_shareOf_36 : decode cX8_shareOf 36 = .ok (.goto (-24), 3) := by decide +kernel
theorem dX8_shareOf_39 : decode cX8_shareOf 39 = .ok (.iload_n 2, 1) := by decide +kernel
theorem dX8_shareOf_40 : decode cX8_shareOf 40 = .ok (.iload_n 0, 1) := by decide +kernel
theorem dX8_shareOf_41 : decode cX8_shareOf 41 = .ok (.iload_n 3, 1) := by decide +kernel
theorem dX8_shareOf_42 : decode cX8_shareOf 42 = .ok (.invokestatic 203, 3) := by decide +kernel
theorem dX8_shareOf_45 : decode cX8_shareOf 45 = .ok (.imul, 1) := by decide +kernel
theorem dX8_shareOf_46 : decode cX8_shareOf 46 = .ok (.iload_n 1, 1) := by decide +kernel
theorem dX8_shareOf_47 : decode cX8_shareOf 47 = .ok (.idiv, 1) := by decide +kernel
theorem dX8_shareOf_48 : decode cX8_shareOf 48 = .ok (.istore 5, 2) := by decide +kernel
theorem dX8_shareOf_50 : decode cX8_shareOf 50 = .ok (.iconst 0, 1) := by decide +kernel
theorem dX8_shareOf_51 : decode cX8_shareOf 51 = .ok (.istore 6, 2) := by decide +kernel
theorem dX8_shareOf_53 : decode cX8_shareOf 53 = .ok (.iload 6, 2) := by decide +kernel
theorem dX8_shareOf_55 : decode cX8_shareOf 55 = .ok (.iload_n 3, 1) := by decide +kernel
theorem dX8_shareOf_56 : decode cX8_shareOf 56 = .ok (.if_icmp .ge 28, 3) := by decide +kernel
theorem dX8_shareOf_59 : decode cX8_shareOf 59 = .ok (.iload 4, 2) := by decide +kernel
theorem dX8_shareOf_61 : decode cX8_shareOf 61 = .ok (.iload_n 0, 1) := by decide +kernel
theorem dX8_shareOf_62 : decode cX8_shareOf 62 = .ok (.iload 6, 2) := by decide +kernel
theorem dX8_shareOf_64 : decode cX8_shareOf 64 = .ok (.invokestatic 203, 3) := by decide +kernel
theorem dX8_shareOf_67 : decode cX8_shareOf 67 = .ok (.ifCond .le 7, 3) := by decide +kernel
theorem dX8_shareOf_70 : decode cX8_shareOf 70 = .ok (.iconst 1, 1) := by decide +kernel
theorem dX8_shareOf_71 : decode cX8_shareOf 71 = .ok (.goto 4, 3) := by decide +kernel
theorem dX8_shareOf_74 : decode cX8_shareOf 74 = .ok (.iconst 0, 1) := by decide +kernel
theorem dX8_shareOf_75 : decode cX8_shareOf 75 = .ok (.isub, 1) := by decide +kernel
theorem dX8_shareOf_76 : decode cX8_shareOf 76 = .ok (.istore 4, 2) := by decide +kernel
theorem dX8_shareOf_78 : decode cX8_shareOf 78 = .ok (.iinc 6 1, 3) := by decide +kernel
theorem dX8_shareOf_81 : decode cX8_shareOf 81 = .ok (.goto (-28), 3) := by decide +kernel
theorem dX8_shareOf_84 : decode cX8_shareOf 84 = .ok (.iload 4, 2) := by decide +kernel
theorem dX8_shareOf_86 : decode cX8_shareOf 86 = .ok (.ifCond .le 18, 3) := by decide +kernel
theorem dX8_shareOf_89 : decode cX8_shareOf 89 = .ok (.iload_n 0, 1) := by decide +kernel
theorem dX8_shareOf_90 : decode cX8_shareOf 90 = .ok (.iload_n 3, 1) := by decide +kernel
theorem dX8_shareOf_91 : decode cX8_shareOf 91 = .ok (.invokestatic 203, 3) := by decide +kernel
theorem dX8_shareOf_94 : decode cX8_shareOf 94 = .ok (.ifCond .le 10, 3) := by decide +kernel
theorem dX8_shareOf_97 : decode cX8_shareOf 97 = .ok (.iload 5, 2) := by decide +kernel
theorem dX8_shareOf_99 : decode cX8_shareOf 99 = .ok (.iconst 1, 1) := by decide +kernel
theorem dX8_shareOf_100 : decode cX8_shareOf 100 = .ok (.iadd, 1) := by decide +kernel
theorem dX8_shareOf_101 : decode cX8_shareOf 101 = .ok (.goto 5, 3) := by decide +kernel
theorem dX8_shareOf_104 : decode cX8_shareOf 104 = .ok (.iload 5, 2) := by decide +kernel
theorem dX8_shareOf_106 : decode cX8_shareOf 106 = .ok (.ireturn, 1) := by decide +kernel
theorem dX8_figureOfNote_0 : decode cX8_figureOfNote 0 = .ok (.aload_n 0, 1) := by decide +kernel
theorem dX8_figureOfNote_1 : decode cX8_figureOfNote 1 = .ok (.getfield 15, 3) := by decide +kernel
theorem dX8_figureOfNote_4 : decode cX8_figureOfNote 4 = .ok (.aload_n 0, 1) := by decide +kernel
theorem dX8_figureOfNote_5 : decode cX8_figureOfNote 5 = .ok (.getfield 51, 3) := by decide +kernel
theorem dX8_figureOfNote_8 : decode cX8_figureOfNote 8 = .ok (.getfield 251, 3) := by decide +kernel
theorem dX8_figureOfNote_11 : decode cX8_figureOfNote 11 = .ok (.iload_n 1, 1) := by decide +kernel
theorem dX8_figureOfNote_12 : decode cX8_figureOfNote 12 = .ok (.iaload, 1) := by decide +kernel
theorem dX8_figureOfNote_13 : decode cX8_figureOfNote 13 = .ok (.aload_n 0, 1) := by decide +kernel
theorem dX8_figureOfNote_14 : decode cX8_figureOfNote 14 = .ok (.getfield 51, 3) := by decide +kernel
theorem dX8_figureOfNote_17 : decode cX8_figureOfNote 17 = .ok (.getfield 260, 3) := by decide +kernel
theorem dX8_figureOfNote_20 : decode cX8_figureOfNote 20 = .ok (.iload_n 1, 1) := by decide +kernel
theorem dX8_figureOfNote_21 : decode cX8_figureOfNote 21 = .ok (.iaload, 1) := by decide +kernel
theorem dX8_figureOfNote_22 : decode cX8_figureOfNote 22 = .ok (.aload_n 0, 1) := by decide +kernel
theorem dX8_figureOfNote_23 : decode cX8_figureOfNote 23 = .ok (.getfield 15, 3) := by decide +kernel
theorem dX8_figureOfNote_26 : decode cX8_figureOfNote 26 = .ok (.getfield 66, 3) := by decide +kernel
theorem dX8_figureOfNote_29 : decode cX8_figureOfNote 29 = .ok (.invokevirtual 76, 3) := by decide +kernel
theorem dX8_figureOfNote_32 : decode cX8_figureOfNote 32 = .ok (.ireturn, 1) := by decide +kernel
theorem dX8_heldOfNote_0 : decode cX8_heldOfNote 0 = .ok (.aload_n 0, 1) := by decide +kernel
theorem dX8_heldOfNote_1 : decode cX8_heldOfNote 1 = .ok (.iload_n 1, 1) := by decide +kernel
theorem dX8_heldOfNote_2 : decode cX8_heldOfNote 2 = .ok (.invokevirtual 269, 3) := by decide +kernel
theorem dX8_heldOfNote_5 : decode cX8_heldOfNote 5 = .ok (.istore_n 2, 1) := by decide +kernel
theorem dX8_heldOfNote_6 : decode cX8_heldOfNote 6 = .ok (.iload_n 2, 1) := by decide +kernel
theorem dX8_heldOfNote_7 : decode cX8_heldOfNote 7 = .ok (.bipush (-4), 2) := by decide +kernel
theorem dX8_heldOfNote_9 : decode cX8_heldOfNote 9 = .ok (.if_icmp .ne 6, 3) := by decide +kernel
theorem dX8_heldOfNote_12 : decode cX8_heldOfNote 12 = .ok (.bipush (-4), 2) := by decide +kernel
theorem dX8_heldOfNote_14 : decode cX8_heldOfNote 14 = .ok (.ireturn, 1) := by decide +kernel
theorem dX8_heldOfNote_15 : decode cX8_heldOfNote 15 = .ok (.iload_n 2, 1) := by decide +kernel
theorem dX8_heldOfNote_16 : decode cX8_heldOfNote 16 = .ok (.aload_n 0, 1) := by decide +kernel
theorem dX8_heldOfNote_17 : decode cX8_heldOfNote 17 = .ok (.getfield 51, 3) := by decide +kernel
theorem dX8_heldOfNote_20 : decode cX8_heldOfNote 20 = .ok (.getfield 263, 3) := by decide +kernel
theorem dX8_heldOfNote_23 : decode cX8_heldOfNote 23 = .ok (.iload_n 1, 1) := by decide +kernel
theorem dX8_heldOfNote_24 : decode cX8_heldOfNote 24 = .ok (.iaload, 1) := by decide +kernel
theorem dX8_heldOfNote_25 : decode cX8_heldOfNote 25 = .ok (.isub, 1) := by decide +kernel
theorem dX8_heldOfNote_26 : decode cX8_heldOfNote 26 = .ok (.invokestatic 207, 3) := by decide +kernel
theorem dX8_heldOfNote_29 : decode cX8_heldOfNote 29 = .ok (.aload_n 0, 1) := by decide +kernel
theorem dX8_heldOfNote_30 : decode cX8_heldOfNote 30 = .ok (.getfield 51, 3) := by decide +kernel
theorem dX8_heldOfNote_33 : decode cX8_heldOfNote 33 = .ok (.getfield 266, 3) := by decide +kernel
theorem dX8_heldOfNote_36 : decode cX8_heldOfNote 36 = .ok (.iload_n 1, 1) := by decide +kernel
theorem dX8_heldOfNote_37 : decode cX8_heldOfNote 37 = .ok (.iaload, 1) := by decide +kernel
theorem dX8_heldOfNote_38 : decode cX8_heldOfNote 38 = .ok (.if_icmp .gt 7, 3) := by decide +kernel
theorem dX8_heldOfNote_41 : decode cX8_heldOfNote 41 = .ok (.iconst 1, 1) := by decide +kernel
theorem dX8_heldOfNote_42 : decode cX8_heldOfNote 42 = .ok (.goto 4, 3) := by decide +kernel
theorem dX8_heldOfNote_45 : decode cX8_heldOfNote 45 = .ok (.iconst 0, 1) := by decide +kernel
theorem dX8_heldOfNote_46 : decode cX8_heldOfNote 46 = .ok (.ireturn, 1) := by decide +kernel
theorem dX8_isKnownSo_0 : decode cX8_isKnownSo 0 = .ok (.aload_n 0, 1) := by decide +kernel
theorem dX8_isKnownSo_1 : decode cX8_isKnownSo 1 = .ok (.getfield 15, 3) := by decide +kernel
theorem dX8_isKnownSo_4 : decode cX8_isKnownSo 4 = .ok (.iload_n 1, 1) := by decide +kernel
theorem dX8_isKnownSo_5 : decode cX8_isKnownSo 5 = .ok (.iload_n 2, 1) := by decide +kernel
theorem dX8_isKnownSo_6 : decode cX8_isKnownSo 6 = .ok (.aload_n 0, 1) := by decide +kernel
theorem dX8_isKnownSo_7 : decode cX8_isKnownSo 7 = .ok (.getfield 15, 3) := by decide +kernel
theorem dX8_isKnownSo_10 : decode cX8_isKnownSo 10 = .ok (.getfield 66, 3) := by decide +kernel
theorem dX8_isKnownSo_13 : decode cX8_isKnownSo 13 = .ok (.invokevirtual 76, 3) := by decide +kernel
theorem dX8_isKnownSo_16 : decode cX8_isKnownSo 16 = .ok (.iload_n 3, 1) := by decide +kernel
theorem dX8_isKnownSo_17 : decode cX8_isKnownSo 17 = .ok (.ifCond .ge 8, 3) := by decide +kernel
theorem dX8_isKnownSo_20 : decode cX8_isKnownSo 20 = .ok (.bipush (-4), 2) := by decide +kernel
theorem dX8_isKnownSo_22 : decode cX8_isKnownSo 22 = .ok (.goto 4, 3) := by decide +kernel
theorem dX8_isKnownSo_25 : decode cX8_isKnownSo 25 = .ok (.iload_n 3, 1) := by decide +kernel
theorem dX8_isKnownSo_26 : decode cX8_isKnownSo 26 = .ok (.if_icmp .ne 7, 3) := by decide +kernel
theorem dX8_isKnownSo_29 : decode cX8_isKnownSo 29 = .ok (.iconst 1, 1) := by decide +kernel
theorem dX8_isKnownSo_30 : decode cX8_isKnownSo 30 = .ok (.goto 4, 3) := by decide +kernel
theorem dX8_isKnownSo_33 : decode cX8_isKnownSo 33 = .ok (.iconst 0, 1) := by decide +kernel
theorem dX8_isKnownSo_34 : decode cX8_isKnownSo 34 = .ok (.ireturn, 1) := by decide +kernel
theorem dX8_tellFromSheet_0 : decode cX8_tellFromSheet 0 = .ok (.iconst 0, 1) := by decide +kernel
theorem dX8_tellFromSheet_1 : decode cX8_tellFromSheet 1 = .ok (.istore 6, 2) := by decide +kernel
theorem dX8_tellFromSheet_3 : decode cX8_tellFromSheet 3 = .ok (.iload 6, 2) := by decide +kernel
theorem dX8_tellFromSheet_5 : decode cX8_tellFromSheet 5 = .ok (.iload 5, 2) := by decide +kernel
theorem dX8_tellFromSheet_7 : decode cX8_tellFromSheet 7 = .ok (.if_icmp .ge 62, 3) := by decide +kernel
theorem dX8_tellFromSheet_10 : decode cX8_tellFromSheet 10 = .ok (.aload_n 0, 1) := by decide +kernel
theorem dX8_tellFromSheet_11 : decode cX8_tellFromSheet 11 = .ok (.getfield 58, 3) := by decide +kernel
theorem dX8_tellFromSheet_14 : decode cX8_tellFromSheet 14 = .ok (.iload_n 3, 1) := by decide +kernel
theorem dX8_tellFromSheet_15 : decode cX8_tellFromSheet 15 = .ok (.iload 4, 2) := by decide +kernel
theorem dX8_tellFromSheet_17 : decode cX8_tellFromSheet 17 = .ok (.iload 6, 2) := by decide +kernel
theorem dX8_tellFromSheet_19 : decode cX8_tellFromSheet 19 = .ok (.iadd, 1) := by decide +kernel
theorem dX8_tellFromSheet_20 : decode cX8_tellFromSheet 20 = .ok (.invokevirtual 296, 3) := by decide +kernel
theorem dX8_tellFromSheet_23 : decode cX8_tellFromSheet 23 = .ok (.istore 7, 2) := by decide +kernel
theorem dX8_tellFromSheet_25 : decode cX8_tellFromSheet 25 = .ok (.aload_n 0, 1) := by decide +kernel
theorem dX8_tellFromSheet_26 : decode cX8_tellFromSheet 26 = .ok (.iload_n 1, 1) := by decide +kernel
theorem dX8_tellFromSheet_27 : decode cX8_tellFromSheet 27 = .ok (.iload_n 2, 1) := by decide +kernel
theorem dX8_tellFromSheet_28 : decode cX8_tellFromSheet 28 = .ok (.iload 6, 2) := by decide +kernel
theorem dX8_tellFromSheet_30 : decode cX8_tellFromSheet 30 = .ok (.iadd, 1) := by decide +kernel
theorem dX8_tellFromSheet_31 : decode cX8_tellFromSheet 31 = .ok (.iload 7, 2) := by decide +kernel
theorem dX8_tellFromSheet_33 : decode cX8_tellFromSheet 33 = .ok (.invokevirtual 299, 3) := by decide +kernel
theorem dX8_tellFromSheet_36 : decode cX8_tellFromSheet 36 = .ok (.ifCond .ne 27, 3) := by decide +kernel
theorem dX8_tellFromSheet_39 : decode cX8_tellFromSheet 39 = .ok (.aload_n 0, 1) := by decide +kernel
theorem dX8_tellFromSheet_40 : decode cX8_tellFromSheet 40 = .ok (.getfield 15, 3) := by decide +kernel
theorem dX8_tellFromSheet_43 : decode cX8_tellFromSheet 43 = .ok (.iload_n 1, 1) := by decide +kernel
theorem dX8_tellFromSheet_44 : decode cX8_tellFromSheet 44 = .ok (.iload_n 2, 1) := by decide +kernel
theorem dX8_tellFromSheet_45 : decode cX8_tellFromSheet 45 = .ok (.iload 6, 2) := by decide +kernel
theorem dX8_tellFromSheet_47 : decode cX8_tellFromSheet 47 = .ok (.iadd, 1) := by decide +kernel
theorem dX8_tellFromSheet_48 : decode cX8_tellFromSheet 48 = .ok (.iload 7, 2) := by decide +kernel
theorem dX8_tellFromSheet_50 : decode cX8_tellFromSheet 50 = .ok (.ifCond .ge 8, 3) := by decide +kernel
theorem dX8_tellFromSheet_53 : decode cX8_tellFromSheet 53 = .ok (.bipush (-4), 2) := by decide +kernel
theorem dX8_tellFromSheet_55 : decode cX8_tellFromSheet 55 = .ok (.goto 5, 3) := by decide +kernel
theorem dX8_tellFromSheet_58 : decode cX8_tellFromSheet 58 = .ok (.iload 7, 2) := by decide +kernel
theorem dX8_tellFromSheet_60 : decode cX8_tellFromSheet 60 = .ok (.invokevirtual 80, 3) := by decide +kernel
theorem dX8_tellFromSheet_63 : decode cX8_tellFromSheet 63 = .ok (.iinc 6 1, 3) := by decide +kernel
theorem dX8_tellFromSheet_66 : decode cX8_tellFromSheet 66 = .ok (.goto (-63), 3) := by decide +kernel
theorem dX8_tellFromSheet_69 : decode cX8_tellFromSheet 69 = .ok (.return_, 1) := by decide +kernel
theorem dX8_marked_0 : decode cX8_marked 0 = .ok (.iconst 0, 1) := by decide +kernel
theorem dX8_marked_1 : decode cX8_marked 1 = .ok (.istore_n 1, 1) := by decide +kernel
theorem dX8_marked_2 : decode cX8_marked 2 = .ok (.iconst 0, 1) := by decide +kernel
theorem dX8_marked_3 : decode cX8_marked 3 = .ok (.istore_n 2, 1) := by decide +kernel
theorem dX8_marked_4 : decode cX8_marked 4 = .ok (.iload_n 2, 1) := by decide +kernel
theorem dX8_marked_5 : decode cX8_marked 5 = .ok (.aload_n 0, 1) := by decide +kernel
theorem dX8_marked_6 : decode cX8_marked 6 = .ok (.arraylength, 1) := by decide +kernel
theorem dX8_marked_7 : decode cX8_marked 7 = .ok (.if_icmp .ge 23, 3) := by decide +kernel
theorem dX8_marked_10 : decode cX8_marked 10 = .ok (.iload_n 1, 1) := by decide +kernel
theorem dX8_marked_11 : decode cX8_marked 11 = .ok (.aload_n 0, 1) := by decide +kernel
theorem dX8_marked_12 : decode cX8_marked 12 = .ok (.iload_n 2, 1) := by decide +kernel
theorem dX8_marked_13 : decode cX8_marked 13 = .ok (.baload, 1) := by decide +kernel
theorem dX8_marked_14 : decode cX8_marked 14 = .ok (.ifCond .eq 7, 3) := by decide +kernel
theorem dX8_marked_17 : decode cX8_marked 17 = .ok (.iconst 1, 1) := by decide +kernel
theorem dX8_marked_18 : decode cX8_marked 18 = .ok (.goto 4, 3) := by decide +kernel
theorem dX8_marked_21 : decode cX8_marked 21 = .ok (.iconst 0, 1) := by decide +kernel
theorem dX8_marked_22 : decode cX8_marked 22 = .ok (.iadd, 1) := by decide +kernel
theorem dX8_marked_23 : decode cX8_marked 23 = .ok (.istore_n 1, 1) := by decide +kernel
theorem dX8_marked_24 : decode cX8_marked 24 = .ok (.iinc 2 1, 3) := by decide +kernel
theorem dX8_marked_27 : decode cX8_marked 27 = .ok (.goto (-23), 3) := by decide +kernel
theorem dX8_marked_30 : decode cX8_marked 30 = .ok (.iload_n 1, 1) := by decide +kernel
theorem dX8_marked_31 : decode cX8_marked 31 = .ok (.ireturn, 1) := by decide +kernel
theorem dX9_init_0 : decode cX9_init 0 = .ok (.aload_n 0, 1) := by decide +kernel
theorem dX9_init_1 : decode cX9_init 1 = .ok (.invokespecial 1, 3) := by decide +kernel
theorem dX9_init_4 : decode cX9_init 4 = .ok (.aload_n 0, 1) := by decide +kernel
theorem dX9_init_5 : decode cX9_init 5 = .ok (.sipush 16384, 3) := by decide +kernel
theorem dX9_init_8 : decode cX9_init 8 = .ok (.newarray .int, 2) := by decide +kernel
theorem dX9_init_10 : decode cX9_init 10 = .ok (.putfield 7, 3) := by decide +kernel
theorem dX9_init_13 : decode cX9_init 13 = .ok (.aload_n 0, 1) := by decide +kernel
theorem dX9_init_14 : decode cX9_init 14 = .ok (.bipush 64, 2) := by decide +kernel
theorem dX9_init_16 : decode cX9_init 16 = .ok (.newarray .boolean, 2) := by decide +kernel
theorem dX9_init_18 : decode cX9_init 18 = .ok (.putfield 13, 3) := by decide +kernel
theorem dX9_init_21 : decode cX9_init 21 = .ok (.aload_n 0, 1) := by decide +kernel
theorem dX9_init_22 : decode cX9_init 22 = .ok (.bipush 64, 2) := by decide +kernel
theorem dX9_init_24 : decode cX9_init 24 = .ok (.newarray .boolean, 2) := by decide +kernel
theorem dX9_init_26 : decode cX9_init 26 = .ok (.putfield 17, 3) := by decide +kernel
theorem dX9_init_29 : decode cX9_init 29 = .ok (.aload_n 0, 1) := by decide +kernel
theorem dX9_init_30 : decode cX9_init 30 = .ok (.bipush 120, 2) := by decide +kernel
theorem dX9_init_32 : decode cX9_init 32 = .ok (.newarray .int, 2) := by decide +kernel
theorem dX9_init_34 : decode cX9_init 34 = .ok (.putfield 20, 3) := by decide +kernel
theorem dX9_init_37 : decode cX9_init 37 = .ok (.aload_n 0, 1) := by decide +kernel
theorem dX9_init_38 : decode cX9_init 38 = .ok (.bipush 6, 2) := by decide +kernel
theorem dX9_init_40 : decode cX9_init 40 = .ok (.newarray .int, 2) := by decide +kernel
theorem dX9_init_42 : decode cX9_init 42 = .ok (.dup, 1) := by decide +kernel
theorem dX9_init_43 : decode cX9_init 43 = .ok (.iconst 0, 1) := by decide +kernel
theorem dX9_init_44 : decode cX9_init 44 = .ok (.iconst 0, 1) := by decide +kernel
theorem dX9_init_45 : decode cX9_init 45 = .ok (.iastore, 1) := by decide +kernel
theorem dX9_init_46 : decode cX9_init 46 = .ok (.dup, 1) := by decide +kernel
theorem dX9_init_47 : decode cX9_init 47 = .ok (.iconst 1, 1) := by decide +kernel
theorem dX9_init_48 : decode cX9_init 48 = .ok (.iconst 4, 1) := by decide +kernel
theorem dX9_init_49 : decode cX9_init 49 = .ok (.iastore, 1) := by decide +kernel
theorem dX9_init_50 : decode cX9_init 50 = .ok (.dup, 1) := by decide +kernel
theorem dX9_init_51 : decode cX9_init 51 = .ok (.iconst 2, 1) := by decide +kernel
theorem dX9_init_52 : decode cX9_init 52 = .ok (.bipush 8, 2) := by decide +kernel
theorem dX9_init_54 : decode cX9_init 54 = .ok (.iastore, 1) := by decide +kernel
theorem dX9_init_55 : decode cX9_init 55 = .ok (.dup, 1) := by decide +kernel
theorem dX9_init_56 : decode cX9_init 56 = .ok (.iconst 3, 1) := by decide +kernel
theorem dX9_init_57 : decode cX9_init 57 = .ok (.bipush 12, 2) := by decide +kernel
theorem dX9_init_59 : decode cX9_init 59 = .ok (.iastore, 1) := by decide +kernel
theorem dX9_init_60 : decode cX9_init 60 = .ok (.dup, 1) := by decide +kernel
theorem dX9_init_61 : decode cX9_init 61 = .ok (.iconst 4, 1) := by decide +kernel
theorem dX9_init_62 : decode cX9_init 62 = .ok (.bipush 16, 2) := by decide +kernel
theorem dX9_init_64 : decode cX9_init 64 = .ok (.iastore, 1) := by decide +kernel
theorem dX9_init_65 : decode cX9_init 65 = .ok (.dup, 1) := by decide +kernel
theorem dX9_init_66 : decode cX9_init 66 = .ok (.iconst 5, 1) := by decide +kernel
theorem dX9_init_67 : decode cX9_init 67 = .ok (.bipush 22, 2) := by decide +kernel
theorem dX9_init_69 : decode cX9_init 69 = .ok (.iastore, 1) := by decide +kernel
theorem dX9_init_70 : decode cX9_init 70 = .ok (.putfield 23, 3) := by decide +kernel
theorem dX9_init_73 : decode cX9_init 73 = .ok (.aload_n 0, 1) := by decide +kernel
theorem dX9_init_74 : decode cX9_init 74 = .ok (.bipush 22, 2) := by decide +kernel
theorem dX9_init_76 : decode cX9_init 76 = .ok (.newarray .int, 2) := by decide +kernel
theorem dX9_init_78 : decode cX9_init 78 = .ok (.dup, 1) := by decide +kernel
theorem dX9_init_79 : decode cX9_init 79 = .ok (.iconst 0, 1) := by decide +kernel
theorem dX9_init_80 : decode cX9_init 80 = .ok (.bipush 115, 2) := by decide +kernel
theorem dX9_init_82 : decode cX9_init 82 = .ok (.iastore, 1) := by decide +kernel
theorem dX9_init_83 : decode cX9_init 83 = .ok (.dup, 1) := by decide +kernel
theorem dX9_init_84 : decode cX9_init 84 = .ok (.iconst 1, 1) := by decide +kernel
theorem dX9_init_85 : decode cX9_init 85 = .ok (.bipush 97, 2) := by decide +kernel
theorem dX9_init_87 : decode cX9_init 87 = .ok (.iastore, 1) := by decide +kernel
theorem dX9_init_88 : decode cX9_init 88 = .ok (.dup, 1) := by decide +kernel
theorem dX9_init_89 : decode cX9_init 89 = .ok (.iconst 2, 1) := by decide +kernel
theorem dX9_init_90 : decode cX9_init 90 = .ok (.bipush 109, 2) := by decide +kernel
theorem dX9_init_92 : decode cX9_init 92 = .ok (.iastore, 1) := by decide +kernel
theorem dX9_init_93 : decode cX9_init 93 = .ok (.dup, 1) := by decide +kernel
theorem dX9_init_94 : decode cX9_init 94 = .ok (.iconst 3, 1) := by decide +kernel
theorem dX9_init_95 : decode cX9_init 95 = .ok (.bipush 101, 2) := by decide +kernel
theorem dX9_init_97 : decode cX9_init 97 = .ok (.iastore, 1) := by decide +kernel
theorem dX9_init_98 : decode cX9_init 98 = .ok (.dup, 1) := by decide +kernel
theorem dX9_init_99 : decode cX9_init 99 = .ok (.iconst 4, 1) := by decide +kernel
theorem dX9_init_100 : decode cX9_init 100 = .ok (.bipush 109, 2) := by decide +kernel
theorem dX9_init_102 : decode cX9_init 102 = .ok (.iastore, 1) := by decide +kernel
theorem dX9_init_103 : decode cX9_init 103 = .ok (.dup, 1) := by decide +kernel
theorem dX9_init_104 : decode cX9_init 104 = .ok (.iconst 5, 1) := by decide +kernel
theorem dX9_init_105 : decode cX9_init 105 = .ok (.bipush 101, 2) := by decide +kernel
theorem dX9_init_107 : decode cX9_init 107 = .ok (.iastore, 1) := by decide +kernel
theorem dX9_init_108 : decode cX9_init 108 = .ok (.dup, 1) := by decide +kernel
theorem dX9_init_109 : decode cX9_init 109 = .ok (.bipush 6, 2) := by decide +kernel
theorem dX9_init_111 : decode cX9_init 111 = .ok (.bipush 97, 2) := by decide +kernel
theorem dX9_init_113 : decode cX9_init 113 = .ok (.iastore, 1) := by decide +kernel
theorem dX9_init_114 : decode cX9_init 114 = .ok (.dup, 1) := by decide +kernel
theorem dX9_init_115 : decode cX9_init 115 = .ok (.bipush 7, 2) := by decide +kernel
theorem dX9_init_117 : decode cX9_init 117 = .ok (.bipush 110, 2) := by decide +kernel
theorem dX9_init_119 : decode cX9_init 119 = .ok (.iastore, 1) := by decide +kernel
theorem dX9_init_120 : decode cX9_init 120 = .ok (.dup, 1) := by decide +kernel
theorem dX9_init_121 : decode cX9_init 121 = .ok (.bipush 8, 2) := by decide +kernel
theorem dX9_init_123 : decode cX9_init 123 = .ok (.bipush 115, 2) := by decide +kernel
theorem dX9_init_125 : decode cX9_init 125 = .ok (.iastore, 1) := by decide +kernel
theorem dX9_init_126 : decode cX9_init 126 = .ok (.dup, 1) := by decide +kernel
theorem dX9_init_127 : decode cX9_init 127 = .ok (.bipush 9, 2) := by decide +kernel
theorem dX9_init_129 : decode cX9_init 129 = .ok (.bipush 116, 2) := by decide +kernel
theorem dX9_init_131 : decode cX9_init 131 = .ok (.iastore, 1) := by decide +kernel
theorem dX9_init_132 : decode cX9_init 132 = .ok (.dup, 1) := by decide +kernel
theorem dX9_init_133 : decode cX9_init 133 = .ok (.bipush 10, 2) := by decide +kernel
theorem dX9_init_135 : decode cX9_init 135 = .ok (.bipush 101, 2) := by decide +kernel
theorem dX9_init_137 : decode cX9_init 137 = .ok (.iastore, 1) := by decide +kernel
theorem dX9_init_138 : decode cX9_init 138 = .ok (.dup, 1) := by decide +kernel
theorem dX9_init_139 : decode cX9_init 139 = .ok (.bipush 11, 2) := by decide +kernel
theorem dX9_init_141 : decode cX9_init 141 = .ok (.bipush 112, 2) := by decide +kernel
theorem dX9_init_143 : decode cX9_init 143 = .ok (.iastore, 1) := by decide +kernel
theorem dX9_init_144 : decode cX9_init 144 = .ok (.dup, 1) := by decide +kernel
theorem dX9_init_145 : decode cX9_init 145 = .ok (.bipush 12, 2) := by decide +kernel
theorem dX9_init_147 : decode cX9_init 147 = .ok (.bipush 108, 2) := by decide +kernel
theorem dX9_init_149 : decode cX9_init 149 = .ok (.iastore, 1) := by decide +kernel
theorem dX9_init_150 : decode cX9_init 150 = .ok (.dup, 1) := by decide +kernel
theorem dX9_init_151 : decode cX9_init 151 = .ok (.bipush 13, 2) := by decide +kernel
theorem dX9_init_153 : decode cX9_init 153 = .ok (.bipush 105, 2) := by decide +kernel
theorem dX9_init_155 : decode cX9_init 155 = .ok (.iastore, 1) := by decide +kernel
theorem dX9_init_156 : decode cX9_init 156 = .ok (.dup, 1) := by decide +kernel
theorem dX9_init_157 : decode cX9_init 157 = .ok (.bipush 14, 2) := by decide +kernel
theorem dX9_init_159 : decode cX9_init 159 = .ok (.bipush 107, 2) := by decide +kernel
theorem dX9_init_161 : decode cX9_init 161 = .ok (.iastore, 1) := by decide +kernel
theorem dX9_init_162 : decode cX9_init 162 = .ok (.dup, 1) := by decide +kernel
theorem dX9_init_163 : decode cX9_init 163 = .ok (.bipush 15, 2) := by decide +kernel
theorem dX9_init_165 : decode cX9_init 165 = .ok (.bipush 101, 2) := by decide +kernel
theorem dX9_init_167 : decode cX9_init 167 = .ok (.iastore, 1) := by decide +kernel
theorem dX9_init_168 : decode cX9_init 168 = .ok (.dup, 1) := by decide +kernel
theorem dX9_init_169 : decode cX9_init 169 = .ok (.bipush 16, 2) := by decide +kernel
theorem dX9_init_171 : decode cX9_init 171 = .ok (.bipush 106, 2) := by decide +kernel
theorem dX9_init_173 : decode cX9_init 173 = .ok (.iastore, 1) := by decide +kernel
theorem dX9_init_174 : decode cX9_init 174 = .ok (.dup, 1) := by decide +kernel
theorem dX9_init_175 : decode cX9_init 175 = .ok (.bipush 17, 2) := by decide +kernel
theorem dX9_init_177 : decode cX9_init 177 = .ok (.bipush 111, 2) := by decide +kernel
theorem dX9_init_179 : decode cX9_init 179 = .ok (.iastore, 1) := by decide +kernel
theorem dX9_init_180 : decode cX9_init 180 = .ok (.dup, 1) := by decide +kernel
theorem dX9_init_181 : decode cX9_init 181 = .ok (.bipush 18, 2) := by decide +kernel
theorem dX9_init_183 : decode cX9_init 183 = .ok (.bipush 105, 2) := by decide +kernel
theorem dX9_init_185 : decode cX9_init 185 = .ok (.iastore, 1) := by decide +kernel
theorem dX9_init_186 : decode cX9_init 186 = .ok (.dup, 1) := by decide +kernel
theorem dX9_init_187 : decode cX9_init 187 = .ok (.bipush 19, 2) := by decide +kernel
theorem dX9_init_189 : decode cX9_init 189 = .ok (.bipush 110, 2) := by decide +kernel
theorem dX9_init_191 : decode cX9_init 191 = .ok (.iastore, 1) := by decide +kernel
theorem dX9_init_192 : decode cX9_init 192 = .ok (.dup, 1) := by decide +kernel
theorem dX9_init_193 : decode cX9_init 193 = .ok (.bipush 20, 2) := by decide +kernel
theorem dX9_init_195 : decode cX9_init 195 = .ok (.bipush 101, 2) := by decide +kernel
theorem dX9_init_197 : decode cX9_init 197 = .ok (.iastore, 1) := by decide +kernel
theorem dX9_init_198 : decode cX9_init 198 = .ok (.dup, 1) := by decide +kernel
theorem dX9_init_199 : decode cX9_init 199 = .ok (.bipush 21, 2) := by decide +kernel
theorem dX9_init_201 : decode cX9_init 201 = .ok (.bipush 100, 2) := by decide +kernel
theorem dX9_init_203 : decode cX9_init 203 = .ok (.iastore, 1) := by decide +kernel
theorem dX9_init_204 : decode cX9_init 204 = .ok (.putfield 26, 3) := by decide +kernel
theorem dX9_init_207 : decode cX9_init 207 = .ok (.aload_n 0, 1) := by decide +kernel
theorem dX9_init_208 : decode cX9_init 208 = .ok (.iconst 5, 1) := by decide +kernel
theorem dX9_init_209 : decode cX9_init 209 = .ok (.newarray .int, 2) := by decide +kernel
theorem dX9_init_211 : decode cX9_init 211 = .ok (.dup, 1) := by decide +kernel
theorem dX9_init_212 : decode cX9_init 212 = .ok (.iconst 0, 1) := by decide +kernel
theorem dX9_init_213 : decode cX9_init 213 = .ok (.bipush 14, 2) := by decide +kernel
theorem dX9_init_215 : decode cX9_init 215 = .ok (.iastore, 1) := by decide +kernel
theorem dX9_init_216 : decode cX9_init 216 = .ok (.dup, 1) := by decide +kernel
theorem dX9_init_217 : decode cX9_init 217 = .ok (.iconst 1, 1) := by decide +kernel
theorem dX9_init_218 : decode cX9_init 218 = .ok (.bipush 20, 2) := by decide +kernel
theorem dX9_init_220 : decode cX9_init 220 = .ok (.iastore, 1) := by decide +kernel
theorem dX9_init_221 : decode cX9_init 221 = .ok (.dup, 1) := by decide +kernel
theorem dX9_init_222 : decode cX9_init 222 = .ok (.iconst 2, 1) := by decide +kernel
theorem dX9_init_223 : decode cX9_init 223 = .ok (.bipush 10, 2) := by decide +kernel
theorem dX9_init_225 : decode cX9_init 225 = .ok (.iastore, 1) := by decide +kernel
theorem dX9_init_226 : decode cX9_init 226 = .ok (.dup, 1) := by decide +kernel
theorem dX9_init_227 : decode cX9_init 227 = .ok (.iconst 3, 1) := by decide +kernel
theorem dX9_init_228 : decode cX9_init 228 = .ok (.bipush 8, 2) := by decide +kernel
theorem dX9_init_230 : decode cX9_init 230 = .ok (.iastore, 1) := by decide +kernel
theorem dX9_init_231 : decode cX9_init 231 = .ok (.dup, 1) := by decide +kernel
theorem dX9_init_232 : decode cX9_init 232 = .ok (.iconst 4, 1) := by decide +kernel
theorem dX9_init_233 : decode cX9_init 233 = .ok (.bipush 30, 2) := by decide +kernel
theorem dX9_init_235 : decode cX9_init 235 = .ok (.iastore, 1) := by decide +kernel
theorem dX9_init_236 : decode cX9_init 236 = .ok (.putfield 29, 3) := by decide +kernel
theorem dX9_init_239 : decode cX9_init 239 = .ok (.aload_n 0, 1) := by decide +kernel
theorem dX9_init_240 : decode cX9_init 240 = .ok (.bipush 6, 2) := by decide +kernel
theorem dX9_init_242 : decode cX9_init 242 = .ok (.newarray .int, 2) := by decide +kernel
theorem dX9_init_244 : decode cX9_init 244 = .ok (.putfield 32, 3) := by decide +kernel
theorem dX9_init_247 : decode cX9_init 247 = .ok (.aload_n 0, 1) := by decide +kernel
theorem dX9_init_248 : decode cX9_init 248 = .ok (.bipush 6, 2) := by decide +kernel
theorem dX9_init_250 : decode cX9_init 250 = .ok (.newarray .int, 2) := by decide +kernel
theorem dX9_init_252 : decode cX9_init 252 = .ok (.putfield 35, 3) := by decide +kernel
theorem dX9_init_255 : decode cX9_init 255 = .ok (.aload_n 0, 1) := by decide +kernel
theorem dX9_init_256 : decode cX9_init 256 = .ok (.bipush 6, 2) := by decide +kernel
theorem dX9_init_258 : decode cX9_init 258 = .ok (.newarray .int, 2) := by decide +kernel
theorem dX9_init_260 : decode cX9_init 260 = .ok (.putfield 38, 3) := by decide +kernel
theorem dX9_init_263 : decode cX9_init 263 = .ok (.aload_n 0, 1) := by decide +kernel
theorem dX9_init_264 : decode cX9_init 264 = .ok (.bipush 6, 2) := by decide +kernel
theorem dX9_init_266 : decode cX9_init 266 = .ok (.newarray .int, 2) := by decide +kernel
theorem dX9_init_268 : decode cX9_init 268 = .ok (.putfield 41, 3) := by decide +kernel
theorem dX9_init_271 : decode cX9_init 271 = .ok (.aload_n 0, 1) := by decide +kernel
theorem dX9_init_272 : decode cX9_init 272 = .ok (.bipush 6, 2) := by decide +kernel
theorem dX9_init_274 : decode cX9_init 274 = .ok (.newarray .int, 2) := by decide +kernel
theorem dX9_init_276 : decode cX9_init 276 = .ok (.putfield 44, 3) := by decide +kernel
theorem dX9_init_279 : decode cX9_init 279 = .ok (.aload_n 0, 1) := by decide +kernel
theorem dX9_init_280 : decode cX9_init 280 = .ok (.bipush 6, 2) := by decide +kernel
theorem dX9_init_282 : decode cX9_init 282 = .ok (.newarray .int, 2) := by decide +kernel
theorem dX9_init_284 : decode cX9_init 284 = .ok (.putfield 47, 3) := by decide +kernel
theorem dX9_init_287 : decode cX9_init 287 = .ok (.aload_n 0, 1) := by decide +kernel
theorem dX9_init_288 : decode cX9_init 288 = .ok (.bipush 64, 2) := by decide +kernel
theorem dX9_init_290 : decode cX9_init 290 = .ok (.newarray .int, 2) := by decide +kernel
theorem dX9_init_292 : decode cX9_init 292 = .ok (.putfield 50, 3) := by decide +kernel
theorem dX9_init_295 : decode cX9_init 295 = .ok (.aload_n 0, 1) := by decide +kernel
theorem dX9_init_296 : decode cX9_init 296 = .ok (.bipush 64, 2) := by decide +kernel
theorem dX9_init_298 : decode cX9_init 298 = .ok (.newarray .boolean, 2) := by decide +kernel
theorem dX9_init_300 : decode cX9_init 300 = .ok (.putfield 53, 3) := by decide +kernel
theorem dX9_init_303 : decode cX9_init 303 = .ok (.aload_n 0, 1) := by decide +kernel
theorem dX9_init_304 : decode cX9_init 304 = .ok (.bipush 64, 2) := by decide +kernel
theorem dX9_init_306 : decode cX9_init 306 = .ok (.newarray .int, 2) := by decide +kernel
theorem dX9_init_308 : decode cX9_init 308 = .ok (.putfield 56, 3) := by decide +kernel
theorem dX9_init_311 : decode cX9_init 311 = .ok (.aload_n 0, 1) := by decide +kernel
theorem dX9_init_312 : decode cX9_init 312 = .ok (.bipush 24, 2) := by decide +kernel
theorem dX9_init_314 : decode cX9_init 314 = .ok (.newarray .int, 2) := by decide +kernel
theorem dX9_init_316 : decode cX9_init 316 = .ok (.putfield 59, 3) := by decide +kernel
theorem dX9_init_319 : decode cX9_init 319 = .ok (.aload_n 0, 1) := by decide +kernel
theorem dX9_init_320 : decode cX9_init 320 = .ok (.bipush 24, 2) := by decide +kernel
theorem dX9_init_322 : decode cX9_init 322 = .ok (.newarray .int, 2) := by decide +kernel
theorem dX9_init_324 : decode cX9_init 324 = .ok (.putfield 62, 3) := by decide +kernel
theorem dX9_init_327 : decode cX9_init 327 = .ok (.aload_n 0, 1) := by decide +kernel
theorem dX9_init_328 : decode cX9_init 328 = .ok (.bipush 24, 2) := by decide +kernel
theorem dX9_init_330 : decode cX9_init 330 = .ok (.newarray .int, 2) := by decide +kernel
theorem dX9_init_332 : decode cX9_init 332 = .ok (.putfield 65, 3) := by decide +kernel
theorem dX9_init_335 : decode cX9_init 335 = .ok (.aload_n 0, 1) := by decide +kernel
theorem dX9_init_336 : decode cX9_init 336 = .ok (.bipush 24, 2) := by decide +kernel
theorem dX9_init_338 : decode cX9_init 338 = .ok (.newarray .int, 2) := by decide +kernel
theorem dX9_init_340 : decode cX9_init 340 = .ok (.putfield 68, 3) := by decide +kernel
theorem dX9_init_343 : decode cX9_init 343 = .ok (.aload_n 0, 1) := by decide +kernel
theorem dX9_init_344 : decode cX9_init 344 = .ok (.bipush 24, 2) := by decide +kernel
theorem dX9_init_346 : decode cX9_init 346 = .ok (.newarray .int, 2) := by decide +kernel
theorem dX9_init_348 : decode cX9_init 348 = .ok (.putfield 71, 3) := by decide +kernel
theorem dX9_init_351 : decode cX9_init 351 = .ok (.aload_n 0, 1) := by decide +kernel
theorem dX9_init_352 : decode cX9_init 352 = .ok (.bipush 24, 2) := by decide +kernel
theorem dX9_init_354 : decode cX9_init 354 = .ok (.newarray .int, 2) := by decide +kernel
theorem dX9_init_356 : decode cX9_init 356 = .ok (.putfield 74, 3) := by decide +kernel
theorem dX9_init_359 : decode cX9_init 359 = .ok (.aload_n 0, 1) := by decide +kernel
theorem dX9_init_360 : decode cX9_init 360 = .ok (.bipush 24, 2) := by decide +kernel
theorem dX9_init_362 : decode cX9_init 362 = .ok (.newarray .int, 2) := by decide +kernel
theorem dX9_init_364 : decode cX9_init 364 = .ok (.putfield 77, 3) := by decide +kernel
theorem dX9_init_367 : decode cX9_init 367 = .ok (.aload_n 0, 1) := by decide +kernel
theorem dX9_init_368 : decode cX9_init 368 = .ok (.iconst 4, 1) := by decide +kernel
theorem dX9_init_369 : decode cX9_init 369 = .ok (.newarray .int, 2) := by decide +kernel
theorem dX9_init_371 : decode cX9_init 371 = .ok (.dup, 1) := by decide +kernel
theorem dX9_init_372 : decode cX9_init 372 = .ok (.iconst 0, 1) := by decide +kernel
theorem dX9_init_373 : decode cX9_init 373 = .ok (.bipush (-4), 2) := by decide +kernel
theorem dX9_init_375 : decode cX9_init 375 = .ok (.iastore, 1) := by decide +kernel
theorem dX9_init_376 : decode cX9_init 376 = .ok (.dup, 1) := by decide +kernel
theorem dX9_init_377 : decode cX9_init 377 = .ok (.iconst 1, 1) := by decide +kernel
theorem dX9_init_378 : decode cX9_init 378 = .ok (.bipush (-4), 2) := by decide +kernel
theorem dX9_init_380 : decode cX9_init 380 = .ok (.iastore, 1) := by decide +kernel
theorem dX9_init_381 : decode cX9_init 381 = .ok (.dup, 1) := by decide +kernel
theorem dX9_init_382 : decode cX9_init 382 = .ok (.iconst 2, 1) := by decide +kernel
theorem dX9_init_383 : decode cX9_init 383 = .ok (.bipush (-4), 2) := by decide +kernel
theorem dX9_init_385 : decode cX9_init 385 = .ok (.iastore, 1) := by decide +kernel
theorem dX9_init_386 : decode cX9_init 386 = .ok (.dup, 1) := by decide +kernel
theorem dX9_init_387 : decode cX9_init 387 = .ok (.iconst 3, 1) := by decide +kernel
theorem dX9_init_388 : decode cX9_init 388 = .ok (.bipush (-4), 2) := by decide +kernel
theorem dX9_init_390 : decode cX9_init 390 = .ok (.iastore, 1) := by decide +kernel
theorem dX9_init_391 : decode cX9_init 391 = .ok (.putfield 80, 3) := by decide +kernel
theorem dX9_init_394 : decode cX9_init 394 = .ok (.aload_n 0, 1) := by decide +kernel
theorem dX9_init_395 : decode cX9_init 395 = .ok (.iconst 4, 1) := by decide +kernel
theorem dX9_init_396 : decode cX9_init 396 = .ok (.newarray .int, 2) := by decide +kernel
theorem dX9_init_398 : decode cX9_init 398 = .ok (.putfield 83, 3) := by decide +kernel
theorem dX9_init_401 : decode cX9_init 401 = .ok (.aload_n 0, 1) := by decide +kernel
theorem dX9_init_402 : decode cX9_init 402 = .ok (.sipush 256, 3) := by decide +kernel
theorem dX9_init_405 : decode cX9_init 405 = .ok (.newarray .int, 2) := by decide +kernel
theorem dX9_init_407 : decode cX9_init 407 = .ok (.putfield 86, 3) := by decide +kernel
theorem dX9_init_410 : decode cX9_init 410 = .ok (.return_, 1) := by decide +kernel
