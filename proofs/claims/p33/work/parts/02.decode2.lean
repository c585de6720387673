theorem dX9_in_0 : decode cX9_in 0 = .ok (.lload_n 0, 1) := by decide +kernel
theorem dX9_in_1 : decode cX9_in 1 = .ok (.lload_n 2, 1) := by decide +kernel
theorem dX9_in_2 : decode cX9_in 2 = .ok (.lcmp, 1) := by decide +kernel
theorem dX9_in_3 : decode cX9_in 3 = .ok (.ifCond .lt 14, 3) := by decide +kernel
theorem dX9_in_6 : decode cX9_in 6 = .ok (.lload_n 0, 1) := by decide +kernel
theorem dX9_in_7 : decode cX9_in 7 = .ok (.lload 4, 2) := by decide +kernel
theorem dX9_in_9 : decode cX9_in 9 = .ok (.lcmp, 1) := by decide +kernel
theorem dX9_in_10 : decode cX9_in 10 = .ok (.ifCond .gt 7, 3) := by decide +kernel
theorem dX9_in_13 : decode cX9_in 13 = .ok (.iconst 1, 1) := by decide +kernel
theorem dX9_in_14 : decode cX9_in 14 = .ok (.goto 4, 3) := by decide +kernel
theorem dX9_in_17 : decode cX9_in 17 = .ok (.iconst 0, 1) := by decide +kernel
theorem dX9_in_18 : decode cX9_in 18 = .ok (.ireturn, 1) := by decide +kernel
theorem dX9_isShop_0 : decode cX9_isShop 0 = .ok (.iload_n 0, 1) := by decide +kernel
theorem dX9_isShop_1 : decode cX9_isShop 1 = .ok (.i2l, 1) := by decide +kernel
theorem dX9_isShop_2 : decode cX9_isShop 2 = .ok (.lconst 0, 1) := by decide +kernel
theorem dX9_isShop_3 : decode cX9_isShop 3 = .ok (.ldc2_w 89, 3) := by decide +kernel
theorem dX9_isShop_6 : decode cX9_isShop 6 = .ok (.invokestatic 91, 3) := by decide +kernel
theorem dX9_isShop_9 : decode cX9_isShop 9 = .ok (.ireturn, 1) := by decide +kernel
theorem dX9_isDay_0 : decode cX9_isDay 0 = .ok (.iload_n 0, 1) := by decide +kernel
theorem dX9_isDay_1 : decode cX9_isDay 1 = .ok (.i2l, 1) := by decide +kernel
theorem dX9_isDay_2 : decode cX9_isDay 2 = .ok (.lconst 0, 1) := by decide +kernel
theorem dX9_isDay_3 : decode cX9_isDay 3 = .ok (.ldc2_w 95, 3) := by decide +kernel
theorem dX9_isDay_6 : decode cX9_isDay 6 = .ok (.invokestatic 91, 3) := by decide +kernel
theorem dX9_isDay_9 : decode cX9_isDay 9 = .ok (.ireturn, 1) := by decide +kernel
theorem dX9_knownOn_0 : decode cX9_knownOn 0 = .ok (.iload_n 2, 1) := by decide +kernel
theorem dX9_knownOn_1 : decode cX9_knownOn 1 = .ok (.invokestatic 97, 3) := by decide +kernel
theorem dX9_knownOn_4 : decode cX9_knownOn 4 = .ok (.ifCond .eq 25, 3) := by decide +kernel
theorem dX9_knownOn_7 : decode cX9_knownOn 7 = .ok (.aload_n 0, 1) := by decide +kernel
theorem dX9_knownOn_8 : decode cX9_knownOn 8 = .ok (.getfield 7, 3) := by decide +kernel
theorem dX9_knownOn_11 : decode cX9_knownOn 11 = .ok (.sipush 256, 3) := by decide +kernel
theorem dX9_knownOn_14 : decode cX9_knownOn 14 = .ok (.iload_n 3, 1) := by decide +kernel
theorem dX9_knownOn_15 : decode cX9_knownOn 15 = .ok (.imul, 1) := by decide +kernel
theorem dX9_knownOn_16 : decode cX9_knownOn 16 = .ok (.bipush 64, 2) := by decide +kernel
theorem dX9_knownOn_18 : decode cX9_knownOn 18 = .ok (.iload_n 1, 1) := by decide +kernel
theorem dX9_knownOn_19 : decode cX9_knownOn 19 = .ok (.imul, 1) := by decide +kernel
theorem dX9_knownOn_20 : decode cX9_knownOn 20 = .ok (.iadd, 1) := by decide +kernel
theorem dX9_knownOn_21 : decode cX9_knownOn 21 = .ok (.iload_n 2, 1) := by decide +kernel
theorem dX9_knownOn_22 : decode cX9_knownOn 22 = .ok (.iadd, 1) := by decide +kernel
theorem dX9_knownOn_23 : decode cX9_knownOn 23 = .ok (.iaload, 1) := by decide +kernel
theorem dX9_knownOn_24 : decode cX9_knownOn 24 = .ok (.iconst 1, 1) := by decide +kernel
theorem dX9_knownOn_25 : decode cX9_knownOn 25 = .ok (.isub, 1) := by decide +kernel
theorem dX9_knownOn_26 : decode cX9_knownOn 26 = .ok (.goto 4, 3) := by decide +kernel
theorem dX9_knownOn_29 : decode cX9_knownOn 29 = .ok (.iconst (-1), 1) := by decide +kernel
theorem dX9_knownOn_30 : decode cX9_knownOn 30 = .ok (.ireturn, 1) := by decide +kernel
theorem dX9_now_0 : decode cX9_now 0 = .ok (.iload_n 1, 1) := by decide +kernel
theorem dX9_now_1 : decode cX9_now 1 = .ok (.i2l, 1) := by decide +kernel
theorem dX9_now_2 : decode cX9_now 2 = .ok (.aload_n 0, 1) := by decide +kernel
theorem dX9_now_3 : decode cX9_now 3 = .ok (.getfield 101, 3) := by decide +kernel
theorem dX9_now_6 : decode cX9_now 6 = .ok (.i2l, 1) := by decide +kernel
theorem dX9_now_7 : decode cX9_now 7 = .ok (.ldc2_w 95, 3) := by decide +kernel
theorem dX9_now_10 : decode cX9_now 10 = .ok (.invokestatic 91, 3) := by decide +kernel
theorem dX9_now_13 : decode cX9_now 13 = .ok (.ifCond .ne 5, 3) := by decide +kernel
theorem dX9_now_16 : decode cX9_now 16 = .ok (.iconst (-1), 1) := by decide +kernel
theorem dX9_now_17 : decode cX9_now 17 = .ok (.ireturn, 1) := by decide +kernel
theorem dX9_now_18 : decode cX9_now 18 = .ok (.aload_n 0, 1) := by decide +kernel
theorem dX9_now_19 : decode cX9_now 19 = .ok (.getfield 101, 3) := by decide +kernel
theorem dX9_now_22 : decode cX9_now 22 = .ok (.istore_n 2, 1) := by decide +kernel
theorem dX9_now_23 : decode cX9_now 23 = .ok (.aload_n 0, 1) := by decide +kernel
theorem dX9_now_24 : decode cX9_now 24 = .ok (.iload_n 1, 1) := by decide +kernel
theorem dX9_now_25 : decode cX9_now 25 = .ok (.putfield 101, 3) := by decide +kernel
theorem dX9_now_28 : decode cX9_now 28 = .ok (.iload_n 2, 1) := by decide +kernel
theorem dX9_now_29 : decode cX9_now 29 = .ok (.ireturn, 1) := by decide +kernel
theorem dX9_tellFigure_0 : decode cX9_tellFigure 0 = .ok (.aload_n 0, 1) := by decide +kernel
theorem dX9_tellFigure_1 : decode cX9_tellFigure 1 = .ok (.getfield 101, 3) := by decide +kernel
theorem dX9_tellFigure_4 : decode cX9_tellFigure 4 = .ok (.istore 4, 2) := by decide +kernel
theorem dX9_tellFigure_6 : decode cX9_tellFigure 6 = .ok (.iload 4, 2) := by decide +kernel
theorem dX9_tellFigure_8 : decode cX9_tellFigure 8 = .ok (.bipush 64, 2) := by decide +kernel
theorem dX9_tellFigure_10 : decode cX9_tellFigure 10 = .ok (.if_icmp .ge 30, 3) := by decide +kernel
theorem dX9_tellFigure_13 : decode cX9_tellFigure 13 = .ok (.aload_n 0, 1) := by decide +kernel
theorem dX9_tellFigure_14 : decode cX9_tellFigure 14 = .ok (.getfield 7, 3) := by decide +kernel
theorem dX9_tellFigure_17 : decode cX9_tellFigure 17 = .ok (.sipush 256, 3) := by decide +kernel
theorem dX9_tellFigure_20 : decode cX9_tellFigure 20 = .ok (.iload 4, 2) := by decide +kernel
theorem dX9_tellFigure_22 : decode cX9_tellFigure 22 = .ok (.imul, 1) := by decide +kernel
theorem dX9_tellFigure_23 : decode cX9_tellFigure 23 = .ok (.bipush 64, 2) := by decide +kernel
theorem dX9_tellFigure_25 : decode cX9_tellFigure 25 = .ok (.iload_n 1, 1) := by decide +kernel
theorem dX9_tellFigure_26 : decode cX9_tellFigure 26 = .ok (.imul, 1) := by decide +kernel
theorem dX9_tellFigure_27 : decode cX9_tellFigure 27 = .ok (.iadd, 1) := by decide +kernel
theorem dX9_tellFigure_28 : decode cX9_tellFigure 28 = .ok (.iload_n 2, 1) := by decide +kernel
theorem dX9_tellFigure_29 : decode cX9_tellFigure 29 = .ok (.iadd, 1) := by decide +kernel
theorem dX9_tellFigure_30 : decode cX9_tellFigure 30 = .ok (.iload_n 3, 1) := by decide +kernel
theorem dX9_tellFigure_31 : decode cX9_tellFigure 31 = .ok (.iconst 1, 1) := by decide +kernel
theorem dX9_tellFigure_32 : decode cX9_tellFigure 32 = .ok (.iadd, 1) := by decide +kernel
theorem dX9_tellFigure_33 : decode cX9_tellFigure 33 = .ok (.iastore, 1) := by decide +kernel
theorem dX9_tellFigure_34 : decode cX9_tellFigure 34 = .ok (.iinc 4 1, 3) := by decide +kernel
theorem dX9_tellFigure_37 : decode cX9_tellFigure 37 = .ok (.goto (-31), 3) := by decide +kernel
theorem dX9_tellFigure_40 : decode cX9_tellFigure 40 = .ok (.aload_n 0, 1) := by decide +kernel
theorem dX9_tellFigure_41 : decode cX9_tellFigure 41 = .ok (.dup, 1) := by decide +kernel
theorem dX9_tellFigure_42 : decode cX9_tellFigure 42 = .ok (.getfield 105, 3) := by decide +kernel
theorem dX9_tellFigure_45 : decode cX9_tellFigure 45 = .ok (.iconst 1, 1) := by decide +kernel
theorem dX9_tellFigure_46 : decode cX9_tellFigure 46 = .ok (.iadd, 1) := by decide +kernel
theorem dX9_tellFigure_47 : decode cX9_tellFigure 47 = .ok (.putfield 105, 3) := by decide +kernel
theorem dX9_tellFigure_50 : decode cX9_tellFigure 50 = .ok (.return_, 1) := by decide +kernel
theorem dX9_orNone_0 : decode cX9_orNone 0 = .ok (.iload_n 0, 1) := by decide +kernel
theorem dX9_orNone_1 : decode cX9_orNone 1 = .ok (.ifCond .ge 8, 3) := by decide +kernel
theorem dX9_orNone_4 : decode cX9_orNone 4 = .ok (.bipush (-4), 2) := by decide +kernel
theorem dX9_orNone_6 : decode cX9_orNone 6 = .ok (.goto 4, 3) := by decide +kernel
theorem dX9_orNone_9 : decode cX9_orNone 9 = .ok (.iload_n 0, 1) := by decide +kernel
theorem dX9_orNone_10 : decode cX9_orNone 10 = .ok (.ireturn, 1) := by decide +kernel
theorem dX9_figure_0 : decode cX9_figure 0 = .ok (.iload_n 1, 1) := by decide +kernel
theorem dX9_figure_1 : decode cX9_figure 1 = .ok (.invokestatic 108, 3) := by decide +kernel
theorem dX9_figure_4 : decode cX9_figure 4 = .ok (.ifCond .eq 35, 3) := by decide +kernel
theorem dX9_figure_7 : decode cX9_figure 7 = .ok (.iload_n 2, 1) := by decide +kernel
theorem dX9_figure_8 : decode cX9_figure 8 = .ok (.i2l, 1) := by decide +kernel
theorem dX9_figure_9 : decode cX9_figure 9 = .ok (.lconst 0, 1) := by decide +kernel
theorem dX9_figure_10 : decode cX9_figure 10 = .ok (.aload_n 0, 1) := by decide +kernel
theorem dX9_figure_11 : decode cX9_figure 11 = .ok (.getfield 101, 3) := by decide +kernel
theorem dX9_figure_14 : decode cX9_figure 14 = .ok (.i2l, 1) := by decide +kernel
theorem dX9_figure_15 : decode cX9_figure 15 = .ok (.invokestatic 91, 3) := by decide +kernel
theorem dX9_figure_18 : decode cX9_figure 18 = .ok (.ifCond .eq 21, 3) := by decide +kernel
theorem dX9_figure_21 : decode cX9_figure 21 = .ok (.iload_n 3, 1) := by decide +kernel
theorem dX9_figure_22 : decode cX9_figure 22 = .ok (.i2l, 1) := by decide +kernel
theorem dX9_figure_23 : decode cX9_figure 23 = .ok (.lconst 0, 1) := by decide +kernel
theorem dX9_figure_24 : decode cX9_figure 24 = .ok (.ldc2_w 111, 3) := by decide +kernel
theorem dX9_figure_27 : decode cX9_figure 27 = .ok (.invokestatic 91, 3) := by decide +kernel
theorem dX9_figure_30 : decode cX9_figure 30 = .ok (.ifCond .ne 12, 3) := by decide +kernel
theorem dX9_figure_33 : decode cX9_figure 33 = .ok (.iload_n 3, 1) := by decide +kernel
theorem dX9_figure_34 : decode cX9_figure 34 = .ok (.bipush (-4), 2) := by decide +kernel
theorem dX9_figure_36 : decode cX9_figure 36 = .ok (.if_icmp .eq 6, 3) := by decide +kernel
theorem dX9_figure_39 : decode cX9_figure 39 = .ok (.bipush (-5), 2) := by decide +kernel
theorem dX9_figure_41 : decode cX9_figure 41 = .ok (.ireturn, 1) := by decide +kernel
theorem dX9_figure_42 : decode cX9_figure 42 = .ok (.aload_n 0, 1) := by decide +kernel
theorem dX9_figure_43 : decode cX9_figure 43 = .ok (.getfield 105, 3) := by decide +kernel
theorem dX9_figure_46 : decode cX9_figure 46 = .ok (.sipush 200, 3) := by decide +kernel
theorem dX9_figure_49 : decode cX9_figure 49 = .ok (.if_icmp .ne 6, 3) := by decide +kernel
theorem dX9_figure_52 : decode cX9_figure 52 = .ok (.bipush (-7), 2) := by decide +kernel
theorem dX9_figure_54 : decode cX9_figure 54 = .ok (.ireturn, 1) := by decide +kernel
theorem dX9_figure_55 : decode cX9_figure 55 = .ok (.aload_n 0, 1) := by decide +kernel
theorem dX9_figure_56 : decode cX9_figure 56 = .ok (.iload_n 1, 1) := by decide +kernel
theorem dX9_figure_57 : decode cX9_figure 57 = .ok (.iload_n 2, 1) := by decide +kernel
theorem dX9_figure_58 : decode cX9_figure 58 = .ok (.aload_n 0, 1) := by decide +kernel
theorem dX9_figure_59 : decode cX9_figure 59 = .ok (.getfield 101, 3) := by decide +kernel
theorem dX9_figure_62 : decode cX9_figure 62 = .ok (.invokevirtual 113, 3) := by decide +kernel
theorem dX9_figure_65 : decode cX9_figure 65 = .ok (.invokestatic 117, 3) := by decide +kernel
theorem dX9_figure_68 : decode cX9_figure 68 = .ok (.istore 4, 2) := by decide +kernel
theorem dX9_figure_70 : decode cX9_figure 70 = .ok (.aload_n 0, 1) := by decide +kernel
theorem dX9_figure_71 : decode cX9_figure 71 = .ok (.iload_n 1, 1) := by decide +kernel
theorem dX9_figure_72 : decode cX9_figure 72 = .ok (.iload_n 2, 1) := by decide +kernel
theorem dX9_figure_73 : decode cX9_figure 73 = .ok (.iload_n 3, 1) := by decide +kernel
theorem dX9_figure_74 : decode cX9_figure 74 = .ok (.bipush (-4), 2) := by decide +kernel
theorem dX9_figure_76 : decode cX9_figure 76 = .ok (.if_icmp .ne 7, 3) := by decide +kernel
theorem dX9_figure_79 : decode cX9_figure 79 = .ok (.iconst (-1), 1) := by decide +kernel
theorem dX9_figure_80 : decode cX9_figure 80 = .ok (.goto 4, 3) := by decide +kernel
theorem dX9_figure_83 : decode cX9_figure 83 = .ok (.iload_n 3, 1) := by decide +kernel
theorem dX9_figure_84 : decode cX9_figure 84 = .ok (.invokevirtual 121, 3) := by decide +kernel
theorem dX9_figure_87 : decode cX9_figure 87 = .ok (.iload 4, 2) := by decide +kernel
theorem dX9_figure_89 : decode cX9_figure 89 = .ok (.ireturn, 1) := by decide +kernel
theorem dX9_known_0 : decode cX9_known 0 = .ok (.iload_n 1, 1) := by decide +kernel
theorem dX9_known_1 : decode cX9_known 1 = .ok (.invokestatic 108, 3) := by decide +kernel
theorem dX9_known_4 : decode cX9_known 4 = .ok (.ifCond .eq 30, 3) := by decide +kernel
theorem dX9_known_7 : decode cX9_known 7 = .ok (.iload_n 2, 1) := by decide +kernel
theorem dX9_known_8 : decode cX9_known 8 = .ok (.invokestatic 97, 3) := by decide +kernel
theorem dX9_known_11 : decode cX9_known 11 = .ok (.ifCond .eq 23, 3) := by decide +kernel
theorem dX9_known_14 : decode cX9_known 14 = .ok (.iload_n 3, 1) := by decide +kernel
theorem dX9_known_15 : decode cX9_known 15 = .ok (.invokestatic 97, 3) := by decide +kernel
theorem dX9_known_18 : decode cX9_known 18 = .ok (.ifCond .eq 16, 3) := by decide +kernel
theorem dX9_known_21 : decode cX9_known 21 = .ok (.aload_n 0, 1) := by decide +kernel
theorem dX9_known_22 : decode cX9_known 22 = .ok (.iload_n 1, 1) := by decide +kernel
theorem dX9_known_23 : decode cX9_known 23 = .ok (.iload_n 2, 1) := by decide +kernel
theorem dX9_known_24 : decode cX9_known 24 = .ok (.iload_n 3, 1) := by decide +kernel
theorem dX9_known_25 : decode cX9_known 25 = .ok (.invokevirtual 113, 3) := by decide +kernel
theorem dX9_known_28 : decode cX9_known 28 = .ok (.invokestatic 117, 3) := by decide +kernel
theorem dX9_known_31 : decode cX9_known 31 = .ok (.goto 4, 3) := by decide +kernel
theorem dX9_known_34 : decode cX9_known 34 = .ok (.iconst (-1), 1) := by decide +kernel
theorem dX9_known_35 : decode cX9_known 35 = .ok (.ireturn, 1) := by decide +kernel
theorem dX9_mark_0 : decode cX9_mark 0 = .ok (.iload_n 1, 1) := by decide +kernel
theorem dX9_mark_1 : decode cX9_mark 1 = .ok (.i2l, 1) := by decide +kernel
theorem dX9_mark_2 : decode cX9_mark 2 = .ok (.lconst 0, 1) := by decide +kernel
theorem dX9_mark_3 : decode cX9_mark 3 = .ok (.lconst 1, 1) := by decide +kernel
theorem dX9_mark_4 : decode cX9_mark 4 = .ok (.invokestatic 91, 3) := by decide +kernel
theorem dX9_mark_7 : decode cX9_mark 7 = .ok (.ifCond .eq 10, 3) := by decide +kernel
theorem dX9_mark_10 : decode cX9_mark 10 = .ok (.iload_n 2, 1) := by decide +kernel
theorem dX9_mark_11 : decode cX9_mark 11 = .ok (.invokestatic 97, 3) := by decide +kernel
theorem dX9_mark_14 : decode cX9_mark 14 = .ok (.ifCond .ne 5, 3) := by decide +kernel
theorem dX9_mark_17 : decode cX9_mark 17 = .ok (.iconst (-1), 1) := by decide +kernel
theorem dX9_mark_18 : decode cX9_mark 18 = .ok (.ireturn, 1) := by decide +kernel
theorem dX9_mark_19 : decode cX9_mark 19 = .ok (.iload_n 1, 1) := by decide +kernel
theorem dX9_mark_20 : decode cX9_mark 20 = .ok (.ifCond .ne 12, 3) := by decide +kernel
theorem dX9_mark_23 : decode cX9_mark 23 = .ok (.aload_n 0, 1) := by decide +kernel
theorem dX9_mark_24 : decode cX9_mark 24 = .ok (.getfield 13, 3) := by decide +kernel
theorem dX9_mark_27 : decode cX9_mark 27 = .ok (.iload_n 2, 1) := by decide +kernel
theorem dX9_mark_28 : decode cX9_mark 28 = .ok (.baload, 1) := by decide +kernel
theorem dX9_mark_29 : decode cX9_mark 29 = .ok (.goto 9, 3) := by decide +kernel
theorem dX9_mark_32 : decode cX9_mark 32 = .ok (.aload_n 0, 1) := by decide +kernel
theorem dX9_mark_33 : decode cX9_mark 33 = .ok (.getfield 17, 3) := by decide +kernel
theorem dX9_mark_36 : decode cX9_mark 36 = .ok (.iload_n 2, 1) := by decide +kernel
theorem dX9_mark_37 : decode cX9_mark 37 = .ok (.baload, 1) := by decide +kernel
theorem dX9_mark_38 : decode cX9_mark 38 = .ok (.istore 4, 2) := by decide +kernel
theorem dX9_mark_40 : decode cX9_mark 40 = .ok (.iload_n 1, 1) := by decide +kernel
theorem dX9_mark_41 : decode cX9_mark 41 = .ok (.ifCond .ne 13, 3) := by decide +kernel
theorem dX9_mark_44 : decode cX9_mark 44 = .ok (.aload_n 0, 1) := by decide +kernel
theorem dX9_mark_45 : decode cX9_mark 45 = .ok (.getfield 13, 3) := by decide +kernel
theorem dX9_mark_48 : decode cX9_mark 48 = .ok (.iload_n 2, 1) := by decide +kernel
theorem dX9_mark_49 : decode cX9_mark 49 = .ok (.iload_n 3, 1) := by decide +kernel
theorem dX9_mark_50 : decode cX9_mark 50 = .ok (.bastore, 1) := by decide +kernel
theorem dX9_mark_51 : decode cX9_mark 51 = .ok (.goto 10, 3) := by decide +kernel
theorem dX9_mark_54 : decode cX9_mark 54 = .ok (.aload_n 0, 1) := by decide +kernel
theorem dX9_mark_55 : decode cX9_mark 55 = .ok (.getfield 17, 3) := by decide +kernel
theorem dX9_mark_58 : decode cX9_mark 58 = .ok (.iload_n 2, 1) := by decide +kernel
theorem dX9_mark_59 : decode cX9_mark 59 = .ok (.iload_n 3, 1) := by decide +kernel
theorem dX9_mark_60 : decode cX9_mark 60 = .ok (.bastore, 1) := by decide +kernel
theorem dX9_mark_61 : decode cX9_mark 61 = .ok (.iload 4, 2) := by decide +kernel
theorem dX9_mark_63 : decode cX9_mark 63 = .ok (.ifCond .eq 7, 3) := by decide +kernel
theorem dX9_mark_66 : decode cX9_mark 66 = .ok (.iconst 1, 1) := by decide +kernel
theorem dX9_mark_67 : decode cX9_mark 67 = .ok (.goto 4, 3) := by decide +kernel
theorem dX9_mark_70 : decode cX9_mark 70 = .ok (.iconst 0, 1) := by decide +kernel
theorem dX9_mark_71 : decode cX9_mark 71 = .ok (.ireturn, 1) := by decide +kernel
theorem dX9_feed_0 : decode cX9_feed 0 = .ok (.aload_n 0, 1) := by decide +kernel
theorem dX9_feed_1 : decode cX9_feed 1 = .ok (.getfield 125, 3) := by decide +kernel
theorem dX9_feed_4 : decode cX9_feed 4 = .ok (.bipush 8, 2) := by decide +kernel
theorem dX9_feed_6 : decode cX9_feed 6 = .ok (.iadd, 1) := by decide +kernel
theorem dX9_feed_7 : decode cX9_feed 7 = .ok (.bipush 120, 2) := by decide +kernel
theorem dX9_feed_9 : decode cX9_feed 9 = .ok (.if_icmp .le 6, 3) := by decide +kernel
theorem dX9_feed_12 : decode cX9_feed 12 = .ok (.bipush (-3), 2) := by decide +kernel
theorem dX9_feed_14 : decode cX9_feed 14 = .ok (.ireturn, 1) := by decide +kernel
theorem dX9_feed_15 : decode cX9_feed 15 = .ok (.bipush 56, 2) := by decide +kernel
theorem dX9_feed_17 : decode cX9_feed 17 = .ok (.istore_n 3, 1) := by decide +kernel
theorem dX9_feed_18 : decode cX9_feed 18 = .ok (.iload_n 3, 1) := by decide +kernel
theorem dX9_feed_19 : decode cX9_feed 19 = .ok (.ifCond .lt 36, 3) := by decide +kernel
theorem dX9_feed_22 : decode cX9_feed 22 = .ok (.aload_n 0, 1) := by decide +kernel
theorem dX9_feed_23 : decode cX9_feed 23 = .ok (.getfield 20, 3) := by decide +kernel
theorem dX9_feed_26 : decode cX9_feed 26 = .ok (.aload_n 0, 1) := by decide +kernel
theorem dX9_feed_27 : decode cX9_feed 27 = .ok (.getfield 125, 3) := by decide +kernel
theorem dX9_feed_30 : decode cX9_feed 30 = .ok (.lload_n 1, 1) := by decide +kernel
theorem dX9_feed_31 : decode cX9_feed 31 = .ok (.iload_n 3, 1) := by decide +kernel
theorem dX9_feed_32 : decode cX9_feed 32 = .ok (.lshr, 1) := by decide +kernel
theorem dX9_feed_33 : decode cX9_feed 33 = .ok (.l2i, 1) := by decide +kernel
theorem dX9_feed_34 : decode cX9_feed 34 = .ok (.sipush 255, 3) := by decide +kernel
theorem dX9_feed_37 : decode cX9_feed 37 = .ok (.iand, 1) := by decide +kernel
theorem dX9_feed_38 : decode cX9_feed 38 = .ok (.iastore, 1) := by decide +kernel
theorem dX9_feed_39 : decode cX9_feed 39 = .ok (.aload_n 0, 1) := by decide +kernel
theorem dX9_feed_40 : decode cX9_feed 40 = .ok (.dup, 1) := by decide +kernel
theorem dX9_feed_41 : decode cX9_feed 41 = .ok (.getfield 125, 3) := by decide +kernel
theorem dX9_feed_44 : decode cX9_feed 44 = .ok (.iconst 1, 1) := by decide +kernel
theorem dX9_feed_45 : decode cX9_feed 45 = .ok (.iadd, 1) := by decide +kernel
theorem dX9_feed_46 : decode cX9_feed 46 = .ok (.putfield 125, 3) := by decide +kernel
theorem dX9_feed_49 : decode cX9_feed 49 = .ok (.iinc 3 (-8), 3) := by decide +kernel
theorem dX9_feed_52 : decode cX9_feed 52 = .ok (.goto (-34), 3) := by decide +kernel
theorem dX9_feed_55 : decode cX9_feed 55 = .ok (.aload_n 0, 1) := by decide +kernel
theorem dX9_feed_56 : decode cX9_feed 56 = .ok (.getfield 125, 3) := by decide +kernel
theorem dX9_feed_59 : decode cX9_feed 59 = .ok (.ireturn, 1) := by decide +kernel
theorem dX9_end_0 : decode cX9_end 0 = .ok (.iload_n 1, 1) := by decide +kernel
theorem dX9_end_1 : decode cX9_end 1 = .ok (.i2l, 1) := by decide +kernel
theorem dX9_end_2 : decode cX9_end 2 = .ok (.lconst 0, 1) := by decide +kernel
theorem dX9_end_3 : decode cX9_end 3 = .ok (.aload_n 0, 1) := by decide +kernel
theorem dX9_end_4 : decode cX9_end 4 = .ok (.getfield 125, 3) := by decide +kernel
theorem dX9_end_7 : decode cX9_end 7 = .ok (.i2l, 1) := by decide +kernel
theorem dX9_end_8 : decode cX9_end 8 = .ok (.invokestatic 91, 3) := by decide +kernel
theorem dX9_end_11 : decode cX9_end 11 = .ok (.ifCond .ne 5, 3) := by decide +kernel
theorem dX9_end_14 : decode cX9_end 14 = .ok (.iconst (-1), 1) := by decide +kernel
theorem dX9_end_15 : decode cX9_end 15 = .ok (.ireturn, 1) := by decide +kernel
theorem dX9_end_16 : decode cX9_end 16 = .ok (.aload_n 0, 1) := by decide +kernel
theorem dX9_end_17 : decode cX9_end 17 = .ok (.getfield 125, 3) := by decide +kernel
theorem dX9_end_20 : decode cX9_end 20 = .ok (.istore_n 2, 1) := by decide +kernel
theorem dX9_end_21 : decode cX9_end 21 = .ok (.aload_n 0, 1) := by decide +kernel
theorem dX9_end_22 : decode cX9_end 22 = .ok (.iload_n 1, 1) := by decide +kernel
theorem dX9_end_23 : decode cX9_end 23 = .ok (.putfield 125, 3) := by decide +kernel
theorem dX9_end_26 : decode cX9_end 26 = .ok (.iload_n 2, 1) := by decide +kernel
theorem dX9_end_27 : decode cX9_end 27 = .ok (.ireturn, 1) := by decide +kernel
theorem dX9_byteAt_0 : decode cX9_byteAt 0 = .ok (.iload_n 1, 1) := by decide +kernel
theorem dX9_byteAt_1 : decode cX9_byteAt 1 = .ok (.aload_n 0, 1) := by decide +kernel
theorem dX9_byteAt_2 : decode cX9_byteAt 2 = .ok (.getfield 125, 3) := by decide +kernel
theorem dX9_byteAt_5 : decode cX9_byteAt 5 = .ok (.if_icmp .ge 12, 3) := by decide +kernel
theorem dX9_byteAt_8 : decode cX9_byteAt 8 = .ok (.aload_n 0, 1) := by decide +kernel
theorem dX9_byteAt_9 : decode cX9_byteAt 9 = .ok (.getfield 20, 3) := by decide +kernel
theorem dX9_byteAt_12 : decode cX9_byteAt 12 = .ok (.iload_n 1, 1) := by decide +kernel
theorem dX9_byteAt_13 : decode cX9_byteAt 13 = .ok (.iaload, 1) := by decide +kernel
theorem dX9_byteAt_14 : decode cX9_byteAt 14 = .ok (.goto 5, 3) := by decide +kernel
theorem dX9_byteAt_17 : decode cX9_byteAt 17 = .ok (.bipush (-4), 2) := by decide +kernel
theorem dX9_byteAt_19 : decode cX9_byteAt 19 = .ok (.ireturn, 1) := by decide +kernel
theorem dX9_fails_0 : decode cX9_fails 0 = .ok (.aload_n 0, 1) := by decide +kernel
theorem dX9_fails_1 : decode cX9_fails 1 = .ok (.getfield 128, 3) := by decide +kernel
theorem dX9_fails_4 : decode cX9_fails 4 = .ok (.ifCond .ne 16, 3) := by decide +kernel
theorem dX9_fails_7 : decode cX9_fails 7 = .ok (.aload_n 0, 1) := by decide +kernel
theorem dX9_fails_8 : decode cX9_fails 8 = .ok (.iload_n 1, 1) := by decide +kernel
theorem dX9_fails_9 : decode cX9_fails 9 = .ok (.putfield 128, 3) := by decide +kernel
theorem dX9_fails_12 : decode cX9_fails 12 = .ok (.aload_n 0, 1) := by decide +kernel
theorem dX9_fails_13 : decode cX9_fails 13 = .ok (.aload_n 0, 1) := by decide +kernel
theorem dX9_fails_14 : decode cX9_fails 14 = .ok (.getfield 131, 3) := by decide +kernel
theorem dX9_fails_17 : decode cX9_fails 17 = .ok (.putfield 134, 3) := by decide +kernel
theorem dX9_fails_20 : decode cX9_fails 20 = .ok (.return_, 1) := by decide +kernel
theorem dX9_next_0 : decode cX9_next 0 = .ok (.aload_n 0, 1) := by decide +kernel
theorem dX9_next_1 : decode cX9_next 1 = .ok (.getfield 128, 3) := by decide +kernel
theorem dX9_next_4 : decode cX9_next 4 = .ok (.ifCond .le 4, 3) := by decide +kernel
theorem dX9_next_7 : decode cX9_next 7 = .ok (.return_, 1) := by decide +kernel
theorem dX9_next_8 : decode cX9_next 8 = .ok (.aload_n 0, 1) := by decide +kernel
theorem dX9_next_9 : decode cX9_next 9 = .ok (.aload_n 0, 1) := by decide +kernel
theorem dX9_next_10 : decode cX9_next 10 = .ok (.getfield 137, 3) := by decide +kernel
theorem dX9_next_13 : decode cX9_next 13 = .ok (.invokevirtual 140, 3) := by decide +kernel
theorem dX9_next_16 : decode cX9_next 16 = .ok (.bipush 32, 2) := by decide +kernel
theorem dX9_next_18 : decode cX9_next 18 = .ok (.if_icmp .ne 16, 3) := by decide +kernel
theorem dX9_next_21 : decode cX9_next 21 = .ok (.aload_n 0, 1) := by decide +kernel
theorem dX9_next_22 : decode cX9_next 22 = .ok (.dup, 1) := by decide +kernel
theorem dX9_next_23 : decode cX9_next 23 = .ok (.getfield 137, 3) := by decide +kernel
theorem dX9_next_26 : decode cX9_next 26 = .ok (.iconst 1, 1) := by decide +kernel
theorem dX9_next_27 : decode cX9_next 27 = .ok (.iadd, 1) := by decide +kernel
theorem dX9_next_28 : decode cX9_next 28 = .ok (.putfield 137, 3) := by decide +kernel
theorem dX9_next_31 : decode cX9_next 31 = .ok (.goto (-23), 3) := by decide +kernel
theorem dX9_next_34 : decode cX9_next 34 = .ok (.aload_n 0, 1) := by decide +kernel
theorem dX9_next_35 : decode cX9_next 35 = .ok (.aload_n 0, 1) := by decide +kernel
theorem dX9_next_36 : decode cX9_next 36 = .ok (.getfield 137, 3) := by decide +kernel
theorem dX9_next_39 : decode cX9_next 39 = .ok (.putfield 131, 3) := by decide +kernel
theorem dX9_next_42 : decode cX9_next 42 = .ok (.aload_n 0, 1) := by decide +kernel
theorem dX9_next_43 : decode cX9_next 43 = .ok (.aload_n 0, 1) := by decide +kernel
theorem dX9_next_44 : decode cX9_next 44 = .ok (.getfield 137, 3) := by decide +kernel
theorem dX9_next_47 : decode cX9_next 47 = .ok (.invokevirtual 140, 3) := by decide +kernel
theorem dX9_next_50 : decode cX9_next 50 = .ok (.istore_n 1, 1) := by decide +kernel
theorem dX9_next_51 : decode cX9_next 51 = .ok (.aload_n 0, 1) := by decide +kernel
theorem dX9_next_52 : decode cX9_next 52 = .ok (.iconst 0, 1) := by decide +kernel
theorem dX9_next_53 : decode cX9_next 53 = .ok (.putfield 143, 3) := by decide +kernel
theorem dX9_next_56 : decode cX9_next 56 = .ok (.iload_n 1, 1) := by decide +kernel
theorem dX9_next_57 : decode cX9_next 57 = .ok (.bipush (-4), 2) := by decide +kernel
theorem dX9_next_59 : decode cX9_next 59 = .ok (.if_icmp .ne 11, 3) := by decide +kernel
theorem dX9_next_62 : decode cX9_next 62 = .ok (.aload_n 0, 1) := by decide +kernel
theorem dX9_next_63 : decode cX9_next 63 = .ok (.iconst 0, 1) := by decide +kernel
theorem dX9_next_64 : decode cX9_next 64 = .ok (.putfield 146, 3) := by decide +kernel
theorem dX9_next_67 : decode cX9_next 67 = .ok (.goto 202, 3) := by decide +kernel
theorem dX9_next_70 : decode cX9_next 70 = .ok (.iload_n 1, 1) := by decide +kernel
theorem dX9_next_71 : decode cX9_next 71 = .ok (.i2l, 1) := by decide +kernel
theorem dX9_next_72 : decode cX9_next 72 = .ok (.ldc2_w 149, 3) := by decide +kernel
theorem dX9_next_75 : decode cX9_next 75 = .ok (.ldc2_w 151, 3) := by decide +kernel
theorem dX9_next_78 : decode cX9_next 78 = .ok (.invokestatic 91, 3) := by decide +kernel
theorem dX9_next_81 : decode cX9_next 81 = .ok (.ifCond .eq 45, 3) := by decide +kernel
theorem dX9_next_84 : decode cX9_next 84 = .ok (.aload_n 0, 1) := by decide +kernel
theorem dX9_next_85 : decode cX9_next 85 = .ok (.aload_n 0, 1) := by decide +kernel
theorem dX9_next_86 : decode cX9_next 86 = .ok (.getfield 137, 3) := by decide +kernel
theorem dX9_next_89 : decode cX9_next 89 = .ok (.invokevirtual 140, 3) := by decide +kernel
theorem dX9_next_92 : decode cX9_next 92 = .ok (.i2l, 1) := by decide +kernel
theorem dX9_next_93 : decode cX9_next 93 = .ok (.ldc2_w 149, 3) := by decide +kernel
theorem dX9_next_96 : decode cX9_next 96 = .ok (.ldc2_w 151, 3) := by decide +kernel
theorem dX9_next_99 : decode cX9_next 99 = .ok (.invokestatic 91, 3) := by decide +kernel
theorem dX9_next_102 : decode cX9_next 102 = .ok (.ifCond .eq 16, 3) := by decide +kernel
theorem dX9_next_105 : decode cX9_next 105 = .ok (.aload_n 0, 1) := by decide +kernel
theorem dX9_next_106 : decode cX9_next 106 = .ok (.dup, 1) := by decide +kernel
theorem dX9_next_107 : decode cX9_next 107 = .ok (.getfield 137, 3) := by decide +kernel
theorem dX9_next_110 : decode cX9_next 110 = .ok (.iconst 1, 1) := by decide +kernel
theorem dX9_next_111 : decode cX9_next 111 = .ok (.iadd, 1) := by decide +kernel
theorem dX9_next_112 : decode cX9_next 112 = .ok (.putfield 137, 3) := by decide +kernel
theorem dX9_next_115 : decode cX9_next 115 = .ok (.goto (-31), 3) := by decide +kernel
theorem dX9_next_118 : decode cX9_next 118 = .ok (.aload_n 0, 1) := by decide +kernel
theorem dX9_next_119 : decode cX9_next 119 = .ok (.iconst 1, 1) := by decide +kernel
theorem dX9_next_120 : decode cX9_next 120 = .ok (.putfield 146, 3) := by decide +kernel
theorem dX9_next_123 : decode cX9_next 123 = .ok (.goto 146, 3) := by decide +kernel
theorem dX9_next_126 : decode cX9_next 126 = .ok (.iload_n 1, 1) := by decide +kernel
theorem dX9_next_127 : decode cX9_next 127 = .ok (.i2l, 1) := by decide +kernel
theorem dX9_next_128 : decode cX9_next 128 = .ok (.ldc2_w 153, 3) := by decide +kernel
theorem dX9_next_131 : decode cX9_next 131 = .ok (.ldc2_w 155, 3) := by decide +kernel
theorem dX9_next_134 : decode cX9_next 134 = .ok (.invokestatic 91, 3) := by decide +kernel
theorem dX9_next_137 : decode cX9_next 137 = .ok (.ifCond .eq 106, 3) := by decide +kernel
theorem dX9_next_140 : decode cX9_next 140 = .ok (.aload_n 0, 1) := by decide +kernel
theorem dX9_next_141 : decode cX9_next 141 = .ok (.aload_n 0, 1) := by decide +kernel
theorem dX9_next_142 : decode cX9_next 142 = .ok (.getfield 137, 3) := by decide +kernel
theorem dX9_next_145 : decode cX9_next 145 = .ok (.invokevirtual 140, 3) := by decide +kernel
theorem dX9_next_148 : decode cX9_next 148 = .ok (.i2l, 1) := by decide +kernel
theorem dX9_next_149 : decode cX9_next 149 = .ok (.ldc2_w 153, 3) := by decide +kernel
theorem dX9_next_152 : decode cX9_next 152 = .ok (.ldc2_w 155, 3) := by decide +kernel
theorem dX9_next_155 : decode cX9_next 155 = .ok (.invokestatic 91, 3) := by decide +kernel
theorem dX9_next_158 : decode cX9_next 158 = .ok (.ifCond .eq 59, 3) := by decide +kernel
theorem dX9_next_161 : decode cX9_next 161 = .ok (.aload_n 0, 1) := by decide +kernel
theorem dX9_next_162 : decode cX9_next 162 = .ok (.aload_n 0, 1) := by decide +kernel
theorem dX9_next_163 : decode cX9_next 163 = .ok (.getfield 137, 3) := by decide +kernel
theorem dX9_next_166 : decode cX9_next 166 = .ok (.aload_n 0, 1) := by decide +kernel
theorem dX9_next_167 : decode cX9_next 167 = .ok (.getfield 131, 3) := by decide +kernel
theorem dX9_next_170 : decode cX9_next 170 = .ok (.isub, 1) := by decide +kernel
theorem dX9_next_171 : decode cX9_next 171 = .ok (.iconst 2, 1) := by decide +kernel
theorem dX9_next_172 : decode cX9_next 172 = .ok (.if_icmp .ge 25, 3) := by decide +kernel
theorem dX9_next_175 : decode cX9_next 175 = .ok (.bipush 10, 2) := by decide +kernel
theorem dX9_next_177 : decode cX9_next 177 = .ok (.aload_n 0, 1) := by decide +kernel
theorem dX9_next_178 : decode cX9_next 178 = .ok (.getfield 143, 3) := by decide +kernel
theorem dX9_next_181 : decode cX9_next 181 = .ok (.imul, 1) := by decide +kernel
theorem dX9_next_182 : decode cX9_next 182 = .ok (.aload_n 0, 1) := by decide +kernel
theorem dX9_next_183 : decode cX9_next 183 = .ok (.aload_n 0, 1) := by decide +kernel
theorem dX9_next_184 : decode cX9_next 184 = .ok (.getfield 137, 3) := by decide +kernel
theorem dX9_next_187 : decode cX9_next 187 = .ok (.invokevirtual 140, 3) := by decide +kernel
theorem dX9_next_190 : decode cX9_next 190 = .ok (.iadd, 1) := by decide +kernel
theorem dX9_next_191 : decode cX9_next 191 = .ok (.bipush 48, 2) := by decide +kernel
theorem dX9_next_193 : decode cX9_next 193 = .ok (.isub, 1) := by decide +kernel
theorem dX9_next_194 : decode cX9_next 194 = .ok (.goto 7, 3) := by decide +kernel
theorem dX9_next_197 : decode cX9_next 197 = .ok (.aload_n 0, 1) := by decide +kernel
theorem dX9_next_198 : decode cX9_next 198 = .ok (.getfield 143, 3) := by decide +kernel
theorem dX9_next_201 : decode cX9_next 201 = .ok (.putfield 143, 3) := by decide +kernel
theorem dX9_next_204 : decode cX9_next 204 = .ok (.aload_n 0, 1) := by decide +kernel
theorem dX9_next_205 : decode cX9_next 205 = .ok (.dup, 1) := by decide +kernel
theorem dX9_next_206 : decode cX9_next 206 = .ok (.getfield 137, 3) := by decide +kernel
theorem dX9_next_209 : decode cX9_next 209 = .ok (.iconst 1, 1) := by decide +kernel
theorem dX9_next_210 : decode cX9_next 210 = .ok (.iadd, 1) := by decide +kernel
theorem dX9_next_211 : decode cX9_next 211 = .ok (.putfield 137, 3) := by decide +kernel
theorem dX9_next_214 : decode cX9_next 214 = .ok (.goto (-74), 3) := by decide +kernel
theorem dX9_next_217 : decode cX9_next 217 = .ok (.aload_n 0, 1) := by decide +kernel
theorem dX9_next_218 : decode cX9_next 218 = .ok (.iconst 2, 1) := by decide +kernel
theorem dX9_next_219 : decode cX9_next 219 = .ok (.putfield 146, 3) := by decide +kernel
theorem dX9_next_222 : decode cX9_next 222 = .ok (.aload_n 0, 1) := by decide +kernel
theorem dX9_next_223 : decode cX9_next 223 = .ok (.getfield 137, 3) := by decide +kernel
theorem dX9_next_226 : decode cX9_next 226 = .ok (.aload_n 0, 1) := by decide +kernel
theorem dX9_next_227 : decode cX9_next 227 = .ok (.getfield 131, 3) := by decide +kernel
theorem dX9_next_230 : decode cX9_next 230 = .ok (.isub, 1) := by decide +kernel
theorem dX9_next_231 : decode cX9_next 231 = .ok (.iconst 2, 1) := by decide +kernel
theorem dX9_next_232 : decode cX9_next 232 = .ok (.if_icmp .le 37, 3) := by decide +kernel
theorem dX9_next_235 : decode cX9_next 235 = .ok (.aload_n 0, 1) := by decide +kernel
theorem dX9_next_236 : decode cX9_next 236 = .ok (.iconst 1, 1) := by decide +kernel
theorem dX9_next_237 : decode cX9_next 237 = .ok (.invokevirtual 157, 3) := by decide +kernel
theorem dX9_next_240 : decode cX9_next 240 = .ok (.goto 29, 3) := by decide +kernel
theorem dX9_next_243 : decode cX9_next 243 = .ok (.aload_n 0, 1) := by decide +kernel
theorem dX9_next_244 : decode cX9_next 244 = .ok (.iconst 3, 1) := by decide +kernel
theorem dX9_next_245 : decode cX9_next 245 = .ok (.putfield 146, 3) := by decide +kernel
theorem dX9_next_248 : decode cX9_next 248 = .ok (.aload_n 0, 1) := by decide +kernel
theorem dX9_next_249 : decode cX9_next 249 = .ok (.dup, 1) := by decide +kernel
theorem dX9_next_250 : decode cX9_next 250 = .ok (.getfield 137, 3) := by decide +kernel
theorem dX9_next_253 : decode cX9_next 253 = .ok (.iconst 1, 1) := by decide +kernel
theorem dX9_next_254 : decode cX9_next 254 = .ok (.iadd, 1) := by decide +kernel
theorem dX9_next_255 : decode cX9_next 255 = .ok (.putfield 137, 3) := by decide +kernel
theorem dX9_next_258 : decode cX9_next 258 = .ok (.iload_n 1, 1) := by decide +kernel
theorem dX9_next_259 : decode cX9_next 259 = .ok (.bipush 59, 2) := by decide +kernel
theorem dX9_next_261 : decode cX9_next 261 = .ok (.if_icmp .eq 8, 3) := by decide +kernel
theorem dX9_next_264 : decode cX9_next 264 = .ok (.aload_n 0, 1) := by decide +kernel
theorem dX9_next_265 : decode cX9_next 265 = .ok (.iconst 1, 1) := by decide +kernel
theorem dX9_next_266 : decode cX9_next 266 = .ok (.invokevirtual 157, 3) := by decide +kernel
theorem dX9_next_269 : decode cX9_next 269 = .ok (.return_, 1) := by decide +kernel
theorem dX9_nameHere_0 : decode cX9_nameHere 0 = .ok (.iconst 0, 1) := by decide +kernel
theorem dX9_nameHere_1 : decode cX9_nameHere 1 = .ok (.istore_n 1, 1) := by decide +kernel
theorem dX9_nameHere_2 : decode cX9_nameHere 2 = .ok (.iload_n 1, 1) := by decide +kernel
theorem dX9_nameHere_3 : decode cX9_nameHere 3 = .ok (.iconst 5, 1) := by decide +kernel
theorem dX9_nameHere_4 : decode cX9_nameHere 4 = .ok (.if_icmp .ge 113, 3) := by decide +kernel
theorem dX9_nameHere_7 : decode cX9_nameHere 7 = .ok (.aload_n 0, 1) := by decide +kernel
theorem dX9_nameHere_8 : decode cX9_nameHere 8 = .ok (.getfield 146, 3) := by decide +kernel
theorem dX9_nameHere_11 : decode cX9_nameHere 11 = .ok (.iconst 1, 1) := by decide +kernel
theorem dX9_nameHere_12 : decode cX9_nameHere 12 = .ok (.if_icmp .ne 34, 3) := by decide +kernel
theorem dX9_nameHere_15 : decode cX9_nameHere 15 = .ok (.aload_n 0, 1) := by decide +kernel
theorem dX9_nameHere_16 : decode cX9_nameHere 16 = .ok (.getfield 137, 3) := by decide +kernel
theorem dX9_nameHere_19 : decode cX9_nameHere 19 = .ok (.aload_n 0, 1) := by decide +kernel
theorem dX9_nameHere_20 : decode cX9_nameHere 20 = .ok (.getfield 131, 3) := by decide +kernel
theorem dX9_nameHere_23 : decode cX9_nameHere 23 = .ok (.isub, 1) := by decide +kernel
theorem dX9_nameHere_24 : decode cX9_nameHere 24 = .ok (.aload_n 0, 1) := by decide +kernel
theorem dX9_nameHere_25 : decode cX9_nameHere 25 = .ok (.getfield 23, 3) := by decide +kernel
theorem dX9_nameHere_28 : decode cX9_nameHere 28 = .ok (.iload_n 1, 1) := by decide +kernel
theorem dX9_nameHere_29 : decode cX9_nameHere 29 = .ok (.iconst 1, 1) := by decide +kernel
theorem dX9_nameHere_30 : decode cX9_nameHere 30 = .ok (.iadd, 1) := by decide +kernel
theorem dX9_nameHere_31 : decode cX9_nameHere 31 = .ok (.iaload, 1) := by decide +kernel
theorem dX9_nameHere_32 : decode cX9_nameHere 32 = .ok (.aload_n 0, 1) := by decide +kernel
theorem dX9_nameHere_33 : decode cX9_nameHere 33 = .ok (.getfield 23, 3) := by decide +kernel
theorem dX9_nameHere_36 : decode cX9_nameHere 36 = .ok (.iload_n 1, 1) := by decide +kernel
theorem dX9_nameHere_37 : decode cX9_nameHere 37 = .ok (.iaload, 1) := by decide +kernel
theorem dX9_nameHere_38 : decode cX9_nameHere 38 = .ok (.isub, 1) := by decide +kernel
theorem dX9_nameHere_39 : decode cX9_nameHere 39 = .ok (.if_icmp .ne 7, 3) := by decide +kernel
theorem dX9_nameHere_42 : decode cX9_nameHere 42 = .ok (.iconst 1, 1) := by decide +kernel
theorem dX9_nameHere_43 : decode cX9_nameHere 43 = .ok (.goto 4, 3) := by decide +kernel
theorem dX9_nameHere_46 : decode cX9_nameHere 46 = .ok (.iconst 0, 1) := by decide +kernel
theorem dX9_nameHere_47 : decode cX9_nameHere 47 = .ok (.istore_n 2, 1) := by decide +kernel
theorem dX9_nameHere_48 : decode cX9_nameHere 48 = .ok (.iconst 0, 1) := by decide +kernel
theorem dX9_nameHere_49 : decode cX9_nameHere 49 = .ok (.istore_n 3, 1) := by decide +kernel
theorem dX9_nameHere_50 : decode cX9_nameHere 50 = .ok (.iload_n 2, 1) := by decide +kernel
theorem dX9_nameHere_51 : decode cX9_nameHere 51 = .ok (.ifCond .eq 54, 3) := by decide +kernel
theorem dX9_nameHere_54 : decode cX9_nameHere 54 = .ok (.iload_n 3, 1) := by decide +kernel
theorem dX9_nameHere_55 : decode cX9_nameHere 55 = .ok (.aload_n 0, 1) := by decide +kernel
theorem dX9_nameHere_56 : decode cX9_nameHere 56 = .ok (.getfield 137, 3) := by decide +kernel
theorem dX9_nameHere_59 : decode cX9_nameHere 59 = .ok (.aload_n 0, 1) := by decide +kernel
theorem dX9_nameHere_60 : decode cX9_nameHere 60 = .ok (.getfield 131, 3) := by decide +kernel
theorem dX9_nameHere_63 : decode cX9_nameHere 63 = .ok (.isub, 1) := by decide +kernel
theorem dX9_nameHere_64 : decode cX9_nameHere 64 = .ok (.if_icmp .ge 41, 3) := by decide +kernel
theorem dX9_nameHere_67 : decode cX9_nameHere 67 = .ok (.aload_n 0, 1) := by decide +kernel
theorem dX9_nameHere_68 : decode cX9_nameHere 68 = .ok (.aload_n 0, 1) := by decide +kernel
theorem dX9_nameHere_69 : decode cX9_nameHere 69 = .ok (.getfield 131, 3) := by decide +kernel
theorem dX9_nameHere_72 : decode cX9_nameHere 72 = .ok (.iload_n 3, 1) := by decide +kernel
theorem dX9_nameHere_73 : decode cX9_nameHere 73 = .ok (.iadd, 1) := by decide +kernel
theorem dX9_nameHere_74 : decode cX9_nameHere 74 = .ok (.invokevirtual 140, 3) := by decide +kernel
theorem dX9_nameHere_77 : decode cX9_nameHere 77 = .ok (.aload_n 0, 1) := by decide +kernel
theorem dX9_nameHere_78 : decode cX9_nameHere 78 = .ok (.getfield 26, 3) := by decide +kernel
theorem dX9_nameHere_81 : decode cX9_nameHere 81 = .ok (.aload_n 0, 1) := by decide +kernel
theorem dX9_nameHere_82 : decode cX9_nameHere 82 = .ok (.getfield 23, 3) := by decide +kernel
theorem dX9_nameHere_85 : decode cX9_nameHere 85 = .ok (.iload_n 1, 1) := by decide +kernel
theorem dX9_nameHere_86 : decode cX9_nameHere 86 = .ok (.iaload, 1) := by decide +kernel
theorem dX9_nameHere_87 : decode cX9_nameHere 87 = .ok (.iload_n 3, 1) := by decide +kernel
theorem dX9_nameHere_88 : decode cX9_nameHere 88 = .ok (.iadd, 1) := by decide +kernel
theorem dX9_nameHere_89 : decode cX9_nameHere 89 = .ok (.iaload, 1) := by decide +kernel
theorem dX9_nameHere_90 : decode cX9_nameHere 90 = .ok (.if_icmp .ne 7, 3) := by decide +kernel
theorem dX9_nameHere_93 : decode cX9_nameHere 93 = .ok (.iconst 1, 1) := by decide +kernel
theorem dX9_nameHere_94 : decode cX9_nameHere 94 = .ok (.goto 4, 3) := by decide +kernel
theorem dX9_nameHere_97 : decode cX9_nameHere 97 = .ok (.iconst 0, 1) := by decide +kernel
theorem dX9_nameHere_98 : decode cX9_nameHere 98 = .ok (.istore_n 2, 1) := by decide +kernel
theorem dX9_nameHere_99 : decode cX9_nameHere 99 = .ok (.iinc 3 1, 3) := by decide +kernel
theorem dX9_nameHere_102 : decode cX9_nameHere 102 = .ok (.goto (-52), 3) := by decide +kernel
theorem dX9_nameHere_105 : decode cX9_nameHere 105 = .ok (.iload_n 2, 1) := by decide +kernel
theorem dX9_nameHere_106 : decode cX9_nameHere 106 = .ok (.ifCond .eq 5, 3) := by decide +kernel
theorem dX9_nameHere_109 : decode cX9_nameHere 109 = .ok (.iload_n 1, 1) := by decide +kernel
theorem dX9_nameHere_110 : decode cX9_nameHere 110 = .ok (.ireturn, 1) := by decide +kernel
theorem dX9_nameHere_111 : decode cX9_nameHere 111 = .ok (.iinc 1 1, 3) := by decide +kernel
theorem dX9_nameHere_114 : decode cX9_nameHere 114 = .ok (.goto (-112), 3) := by decide +kernel
theorem dX9_nameHere_117 : decode cX9_nameHere 117 = .ok (.bipush (-4), 2) := by decide +kernel
theorem dX9_nameHere_119 : decode cX9_nameHere 119 = .ok (.ireturn, 1) := by decide +kernel
theorem dX9_number_0 : decode cX9_number 0 = .ok (.aload_n 0, 1) := by decide +kernel
theorem dX9_number_1 : decode cX9_number 1 = .ok (.getfield 128, 3) := by decide +kernel
theorem dX9_number_4 : decode cX9_number 4 = .ok (.ifCond .ne 16, 3) := by decide +kernel
theorem dX9_number_7 : decode cX9_number 7 = .ok (.aload_n 0, 1) := by decide +kernel
theorem dX9_number_8 : decode cX9_number 8 = .ok (.getfield 146, 3) := by decide +kernel
theorem dX9_number_11 : decode cX9_number 11 = .ok (.iconst 2, 1) := by decide +kernel
theorem dX9_number_12 : decode cX9_number 12 = .ok (.if_icmp .eq 8, 3) := by decide +kernel
theorem dX9_number_15 : decode cX9_number 15 = .ok (.aload_n 0, 1) := by decide +kernel
theorem dX9_number_16 : decode cX9_number 16 = .ok (.iconst 2, 1) := by decide +kernel
theorem dX9_number_17 : decode cX9_number 17 = .ok (.invokevirtual 157, 3) := by decide +kernel
theorem dX9_number_20 : decode cX9_number 20 = .ok (.aload_n 0, 1) := by decide +kernel
theorem dX9_number_21 : decode cX9_number 21 = .ok (.getfield 128, 3) := by decide +kernel
theorem dX9_number_24 : decode cX9_number 24 = .ok (.ifCond .ne 23, 3) := by decide +kernel
theorem dX9_number_27 : decode cX9_number 27 = .ok (.aload_n 0, 1) := by decide +kernel
theorem dX9_number_28 : decode cX9_number 28 = .ok (.getfield 143, 3) := by decide +kernel
theorem dX9_number_31 : decode cX9_number 31 = .ok (.i2l, 1) := by decide +kernel
theorem dX9_number_32 : decode cX9_number 32 = .ok (.iload_n 1, 1) := by decide +kernel
theorem dX9_number_33 : decode cX9_number 33 = .ok (.i2l, 1) := by decide +kernel
theorem dX9_number_34 : decode cX9_number 34 = .ok (.iload_n 2, 1) := by decide +kernel
theorem dX9_number_35 : decode cX9_number 35 = .ok (.i2l, 1) := by decide +kernel
theorem dX9_number_36 : decode cX9_number 36 = .ok (.invokestatic 91, 3) := by decide +kernel
theorem dX9_number_39 : decode cX9_number 39 = .ok (.ifCond .ne 8, 3) := by decide +kernel
theorem dX9_number_42 : decode cX9_number 42 = .ok (.aload_n 0, 1) := by decide +kernel
theorem dX9_number_43 : decode cX9_number 43 = .ok (.iconst 3, 1) := by decide +kernel
theorem dX9_number_44 : decode cX9_number 44 = .ok (.invokevirtual 157, 3) := by decide +kernel
theorem dX9_number_47 : decode cX9_number 47 = .ok (.aload_n 0, 1) := by decide +kernel
theorem dX9_number_48 : decode cX9_number 48 = .ok (.getfield 143, 3) := by decide +kernel
theorem dX9_number_51 : decode cX9_number 51 = .ok (.istore_n 3, 1) := by decide +kernel
theorem dX9_number_52 : decode cX9_number 52 = .ok (.aload_n 0, 1) := by decide +kernel
theorem dX9_number_53 : decode cX9_number 53 = .ok (.invokevirtual 161, 3) := by decide +kernel
theorem dX9_number_56 : decode cX9_number 56 = .ok (.iload_n 3, 1) := by decide +kernel
theorem dX9_number_57 : decode cX9_number 57 = .ok (.ireturn, 1) := by decide +kernel
theorem dX9_readLine_0 : decode cX9_readLine 0 = .ok (.aload_n 0, 1) := by decide +kernel
theorem dX9_readLine_1 : decode cX9_readLine 1 = .ok (.invokevirtual 164, 3) := by decide +kernel
theorem dX9_readLine_4 : decode cX9_readLine 4 = .ok (.istore_n 1, 1) := by decide +kernel
theorem dX9_readLine_5 : decode cX9_readLine 5 = .ok (.iload_n 1, 1) := by decide +kernel
theorem dX9_readLine_6 : decode cX9_readLine 6 = .ok (.bipush (-4), 2) := by decide +kernel
theorem dX9_readLine_8 : decode cX9_readLine 8 = .ok (.if_icmp .ne 11, 3) := by decide +kernel
theorem dX9_readLine_11 : decode cX9_readLine 11 = .ok (.aload_n 0, 1) := by decide +kernel
theorem dX9_readLine_12 : decode cX9_readLine 12 = .ok (.iconst 2, 1) := by decide +kernel
theorem dX9_readLine_13 : decode cX9_readLine 13 = .ok (.invokevirtual 157, 3) := by decide +kernel
theorem dX9_readLine_16 : decode cX9_readLine 16 = .ok (.goto 37, 3) := by decide +kernel
theorem dX9_readLine_19 : decode cX9_readLine 19 = .ok (.aload_n 0, 1) := by decide +kernel
theorem dX9_readLine_20 : decode cX9_readLine 20 = .ok (.getfield 168, 3) := by decide +kernel
theorem dX9_readLine_23 : decode cX9_readLine 23 = .ok (.bipush 6, 2) := by decide +kernel
theorem dX9_readLine_25 : decode cX9_readLine 25 = .ok (.if_icmp .ne 11, 3) := by decide +kernel
theorem dX9_readLine_28 : decode cX9_readLine 28 = .ok (.aload_n 0, 1) := by decide +kernel
theorem dX9_readLine_29 : decode cX9_readLine 29 = .ok (.iconst 4, 1) := by decide +kernel
theorem dX9_readLine_30 : decode cX9_readLine 30 = .ok (.invokevirtual 157, 3) := by decide +kernel
theorem dX9_readLine_33 : decode cX9_readLine 33 = .ok (.goto 20, 3) := by decide +kernel
theorem dX9_readLine_36 : decode cX9_readLine 36 = .ok (.iload_n 1, 1) := by decide +kernel
theorem dX9_readLine_37 : decode cX9_readLine 37 = .ok (.iconst 4, 1) := by decide +kernel
theorem dX9_readLine_38 : decode cX9_readLine 38 = .ok (.if_icmp .ne 15, 3) := by decide +kernel
theorem dX9_readLine_41 : decode cX9_readLine 41 = .ok (.aload_n 0, 1) := by decide +kernel
theorem dX9_readLine_42 : decode cX9_readLine 42 = .ok (.getfield 168, 3) := by decide +kernel
theorem dX9_readLine_45 : decode cX9_readLine 45 = .ok (.ifCond .ne 8, 3) := by decide +kernel
theorem dX9_readLine_48 : decode cX9_readLine 48 = .ok (.aload_n 0, 1) := by decide +kernel
theorem dX9_readLine_49 : decode cX9_readLine 49 = .ok (.iconst 5, 1) := by decide +kernel
theorem dX9_readLine_50 : decode cX9_readLine 50 = .ok (.invokevirtual 157, 3) := by decide +kernel
theorem dX9_readLine_53 : decode cX9_readLine 53 = .ok (.aload_n 0, 1) := by decide +kernel
theorem dX9_readLine_54 : decode cX9_readLine 54 = .ok (.getfield 128, 3) := by decide +kernel
theorem dX9_readLine_57 : decode cX9_readLine 57 = .ok (.ifCond .le 4, 3) := by decide +kernel
theorem dX9_readLine_60 : decode cX9_readLine 60 = .ok (.return_, 1) := by decide +kernel
theorem dX9_readLine_61 : decode cX9_readLine 61 = .ok (.aload_n 0, 1) := by decide +kernel
theorem dX9_readLine_62 : decode cX9_readLine 62 = .ok (.invokevirtual 161, 3) := by decide +kernel
theorem dX9_readLine_65 : decode cX9_readLine 65 = .ok (.aload_n 0, 1) := by decide +kernel
theorem dX9_readLine_66 : decode cX9_readLine 66 = .ok (.iload_n 1, 1) := by decide +kernel
theorem dX9_readLine_67 : decode cX9_readLine 67 = .ok (.iconst 2, 1) := by decide +kernel
theorem dX9_readLine_68 : decode cX9_readLine 68 = .ok (.if_icmp .ne 7, 3) := by decide +kernel
theorem dX9_readLine_71 : decode cX9_readLine 71 = .ok (.iconst 0, 1) := by decide +kernel
theorem dX9_readLine_72 : decode cX9_readLine 72 = .ok (.goto 4, 3) := by decide +kernel
theorem dX9_readLine_75 : decode cX9_readLine 75 = .ok (.iconst 1, 1) := by decide +kernel
theorem dX9_readLine_76 : decode cX9_readLine 76 = .ok (.aload_n 0, 1) := by decide +kernel
theorem dX9_readLine_77 : decode cX9_readLine 77 = .ok (.getfield 29, 3) := by decide +kernel
theorem dX9_readLine_80 : decode cX9_readLine 80 = .ok (.iload_n 1, 1) := by decide +kernel
theorem dX9_readLine_81 : decode cX9_readLine 81 = .ok (.iaload, 1) := by decide +kernel
theorem dX9_readLine_82 : decode cX9_readLine 82 = .ok (.invokevirtual 171, 3) := by decide +kernel
theorem dX9_readLine_85 : decode cX9_readLine 85 = .ok (.istore_n 2, 1) := by decide +kernel
theorem dX9_readLine_86 : decode cX9_readLine 86 = .ok (.iload_n 1, 1) := by decide +kernel
theorem dX9_readLine_87 : decode cX9_readLine 87 = .ok (.iconst 2, 1) := by decide +kernel
theorem dX9_readLine_88 : decode cX9_readLine 88 = .ok (.if_icmp .ne 13, 3) := by decide +kernel
theorem dX9_readLine_91 : decode cX9_readLine 91 = .ok (.aload_n 0, 1) := by decide +kernel
theorem dX9_readLine_92 : decode cX9_readLine 92 = .ok (.iconst 0, 1) := by decide +kernel
theorem dX9_readLine_93 : decode cX9_readLine 93 = .ok (.bipush 10, 2) := by decide +kernel
theorem dX9_readLine_95 : decode cX9_readLine 95 = .ok (.invokevirtual 171, 3) := by decide +kernel
theorem dX9_readLine_98 : decode cX9_readLine 98 = .ok (.goto 4, 3) := by decide +kernel
theorem dX9_readLine_101 : decode cX9_readLine 101 = .ok (.iconst 0, 1) := by decide +kernel
theorem dX9_readLine_102 : decode cX9_readLine 102 = .ok (.istore_n 3, 1) := by decide +kernel
theorem dX9_readLine_103 : decode cX9_readLine 103 = .ok (.aload_n 0, 1) := by decide +kernel
theorem dX9_readLine_104 : decode cX9_readLine 104 = .ok (.getfield 128, 3) := by decide +kernel
theorem dX9_readLine_107 : decode cX9_readLine 107 = .ok (.ifCond .ne 16, 3) := by decide +kernel
theorem dX9_readLine_110 : decode cX9_readLine 110 = .ok (.aload_n 0, 1) := by decide +kernel
theorem dX9_readLine_111 : decode cX9_readLine 111 = .ok (.getfield 146, 3) := by decide +kernel
theorem dX9_readLine_114 : decode cX9_readLine 114 = .ok (.iconst 3, 1) := by decide +kernel
theorem dX9_readLine_115 : decode cX9_readLine 115 = .ok (.if_icmp .eq 8, 3) := by decide +kernel
theorem dX9_readLine_118 : decode cX9_readLine 118 = .ok (.aload_n 0, 1) := by decide +kernel
theorem dX9_readLine_119 : decode cX9_readLine 119 = .ok (.iconst 2, 1) := by decide +kernel
theorem dX9_readLine_120 : decode cX9_readLine 120 = .ok (.invokevirtual 157, 3) := by decide +kernel
theorem dX9_readLine_123 : decode cX9_readLine 123 = .ok (.aload_n 0, 1) := by decide +kernel
theorem dX9_readLine_124 : decode cX9_readLine 124 = .ok (.getfield 128, 3) := by decide +kernel
theorem dX9_readLine_127 : decode cX9_readLine 127 = .ok (.ifCond .ne 47, 3) := by decide +kernel
theorem dX9_readLine_130 : decode cX9_readLine 130 = .ok (.aload_n 0, 1) := by decide +kernel
theorem dX9_readLine_131 : decode cX9_readLine 131 = .ok (.getfield 41, 3) := by decide +kernel
theorem dX9_readLine_134 : decode cX9_readLine 134 = .ok (.aload_n 0, 1) := by decide +kernel
theorem dX9_readLine_135 : decode cX9_readLine 135 = .ok (.getfield 168, 3) := by decide +kernel
theorem dX9_readLine_138 : decode cX9_readLine 138 = .ok (.iload_n 1, 1) := by decide +kernel
theorem dX9_readLine_139 : decode cX9_readLine 139 = .ok (.iastore, 1) := by decide +kernel
theorem dX9_readLine_140 : decode cX9_readLine 140 = .ok (.aload_n 0, 1) := by decide +kernel
theorem dX9_readLine_141 : decode cX9_readLine 141 = .ok (.getfield 44, 3) := by decide +kernel
theorem dX9_readLine_144 : decode cX9_readLine 144 = .ok (.aload_n 0, 1) := by decide +kernel
theorem dX9_readLine_145 : decode cX9_readLine 145 = .ok (.getfield 168, 3) := by decide +kernel
theorem dX9_readLine_148 : decode cX9_readLine 148 = .ok (.iload_n 2, 1) := by decide +kernel
theorem dX9_readLine_149 : decode cX9_readLine 149 = .ok (.iastore, 1) := by decide +kernel
theorem dX9_readLine_150 : decode cX9_readLine 150 = .ok (.aload_n 0, 1) := by decide +kernel
theorem dX9_readLine_151 : decode cX9_readLine 151 = .ok (.getfield 47, 3) := by decide +kernel
theorem dX9_readLine_154 : decode cX9_readLine 154 = .ok (.aload_n 0, 1) := by decide +kernel
theorem dX9_readLine_155 : decode cX9_readLine 155 = .ok (.getfield 168, 3) := by decide +kernel
theorem dX9_readLine_158 : decode cX9_readLine 158 = .ok (.iload_n 3, 1) := by decide +kernel
theorem dX9_readLine_159 : decode cX9_readLine 159 = .ok (.iastore, 1) := by decide +kernel
theorem dX9_readLine_160 : decode cX9_readLine 160 = .ok (.aload_n 0, 1) := by decide +kernel
theorem dX9_readLine_161 : decode cX9_readLine 161 = .ok (.dup, 1) := by decide +kernel
theorem dX9_readLine_162 : decode cX9_readLine 162 = .ok (.getfield 168, 3) := by decide +kernel
theorem dX9_readLine_165 : decode cX9_readLine 165 = .ok (.iconst 1, 1) := by decide +kernel
theorem dX9_readLine_166 : decode cX9_readLine 166 = .ok (.iadd, 1) := by decide +kernel
theorem dX9_readLine_167 : decode cX9_readLine 167 = .ok (.putfield 168, 3) := by decide +kernel
theorem dX9_readLine_170 : decode cX9_readLine 170 = .ok (.aload_n 0, 1) := by decide +kernel
theorem dX9_readLine_171 : decode cX9_readLine 171 = .ok (.invokevirtual 161, 3) := by decide +kernel
theorem dX9_readLine_174 : decode cX9_readLine 174 = .ok (.return_, 1) := by decide +kernel
theorem dX9_text_0 : decode cX9_text 0 = .ok (.aload_n 0, 1) := by decide +kernel
theorem dX9_text_1 : decode cX9_text 1 = .ok (.iconst 0, 1) := by decide +kernel
theorem dX9_text_2 : decode cX9_text 2 = .ok (.putfield 128, 3) := by decide +kernel
theorem dX9_text_5 : decode cX9_text 5 = .ok (.aload_n 0, 1) := by decide +kernel
theorem dX9_text_6 : decode cX9_text 6 = .ok (.iconst 0, 1) := by decide +kernel
theorem dX9_text_7 : decode cX9_text 7 = .ok (.putfield 137, 3) := by decide +kernel
theorem dX9_text_10 : decode cX9_text 10 = .ok (.aload_n 0, 1) := by decide +kernel
theorem dX9_text_11 : decode cX9_text 11 = .ok (.iconst 0, 1) := by decide +kernel
theorem dX9_text_12 : decode cX9_text 12 = .ok (.putfield 168, 3) := by decide +kernel
theorem dX9_text_15 : decode cX9_text 15 = .ok (.aload_n 0, 1) := by decide +kernel
theorem dX9_text_16 : decode cX9_text 16 = .ok (.invokevirtual 161, 3) := by decide +kernel
theorem dX9_text_19 : decode cX9_text 19 = .ok (.aload_n 0, 1) := by decide +kernel
theorem dX9_text_20 : decode cX9_text 20 = .ok (.getfield 128, 3) := by decide +kernel
theorem dX9_text_23 : decode cX9_text 23 = .ok (.ifCond .ne 17, 3) := by decide +kernel
theorem dX9_text_26 : decode cX9_text 26 = .ok (.aload_n 0, 1) := by decide +kernel
theorem dX9_text_27 : decode cX9_text 27 = .ok (.getfield 146, 3) := by decide +kernel
theorem dX9_text_30 : decode cX9_text 30 = .ok (.ifCond .eq 10, 3) := by decide +kernel
theorem dX9_text_33 : decode cX9_text 33 = .ok (.aload_n 0, 1) := by decide +kernel
theorem dX9_text_34 : decode cX9_text 34 = .ok (.invokevirtual 175, 3) := by decide +kernel
theorem dX9_text_37 : decode cX9_text 37 = .ok (.goto (-18), 3) := by decide +kernel
theorem dX9_text_40 : decode cX9_text 40 = .ok (.aload_n 0, 1) := by decide +kernel
theorem dX9_text_41 : decode cX9_text 41 = .ok (.iconst 0, 1) := by decide +kernel
theorem dX9_text_42 : decode cX9_text 42 = .ok (.putfield 125, 3) := by decide +kernel
theorem dX9_text_45 : decode cX9_text 45 = .ok (.aload_n 0, 1) := by decide +kernel
theorem dX9_text_46 : decode cX9_text 46 = .ok (.aload_n 0, 1) := by decide +kernel
theorem dX9_text_47 : decode cX9_text 47 = .ok (.getfield 128, 3) := by decide +kernel
theorem dX9_text_50 : decode cX9_text 50 = .ok (.putfield 178, 3) := by decide +kernel
theorem dX9_text_53 : decode cX9_text 53 = .ok (.aload_n 0, 1) := by decide +kernel
theorem dX9_text_54 : decode cX9_text 54 = .ok (.getfield 128, 3) := by decide +kernel
theorem dX9_text_57 : decode cX9_text 57 = .ok (.ifCond .le 11, 3) := by decide +kernel
theorem dX9_text_60 : decode cX9_text 60 = .ok (.bipush (-10), 2) := by decide +kernel
theorem dX9_text_62 : decode cX9_text 62 = .ok (.aload_n 0, 1) := by decide +kernel
theorem dX9_text_63 : decode cX9_text 63 = .ok (.getfield 134, 3) := by decide +kernel
theorem dX9_text_66 : decode cX9_text 66 = .ok (.isub, 1) := by decide +kernel
theorem dX9_text_67 : decode cX9_text 67 = .ok (.ireturn, 1) := by decide +kernel
theorem dX9_text_68 : decode cX9_text 68 = .ok (.aload_n 0, 1) := by decide +kernel
theorem dX9_text_69 : decode cX9_text 69 = .ok (.aload_n 0, 1) := by decide +kernel
theorem dX9_text_70 : decode cX9_text 70 = .ok (.getfield 168, 3) := by decide +kernel
theorem dX9_text_73 : decode cX9_text 73 = .ok (.putfield 181, 3) := by decide +kernel
theorem dX9_text_76 : decode cX9_text 76 = .ok (.iconst 0, 1) := by decide +kernel
theorem dX9_text_77 : decode cX9_text 77 = .ok (.istore_n 1, 1) := by decide +kernel
theorem dX9_text_78 : decode cX9_text 78 = .ok (.iload_n 1, 1) := by decide +kernel
theorem dX9_text_79 : decode cX9_text 79 = .ok (.bipush 6, 2) := by decide +kernel
theorem dX9_text_81 : decode cX9_text 81 = .ok (.if_icmp .ge 45, 3) := by decide +kernel
theorem dX9_text_84 : decode cX9_text 84 = .ok (.aload_n 0, 1) := by decide +kernel
theorem dX9_text_85 : decode cX9_text 85 = .ok (.getfield 32, 3) := by decide +kernel
theorem dX9_text_88 : decode cX9_text 88 = .ok (.iload_n 1, 1) := by decide +kernel
theorem dX9_text_89 : decode cX9_text 89 = .ok (.aload_n 0, 1) := by decide +kernel
theorem dX9_text_90 : decode cX9_text 90 = .ok (.getfield 41, 3) := by decide +kernel
theorem dX9_text_93 : decode cX9_text 93 = .ok (.iload_n 1, 1) := by decide +kernel
theorem dX9_text_94 : decode cX9_text 94 = .ok (.iaload, 1) := by decide +kernel
theorem dX9_text_95 : decode cX9_text 95 = .ok (.iastore, 1) := by decide +kernel
theorem dX9_text_96 : decode cX9_text 96 = .ok (.aload_n 0, 1) := by decide +kernel
theorem dX9_text_97 : decode cX9_text 97 = .ok (.getfield 35, 3) := by decide +kernel
theorem dX9_text_100 : decode cX9_text 100 = .ok (.iload_n 1, 1) := by decide +kernel
theorem dX9_text_101 : decode cX9_text 101 = .ok (.aload_n 0, 1) := by decide +kernel
theorem dX9_text_102 : decode cX9_text 102 = .ok (.getfield 44, 3) := by decide +kernel
theorem dX9_text_105 : decode cX9_text 105 = .ok (.iload_n 1, 1) := by decide +kernel
theorem dX9_text_106 : decode cX9_text 106 = .ok (.iaload, 1) := by decide +kernel
theorem dX9_text_107 : decode cX9_text 107 = .ok (.iastore, 1) := by decide +kernel
theorem dX9_text_108 : decode cX9_text 108 = .ok (.aload_n 0, 1) := by decide +kernel
theorem dX9_text_109 : decode cX9_text 109 = .ok (.getfield 38, 3) := by decide +kernel
theorem dX9_text_112 : decode cX9_text 112 = .ok (.iload_n 1, 1) := by decide +kernel
theorem dX9_text_113 : decode cX9_text 113 = .ok (.aload_n 0, 1) := by decide +kernel
theorem dX9_text_114 : decode cX9_text 114 = .ok (.getfield 47, 3) := by decide +kernel
theorem dX9_text_117 : decode cX9_text 117 = .ok (.iload_n 1, 1) := by decide +kernel
theorem dX9_text_118 : decode cX9_text 118 = .ok (.iaload, 1) := by decide +kernel
theorem dX9_text_119 : decode cX9_text 119 = .ok (.iastore, 1) := by decide +kernel
theorem dX9_text_120 : decode cX9_text 120 = .ok (.iinc 1 1, 3) := by decide +kernel
theorem dX9_text_123 : decode cX9_text 123 = .ok (.goto (-45), 3) := by decide +kernel
theorem dX9_text_126 : decode cX9_text 126 = .ok (.aload_n 0, 1) := by decide +kernel
theorem dX9_text_127 : decode cX9_text 127 = .ok (.getfield 181, 3) := by decide +kernel
theorem dX9_text_130 : decode cX9_text 130 = .ok (.ireturn, 1) := by decide +kernel
theorem dX9_fault_0 : decode cX9_fault 0 = .ok (.aload_n 0, 1) := by decide +kernel
theorem dX9_fault_1 : decode cX9_fault 1 = .ok (.getfield 178, 3) := by decide +kernel
theorem dX9_fault_4 : decode cX9_fault 4 = .ok (.ireturn, 1) := by decide +kernel
theorem dX9_isTeller_0 : decode cX9_isTeller 0 = .ok (.iload_n 1, 1) := by decide +kernel
theorem dX9_isTeller_1 : decode cX9_isTeller 1 = .ok (.i2l, 1) := by decide +kernel
theorem dX9_isTeller_2 : decode cX9_isTeller 2 = .ok (.lconst 0, 1) := by decide +kernel
theorem dX9_isTeller_3 : decode cX9_isTeller 3 = .ok (.aload_n 0, 1) := by decide +kernel
theorem dX9_isTeller_4 : decode cX9_isTeller 4 = .ok (.getfield 181, 3) := by decide +kernel
theorem dX9_isTeller_7 : decode cX9_isTeller 7 = .ok (.iconst 1, 1) := by decide +kernel
theorem dX9_isTeller_8 : decode cX9_isTeller 8 = .ok (.isub, 1) := by decide +kernel
theorem dX9_isTeller_9 : decode cX9_isTeller 9 = .ok (.i2l, 1) := by decide +kernel
theorem dX9_isTeller_10 : decode cX9_isTeller 10 = .ok (.invokestatic 91, 3) := by decide +kernel
theorem dX9_isTeller_13 : decode cX9_isTeller 13 = .ok (.ireturn, 1) := by decide +kernel
theorem dX9_teller_0 : decode cX9_teller 0 = .ok (.aload_n 0, 1) := by decide +kernel
theorem dX9_teller_1 : decode cX9_teller 1 = .ok (.iload_n 1, 1) := by decide +kernel
theorem dX9_teller_2 : decode cX9_teller 2 = .ok (.invokevirtual 184, 3) := by decide +kernel
theorem dX9_teller_5 : decode cX9_teller 5 = .ok (.ifCond .ne 5, 3) := by decide +kernel
theorem dX9_teller_8 : decode cX9_teller 8 = .ok (.iconst (-1), 1) := by decide +kernel
theorem dX9_teller_9 : decode cX9_teller 9 = .ok (.ireturn, 1) := by decide +kernel
theorem dX9_teller_10 : decode cX9_teller 10 = .ok (.iload_n 2, 1) := by decide +kernel
theorem dX9_teller_11 : decode cX9_teller 11 = .ok (.ifCond .ne 12, 3) := by decide +kernel
theorem dX9_teller_14 : decode cX9_teller 14 = .ok (.aload_n 0, 1) := by decide +kernel
theorem dX9_teller_15 : decode cX9_teller 15 = .ok (.getfield 32, 3) := by decide +kernel
theorem dX9_teller_18 : decode cX9_teller 18 = .ok (.iload_n 1, 1) := by decide +kernel
theorem dX9_teller_19 : decode cX9_teller 19 = .ok (.iaload, 1) := by decide +kernel
theorem dX9_teller_20 : decode cX9_teller 20 = .ok (.goto 32, 3) := by decide +kernel
theorem dX9_teller_23 : decode cX9_teller 23 = .ok (.iload_n 2, 1) := by decide +kernel
theorem dX9_teller_24 : decode cX9_teller 24 = .ok (.iconst 1, 1) := by decide +kernel
theorem dX9_teller_25 : decode cX9_teller 25 = .ok (.if_icmp .ne 12, 3) := by decide +kernel
theorem dX9_teller_28 : decode cX9_teller 28 = .ok (.aload_n 0, 1) := by decide +kernel
theorem dX9_teller_29 : decode cX9_teller 29 = .ok (.getfield 35, 3) := by decide +kernel
theorem dX9_teller_32 : decode cX9_teller 32 = .ok (.iload_n 1, 1) := by decide +kernel
theorem dX9_teller_33 : decode cX9_teller 33 = .ok (.iaload, 1) := by decide +kernel
theorem dX9_teller_34 : decode cX9_teller 34 = .ok (.goto 18, 3) := by decide +kernel
theorem dX9_teller_37 : decode cX9_teller 37 = .ok (.iload_n 2, 1) := by decide +kernel
theorem dX9_teller_38 : decode cX9_teller 38 = .ok (.iconst 2, 1) := by decide +kernel
theorem dX9_teller_39 : decode cX9_teller 39 = .ok (.if_icmp .ne 12, 3) := by decide +kernel
theorem dX9_teller_42 : decode cX9_teller 42 = .ok (.aload_n 0, 1) := by decide +kernel
theorem dX9_teller_43 : decode cX9_teller 43 = .ok (.getfield 38, 3) := by decide +kernel
theorem dX9_teller_46 : decode cX9_teller 46 = .ok (.iload_n 1, 1) := by decide +kernel
theorem dX9_teller_47 : decode cX9_teller 47 = .ok (.iaload, 1) := by decide +kernel
theorem dX9_teller_48 : decode cX9_teller 48 = .ok (.goto 4, 3) := by decide +kernel
theorem dX9_teller_51 : decode cX9_teller 51 = .ok (.iconst (-1), 1) := by decide +kernel
theorem dX9_teller_52 : decode cX9_teller 52 = .ok (.ireturn, 1) := by decide +kernel
theorem dX9_down_0 : decode cX9_down 0 = .ok (.iload_n 0, 1) := by decide +kernel
theorem dX9_down_1 : decode cX9_down 1 = .ok (.iload_n 1, 1) := by decide +kernel
theorem dX9_down_2 : decode cX9_down 2 = .ok (.idiv, 1) := by decide +kernel
theorem dX9_down_3 : decode cX9_down 3 = .ok (.istore_n 2, 1) := by decide +kernel
theorem dX9_down_4 : decode cX9_down 4 = .ok (.iload_n 0, 1) := by decide +kernel
theorem dX9_down_5 : decode cX9_down 5 = .ok (.iload_n 1, 1) := by decide +kernel
theorem dX9_down_6 : decode cX9_down 6 = .ok (.irem, 1) := by decide +kernel
theorem dX9_down_7 : decode cX9_down 7 = .ok (.ifCond .eq 13, 3) := by decide +kernel
theorem dX9_down_10 : decode cX9_down 10 = .ok (.iload_n 0, 1) := by decide +kernel
theorem dX9_down_11 : decode cX9_down 11 = .ok (.ifCond .ge 9, 3) := by decide +kernel
theorem dX9_down_14 : decode cX9_down 14 = .ok (.iload_n 2, 1) := by decide +kernel
theorem dX9_down_15 : decode cX9_down 15 = .ok (.iconst 1, 1) := by decide +kernel
theorem dX9_down_16 : decode cX9_down 16 = .ok (.isub, 1) := by decide +kernel
theorem dX9_down_17 : decode cX9_down 17 = .ok (.goto 4, 3) := by decide +kernel
theorem dX9_down_20 : decode cX9_down 20 = .ok (.iload_n 2, 1) := by decide +kernel
theorem dX9_down_21 : decode cX9_down 21 = .ok (.ireturn, 1) := by decide +kernel
theorem dX9_tellSame_0 : decode cX9_tellSame 0 = .ok (.iload_n 3, 1) := by decide +kernel
theorem dX9_tellSame_1 : decode cX9_tellSame 1 = .ok (.iload 4, 2) := by decide +kernel
theorem dX9_tellSame_3 : decode cX9_tellSame 3 = .ok (.iadd, 1) := by decide +kernel
theorem dX9_tellSame_4 : decode cX9_tellSame 4 = .ok (.iload_n 1, 1) := by decide +kernel
theorem dX9_tellSame_5 : decode cX9_tellSame 5 = .ok (.isub, 1) := by decide +kernel
theorem dX9_tellSame_6 : decode cX9_tellSame 6 = .ok (.istore 5, 2) := by decide +kernel
theorem dX9_tellSame_8 : decode cX9_tellSame 8 = .ok (.iload 5, 2) := by decide +kernel
theorem dX9_tellSame_10 : decode cX9_tellSame 10 = .ok (.ifCond .lt 38, 3) := by decide +kernel
theorem dX9_tellSame_13 : decode cX9_tellSame 13 = .ok (.iload 5, 2) := by decide +kernel
theorem dX9_tellSame_15 : decode cX9_tellSame 15 = .ok (.iload_n 3, 1) := by decide +kernel
theorem dX9_tellSame_16 : decode cX9_tellSame 16 = .ok (.if_icmp .gt 23, 3) := by decide +kernel
theorem dX9_tellSame_19 : decode cX9_tellSame 19 = .ok (.aload_n 0, 1) := by decide +kernel
theorem dX9_tellSame_20 : decode cX9_tellSame 20 = .ok (.iload_n 2, 1) := by decide +kernel
theorem dX9_tellSame_21 : decode cX9_tellSame 21 = .ok (.iload 5, 2) := by decide +kernel
theorem dX9_tellSame_23 : decode cX9_tellSame 23 = .ok (.iload_n 3, 1) := by decide +kernel
theorem dX9_tellSame_24 : decode cX9_tellSame 24 = .ok (.invokevirtual 113, 3) := by decide +kernel
theorem dX9_tellSame_27 : decode cX9_tellSame 27 = .ok (.ifCond .lt 12, 3) := by decide +kernel
theorem dX9_tellSame_30 : decode cX9_tellSame 30 = .ok (.aload_n 0, 1) := by decide +kernel
theorem dX9_tellSame_31 : decode cX9_tellSame 31 = .ok (.iload_n 2, 1) := by decide +kernel
theorem dX9_tellSame_32 : decode cX9_tellSame 32 = .ok (.iload 5, 2) := by decide +kernel
theorem dX9_tellSame_34 : decode cX9_tellSame 34 = .ok (.iload_n 3, 1) := by decide +kernel
theorem dX9_tellSame_35 : decode cX9_tellSame 35 = .ok (.invokevirtual 113, 3) := by decide +kernel
theorem dX9_tellSame_38 : decode cX9_tellSame 38 = .ok (.ireturn, 1) := by decide +kernel
theorem dX9_tellSame_39 : decode cX9_tellSame 39 = .ok (.iload 5, 2) := by decide +kernel
theorem dX9_tellSame_41 : decode cX9_tellSame 41 = .ok (.iload_n 1, 1) := by decide +kernel
theorem dX9_tellSame_42 : decode cX9_tellSame 42 = .ok (.isub, 1) := by decide +kernel
theorem dX9_tellSame_43 : decode cX9_tellSame 43 = .ok (.istore 5, 2) := by decide +kernel
theorem dX9_tellSame_45 : decode cX9_tellSame 45 = .ok (.goto (-37), 3) := by decide +kernel
theorem dX9_tellSame_48 : decode cX9_tellSame 48 = .ok (.iconst (-1), 1) := by decide +kernel
theorem dX9_tellSame_49 : decode cX9_tellSame 49 = .ok (.ireturn, 1) := by decide +kernel
theorem dX9_tellMean_0 : decode cX9_tellMean 0 = .ok (.iconst 0, 1) := by decide +kernel
theorem dX9_tellMean_1 : decode cX9_tellMean 1 = .ok (.istore 4, 2) := by decide +kernel
theorem dX9_tellMean_3 : decode cX9_tellMean 3 = .ok (.iconst 0, 1) := by decide +kernel
theorem dX9_tellMean_4 : decode cX9_tellMean 4 = .ok (.istore 5, 2) := by decide +kernel
theorem dX9_tellMean_6 : decode cX9_tellMean 6 = .ok (.iload_n 3, 1) := by decide +kernel
theorem dX9_tellMean_7 : decode cX9_tellMean 7 = .ok (.istore 6, 2) := by decide +kernel
theorem dX9_tellMean_9 : decode cX9_tellMean 9 = .ok (.iload 6, 2) := by decide +kernel
theorem dX9_tellMean_11 : decode cX9_tellMean 11 = .ok (.ifCond .lt 40, 3) := by decide +kernel
theorem dX9_tellMean_14 : decode cX9_tellMean 14 = .ok (.iload 4, 2) := by decide +kernel
theorem dX9_tellMean_16 : decode cX9_tellMean 16 = .ok (.iload_n 1, 1) := by decide +kernel
theorem dX9_tellMean_17 : decode cX9_tellMean 17 = .ok (.if_icmp .ge 34, 3) := by decide +kernel
theorem dX9_tellMean_20 : decode cX9_tellMean 20 = .ok (.aload_n 0, 1) := by decide +kernel
theorem dX9_tellMean_21 : decode cX9_tellMean 21 = .ok (.iload_n 2, 1) := by decide +kernel
theorem dX9_tellMean_22 : decode cX9_tellMean 22 = .ok (.iload 6, 2) := by decide +kernel
theorem dX9_tellMean_24 : decode cX9_tellMean 24 = .ok (.iload_n 3, 1) := by decide +kernel
theorem dX9_tellMean_25 : decode cX9_tellMean 25 = .ok (.invokevirtual 113, 3) := by decide +kernel
theorem dX9_tellMean_28 : decode cX9_tellMean 28 = .ok (.istore 7, 2) := by decide +kernel
theorem dX9_tellMean_30 : decode cX9_tellMean 30 = .ok (.iload 7, 2) := by decide +kernel
theorem dX9_tellMean_32 : decode cX9_tellMean 32 = .ok (.ifCond .lt 13, 3) := by decide +kernel
theorem dX9_tellMean_35 : decode cX9_tellMean 35 = .ok (.iinc 4 1, 3) := by decide +kernel
theorem dX9_tellMean_38 : decode cX9_tellMean 38 = .ok (.iload 5, 2) := by decide +kernel
theorem dX9_tellMean_40 : decode cX9_tellMean 40 = .ok (.iload 7, 2) := by decide +kernel
theorem dX9_tellMean_42 : decode cX9_tellMean 42 = .ok (.iadd, 1) := by decide +kernel
theorem dX9_tellMean_43 : decode cX9_tellMean 43 = .ok (.istore 5, 2) := by decide +kernel
theorem dX9_tellMean_45 : decode cX9_tellMean 45 = .ok (.iinc 6 (-1), 3) := by decide +kernel
theorem dX9_tellMean_48 : decode cX9_tellMean 48 = .ok (.goto (-39), 3) := by decide +kernel
theorem dX9_tellMean_51 : decode cX9_tellMean 51 = .ok (.iload 4, 2) := by decide +kernel
theorem dX9_tellMean_53 : decode cX9_tellMean 53 = .ok (.iload_n 1, 1) := by decide +kernel
theorem dX9_tellMean_54 : decode cX9_tellMean 54 = .ok (.if_icmp .ge 7, 3) := by decide +kernel
theorem dX9_tellMean_57 : decode cX9_tellMean 57 = .ok (.iconst (-1), 1) := by decide +kernel
theorem dX9_tellMean_58 : decode cX9_tellMean 58 = .ok (.goto 7, 3) := by decide +kernel
theorem dX9_tellMean_61 : decode cX9_tellMean 61 = .ok (.iload 5, 2) := by decide +kernel
theorem dX9_tellMean_63 : decode cX9_tellMean 63 = .ok (.iload_n 1, 1) := by decide +kernel
theorem dX9_tellMean_64 : decode cX9_tellMean 64 = .ok (.idiv, 1) := by decide +kernel
theorem dX9_tellMean_65 : decode cX9_tellMean 65 = .ok (.ireturn, 1) := by decide +kernel
theorem dX9_tellStep_0 : decode cX9_tellStep 0 = .ok (.iconst 0, 1) := by decide +kernel
theorem dX9_tellStep_1 : decode cX9_tellStep 1 = .ok (.istore 6, 2) := by decide +kernel
theorem dX9_tellStep_3 : decode cX9_tellStep 3 = .ok (.iconst 0, 1) := by decide +kernel
theorem dX9_tellStep_4 : decode cX9_tellStep 4 = .ok (.istore 7, 2) := by decide +kernel
theorem dX9_tellStep_6 : decode cX9_tellStep 6 = .ok (.iconst 0, 1) := by decide +kernel
theorem dX9_tellStep_7 : decode cX9_tellStep 7 = .ok (.istore 8, 2) := by decide +kernel
theorem dX9_tellStep_9 : decode cX9_tellStep 9 = .ok (.iconst 0, 1) := by decide +kernel
theorem dX9_tellStep_10 : decode cX9_tellStep 10 = .ok (.istore 9, 2) := by decide +kernel
theorem dX9_tellStep_12 : decode cX9_tellStep 12 = .ok (.iload 9, 2) := by decide +kernel
theorem dX9_tellStep_14 : decode cX9_tellStep 14 = .ok (.iload 4, 2) := by decide +kernel
theorem dX9_tellStep_16 : decode cX9_tellStep 16 = .ok (.if_icmp .gt 125, 3) := by decide +kernel
theorem dX9_tellStep_19 : decode cX9_tellStep 19 = .ok (.aload_n 0, 1) := by decide +kernel
theorem dX9_tellStep_20 : decode cX9_tellStep 20 = .ok (.iload_n 3, 1) := by decide +kernel
theorem dX9_tellStep_21 : decode cX9_tellStep 21 = .ok (.iload 9, 2) := by decide +kernel
theorem dX9_tellStep_23 : decode cX9_tellStep 23 = .ok (.iload 4, 2) := by decide +kernel
theorem dX9_tellStep_25 : decode cX9_tellStep 25 = .ok (.invokevirtual 113, 3) := by decide +kernel
theorem dX9_tellStep_28 : decode cX9_tellStep 28 = .ok (.istore 10, 2) := by decide +kernel
theorem dX9_tellStep_30 : decode cX9_tellStep 30 = .ok (.iload 6, 2) := by decide +kernel
theorem dX9_tellStep_32 : decode cX9_tellStep 32 = .ok (.ifCond .ne 22, 3) := by decide +kernel
theorem dX9_tellStep_35 : decode cX9_tellStep 35 = .ok (.iload 10, 2) := by decide +kernel
theorem dX9_tellStep_37 : decode cX9_tellStep 37 = .ok (.ifCond .lt 11, 3) := by decide +kernel
theorem dX9_tellStep_40 : decode cX9_tellStep 40 = .ok (.bipush 100, 2) := by decide +kernel
theorem dX9_tellStep_42 : decode cX9_tellStep 42 = .ok (.iload 10, 2) := by decide +kernel
theorem dX9_tellStep_44 : decode cX9_tellStep 44 = .ok (.imul, 1) := by decide +kernel
theorem dX9_tellStep_45 : decode cX9_tellStep 45 = .ok (.goto 4, 3) := by decide +kernel
theorem dX9_tellStep_48 : decode cX9_tellStep 48 = .ok (.iconst 0, 1) := by decide +kernel
theorem dX9_tellStep_49 : decode cX9_tellStep 49 = .ok (.istore 7, 2) := by decide +kernel
theorem dX9_tellStep_51 : decode cX9_tellStep 51 = .ok (.goto 69, 3) := by decide +kernel
theorem dX9_tellStep_54 : decode cX9_tellStep 54 = .ok (.iload 10, 2) := by decide +kernel
theorem dX9_tellStep_56 : decode cX9_tellStep 56 = .ok (.ifCond .ge 13, 3) := by decide +kernel
theorem dX9_tellStep_59 : decode cX9_tellStep 59 = .ok (.iload 7, 2) := by decide +kernel
theorem dX9_tellStep_61 : decode cX9_tellStep 61 = .ok (.iload 8, 2) := by decide +kernel
theorem dX9_tellStep_63 : decode cX9_tellStep 63 = .ok (.iadd, 1) := by decide +kernel
theorem dX9_tellStep_64 : decode cX9_tellStep 64 = .ok (.istore 7, 2) := by decide +kernel
theorem dX9_tellStep_66 : decode cX9_tellStep 66 = .ok (.goto 54, 3) := by decide +kernel
theorem dX9_tellStep_69 : decode cX9_tellStep 69 = .ok (.bipush 100, 2) := by decide +kernel
theorem dX9_tellStep_71 : decode cX9_tellStep 71 = .ok (.iload_n 1, 1) := by decide +kernel
theorem dX9_tellStep_72 : decode cX9_tellStep 72 = .ok (.imul, 1) := by decide +kernel
theorem dX9_tellStep_73 : decode cX9_tellStep 73 = .ok (.iload 10, 2) := by decide +kernel
theorem dX9_tellStep_75 : decode cX9_tellStep 75 = .ok (.imul, 1) := by decide +kernel
theorem dX9_tellStep_76 : decode cX9_tellStep 76 = .ok (.bipush 10, 2) := by decide +kernel
theorem dX9_tellStep_78 : decode cX9_tellStep 78 = .ok (.iload_n 1, 1) := by decide +kernel
theorem dX9_tellStep_79 : decode cX9_tellStep 79 = .ok (.isub, 1) := by decide +kernel
theorem dX9_tellStep_80 : decode cX9_tellStep 80 = .ok (.iload 7, 2) := by decide +kernel
theorem dX9_tellStep_82 : decode cX9_tellStep 82 = .ok (.iload 8, 2) := by decide +kernel
theorem dX9_tellStep_84 : decode cX9_tellStep 84 = .ok (.iadd, 1) := by decide +kernel
theorem dX9_tellStep_85 : decode cX9_tellStep 85 = .ok (.imul, 1) := by decide +kernel
theorem dX9_tellStep_86 : decode cX9_tellStep 86 = .ok (.iadd, 1) := by decide +kernel
theorem dX9_tellStep_87 : decode cX9_tellStep 87 = .ok (.bipush 10, 2) := by decide +kernel
theorem dX9_tellStep_89 : decode cX9_tellStep 89 = .ok (.invokestatic 187, 3) := by decide +kernel
theorem dX9_tellStep_92 : decode cX9_tellStep 92 = .ok (.istore 11, 2) := by decide +kernel
theorem dX9_tellStep_94 : decode cX9_tellStep 94 = .ok (.iload_n 2, 1) := by decide +kernel
theorem dX9_tellStep_95 : decode cX9_tellStep 95 = .ok (.iload 11, 2) := by decide +kernel
theorem dX9_tellStep_97 : decode cX9_tellStep 97 = .ok (.iload 7, 2) := by decide +kernel
theorem dX9_tellStep_99 : decode cX9_tellStep 99 = .ok (.isub, 1) := by decide +kernel
theorem dX9_tellStep_100 : decode cX9_tellStep 100 = .ok (.imul, 1) := by decide +kernel
theorem dX9_tellStep_101 : decode cX9_tellStep 101 = .ok (.bipush 10, 2) := by decide +kernel
theorem dX9_tellStep_103 : decode cX9_tellStep 103 = .ok (.iload_n 2, 1) := by decide +kernel
theorem dX9_tellStep_104 : decode cX9_tellStep 104 = .ok (.isub, 1) := by decide +kernel
theorem dX9_tellStep_105 : decode cX9_tellStep 105 = .ok (.iload 8, 2) := by decide +kernel
theorem dX9_tellStep_107 : decode cX9_tellStep 107 = .ok (.imul, 1) := by decide +kernel
theorem dX9_tellStep_108 : decode cX9_tellStep 108 = .ok (.iadd, 1) := by decide +kernel
theorem dX9_tellStep_109 : decode cX9_tellStep 109 = .ok (.bipush 10, 2) := by decide +kernel
theorem dX9_tellStep_111 : decode cX9_tellStep 111 = .ok (.invokestatic 187, 3) := by decide +kernel
theorem dX9_tellStep_114 : decode cX9_tellStep 114 = .ok (.istore 8, 2) := by decide +kernel
theorem dX9_tellStep_116 : decode cX9_tellStep 116 = .ok (.iload 11, 2) := by decide +kernel
theorem dX9_tellStep_118 : decode cX9_tellStep 118 = .ok (.istore 7, 2) := by decide +kernel
theorem dX9_tellStep_120 : decode cX9_tellStep 120 = .ok (.iload 6, 2) := by decide +kernel
theorem dX9_tellStep_122 : decode cX9_tellStep 122 = .ok (.iload 10, 2) := by decide +kernel
theorem dX9_tellStep_124 : decode cX9_tellStep 124 = .ok (.ifCond .lt 7, 3) := by decide +kernel
theorem dX9_tellStep_127 : decode cX9_tellStep 127 = .ok (.iconst 1, 1) := by decide +kernel
theorem dX9_tellStep_128 : decode cX9_tellStep 128 = .ok (.goto 4, 3) := by decide +kernel
theorem dX9_tellStep_131 : decode cX9_tellStep 131 = .ok (.iconst 0, 1) := by decide +kernel
theorem dX9_tellStep_132 : decode cX9_tellStep 132 = .ok (.iadd, 1) := by decide +kernel
theorem dX9_tellStep_133 : decode cX9_tellStep 133 = .ok (.istore 6, 2) := by decide +kernel
theorem dX9_tellStep_135 : decode cX9_tellStep 135 = .ok (.iinc 9 1, 3) := by decide +kernel
theorem dX9_tellStep_138 : decode cX9_tellStep 138 = .ok (.goto (-126), 3) := by decide +kernel
theorem dX9_tellStep_141 : decode cX9_tellStep 141 = .ok (.iload 7, 2) := by decide +kernel
theorem dX9_tellStep_143 : decode cX9_tellStep 143 = .ok (.iload 5, 2) := by decide +kernel
theorem dX9_tellStep_145 : decode cX9_tellStep 145 = .ok (.iload 8, 2) := by decide +kernel
theorem dX9_tellStep_147 : decode cX9_tellStep 147 = .ok (.imul, 1) := by decide +kernel
theorem dX9_tellStep_148 : decode cX9_tellStep 148 = .ok (.iadd, 1) := by decide +kernel
theorem dX9_tellStep_149 : decode cX9_tellStep 149 = .ok (.bipush 100, 2) := by decide +kernel
theorem dX9_tellStep_151 : decode cX9_tellStep 151 = .ok (.invokestatic 187, 3) := by decide +kernel
theorem dX9_tellStep_154 : decode cX9_tellStep 154 = .ok (.istore 9, 2) := by decide +kernel
theorem dX9_tellStep_156 : decode cX9_tellStep 156 = .ok (.iload 6, 2) := by decide +kernel
theorem dX9_tellStep_158 : decode cX9_tellStep 158 = .ok (.iconst 2, 1) := by decide +kernel
theorem dX9_tellStep_159 : decode cX9_tellStep 159 = .ok (.if_icmp .ge 7, 3) := by decide +kernel
theorem dX9_tellStep_162 : decode cX9_tellStep 162 = .ok (.iconst (-1), 1) := by decide +kernel
theorem dX9_tellStep_163 : decode cX9_tellStep 163 = .ok (.goto 28, 3) := by decide +kernel
theorem dX9_tellStep_166 : decode cX9_tellStep 166 = .ok (.iload 9, 2) := by decide +kernel
theorem dX9_tellStep_168 : decode cX9_tellStep 168 = .ok (.ifCond .ge 7, 3) := by decide +kernel
theorem dX9_tellStep_171 : decode cX9_tellStep 171 = .ok (.iconst 0, 1) := by decide +kernel
theorem dX9_tellStep_172 : decode cX9_tellStep 172 = .ok (.goto 19, 3) := by decide +kernel
theorem dX9_tellStep_175 : decode cX9_tellStep 175 = .ok (.iload 9, 2) := by decide +kernel
theorem dX9_tellStep_177 : decode cX9_tellStep 177 = .ok (.sipush 999, 3) := by decide +kernel
theorem dX9_tellStep_180 : decode cX9_tellStep 180 = .ok (.if_icmp .le 9, 3) := by decide +kernel
theorem dX9_tellStep_183 : decode cX9_tellStep 183 = .ok (.sipush 999, 3) := by decide +kernel
theorem dX9_tellStep_186 : decode cX9_tellStep 186 = .ok (.goto 5, 3) := by decide +kernel
theorem dX9_tellStep_189 : decode cX9_tellStep 189 = .ok (.iload 9, 2) := by decide +kernel
theorem dX9_tellStep_191 : decode cX9_tellStep 191 = .ok (.ireturn, 1) := by decide +kernel
theorem dX9_isFeast_0 : decode cX9_isFeast 0 = .ok (.iload_n 1, 1) := by decide +kernel
theorem dX9_isFeast_1 : decode cX9_isFeast 1 = .ok (.invokestatic 97, 3) := by decide +kernel
theorem dX9_isFeast_4 : decode cX9_isFeast 4 = .ok (.ifCond .eq 16, 3) := by decide +kernel
theorem dX9_isFeast_7 : decode cX9_isFeast 7 = .ok (.aload_n 0, 1) := by decide +kernel
theorem dX9_isFeast_8 : decode cX9_isFeast 8 = .ok (.getfield 13, 3) := by decide +kernel
theorem dX9_isFeast_11 : decode cX9_isFeast 11 = .ok (.iload_n 1, 1) := by decide +kernel
theorem dX9_isFeast_12 : decode cX9_isFeast 12 = .ok (.baload, 1) := by decide +kernel
theorem dX9_isFeast_13 : decode cX9_isFeast 13 = .ok (.ifCond .eq 7, 3) := by decide +kernel
theorem dX9_isFeast_16 : decode cX9_isFeast 16 = .ok (.iconst 1, 1) := by decide +kernel
theorem dX9_isFeast_17 : decode cX9_isFeast 17 = .ok (.goto 4, 3) := by decide +kernel
theorem dX9_isFeast_20 : decode cX9_isFeast 20 = .ok (.iconst 0, 1) := by decide +kernel
theorem dX9_isFeast_21 : decode cX9_isFeast 21 = .ok (.ireturn, 1) := by decide +kernel
theorem dX9_tellLike_0 : decode cX9_tellLike 0 = .ok (.iconst 0, 1) := by decide +kernel
theorem dX9_tellLike_1 : decode cX9_tellLike 1 = .ok (.istore 5, 2) := by decide +kernel
theorem dX9_tellLike_3 : decode cX9_tellLike 3 = .ok (.iconst 0, 1) := by decide +kernel
theorem dX9_tellLike_4 : decode cX9_tellLike 4 = .ok (.istore 6, 2) := by decide +kernel
theorem dX9_tellLike_6 : decode cX9_tellLike 6 = .ok (.iload_n 3, 1) := by decide +kernel
theorem dX9_tellLike_7 : decode cX9_tellLike 7 = .ok (.istore 7, 2) := by decide +kernel
theorem dX9_tellLike_9 : decode cX9_tellLike 9 = .ok (.iload 7, 2) := by decide +kernel
theorem dX9_tellLike_11 : decode cX9_tellLike 11 = .ok (.ifCond .lt 72, 3) := by decide +kernel
theorem dX9_tellLike_14 : decode cX9_tellLike 14 = .ok (.iload 5, 2) := by decide +kernel
theorem dX9_tellLike_16 : decode cX9_tellLike 16 = .ok (.iload_n 1, 1) := by decide +kernel
theorem dX9_tellLike_17 : decode cX9_tellLike 17 = .ok (.if_icmp .ge 66, 3) := by decide +kernel
theorem dX9_tellLike_20 : decode cX9_tellLike 20 = .ok (.aload_n 0, 1) := by decide +kernel
theorem dX9_tellLike_21 : decode cX9_tellLike 21 = .ok (.iload_n 2, 1) := by decide +kernel
theorem dX9_tellLike_22 : decode cX9_tellLike 22 = .ok (.iload 7, 2) := by decide +kernel
theorem dX9_tellLike_24 : decode cX9_tellLike 24 = .ok (.iload_n 3, 1) := by decide +kernel
theorem dX9_tellLike_25 : decode cX9_tellLike 25 = .ok (.invokevirtual 113, 3) := by decide +kernel
theorem dX9_tellLike_28 : decode cX9_tellLike 28 = .ok (.istore 8, 2) := by decide +kernel
theorem dX9_tellLike_30 : decode cX9_tellLike 30 = .ok (.iload 8, 2) := by decide +kernel
theorem dX9_tellLike_32 : decode cX9_tellLike 32 = .ok (.ifCond .lt 45, 3) := by decide +kernel
theorem dX9_tellLike_35 : decode cX9_tellLike 35 = .ok (.aload_n 0, 1) := by decide +kernel
theorem dX9_tellLike_36 : decode cX9_tellLike 36 = .ok (.iload 7, 2) := by decide +kernel
theorem dX9_tellLike_38 : decode cX9_tellLike 38 = .ok (.invokevirtual 190, 3) := by decide +kernel
theorem dX9_tellLike_41 : decode cX9_tellLike 41 = .ok (.aload_n 0, 1) := by decide +kernel
theorem dX9_tellLike_42 : decode cX9_tellLike 42 = .ok (.iload_n 3, 1) := by decide +kernel
theorem dX9_tellLike_43 : decode cX9_tellLike 43 = .ok (.iload 4, 2) := by decide +kernel
theorem dX9_tellLike_45 : decode cX9_tellLike 45 = .ok (.iadd, 1) := by decide +kernel
theorem dX9_tellLike_46 : decode cX9_tellLike 46 = .ok (.invokevirtual 190, 3) := by decide +kernel
theorem dX9_tellLike_49 : decode cX9_tellLike 49 = .ok (.if_icmp .ne 28, 3) := by decide +kernel
theorem dX9_tellLike_52 : decode cX9_tellLike 52 = .ok (.iload 7, 2) := by decide +kernel
theorem dX9_tellLike_54 : decode cX9_tellLike 54 = .ok (.bipush 7, 2) := by decide +kernel
theorem dX9_tellLike_56 : decode cX9_tellLike 56 = .ok (.irem, 1) := by decide +kernel
theorem dX9_tellLike_57 : decode cX9_tellLike 57 = .ok (.iload_n 3, 1) := by decide +kernel
theorem dX9_tellLike_58 : decode cX9_tellLike 58 = .ok (.iload 4, 2) := by decide +kernel
theorem dX9_tellLike_60 : decode cX9_tellLike 60 = .ok (.iadd, 1) := by decide +kernel
theorem dX9_tellLike_61 : decode cX9_tellLike 61 = .ok (.bipush 7, 2) := by decide +kernel
theorem dX9_tellLike_63 : decode cX9_tellLike 63 = .ok (.irem, 1) := by decide +kernel
theorem dX9_tellLike_64 : decode cX9_tellLike 64 = .ok (.if_icmp .ne 13, 3) := by decide +kernel
theorem dX9_tellLike_67 : decode cX9_tellLike 67 = .ok (.iinc 5 1, 3) := by decide +kernel
theorem dX9_tellLike_70 : decode cX9_tellLike 70 = .ok (.iload 6, 2) := by decide +kernel
theorem dX9_tellLike_72 : decode cX9_tellLike 72 = .ok (.iload 8, 2) := by decide +kernel
theorem dX9_tellLike_74 : decode cX9_tellLike 74 = .ok (.iadd, 1) := by decide +kernel
theorem dX9_tellLike_75 : decode cX9_tellLike 75 = .ok (.istore 6, 2) := by decide +kernel
theorem dX9_tellLike_77 : decode cX9_tellLike 77 = .ok (.iinc 7 (-1), 3) := by decide +kernel
theorem dX9_tellLike_80 : decode cX9_tellLike 80 = .ok (.goto (-71), 3) := by decide +kernel
theorem dX9_tellLike_83 : decode cX9_tellLike 83 = .ok (.iload 5, 2) := by decide +kernel
theorem dX9_tellLike_85 : decode cX9_tellLike 85 = .ok (.ifCond .ne 7, 3) := by decide +kernel
theorem dX9_tellLike_88 : decode cX9_tellLike 88 = .ok (.iconst (-1), 1) := by decide +kernel
theorem dX9_tellLike_89 : decode cX9_tellLike 89 = .ok (.goto 8, 3) := by decide +kernel
theorem dX9_tellLike_92 : decode cX9_tellLike 92 = .ok (.iload 6, 2) := by decide +kernel
theorem dX9_tellLike_94 : decode cX9_tellLike 94 = .ok (.iload 5, 2) := by decide +kernel
theorem dX9_tellLike_96 : decode cX9_tellLike 96 = .ok (.idiv, 1) := by decide +kernel
theorem dX9_tellLike_97 : decode cX9_tellLike 97 = .ok (.ireturn, 1) := by decide +kernel
theorem dX9_tellPlain_0 : decode cX9_tellPlain 0 = .ok (.iload_n 1, 1) := by decide +kernel
theorem dX9_tellPlain_1 : decode cX9_tellPlain 1 = .ok (.ifCond .ne 17, 3) := by decide +kernel
theorem dX9_tellPlain_4 : decode cX9_tellPlain 4 = .ok (.aload_n 0, 1) := by decide +kernel
theorem dX9_tellPlain_5 : decode cX9_tellPlain 5 = .ok (.iload_n 2, 1) := by decide +kernel
theorem dX9_tellPlain_6 : decode cX9_tellPlain 6 = .ok (.iload 4, 2) := by decide +kernel
theorem dX9_tellPlain_8 : decode cX9_tellPlain 8 = .ok (.iload 5, 2) := by decide +kernel
theorem dX9_tellPlain_10 : decode cX9_tellPlain 10 = .ok (.iload 6, 2) := by decide +kernel
theorem dX9_tellPlain_12 : decode cX9_tellPlain 12 = .ok (.invokevirtual 193, 3) := by decide +kernel
theorem dX9_tellPlain_15 : decode cX9_tellPlain 15 = .ok (.goto 51, 3) := by decide +kernel
theorem dX9_tellPlain_18 : decode cX9_tellPlain 18 = .ok (.iload_n 1, 1) := by decide +kernel
theorem dX9_tellPlain_19 : decode cX9_tellPlain 19 = .ok (.iconst 1, 1) := by decide +kernel
theorem dX9_tellPlain_20 : decode cX9_tellPlain 20 = .ok (.if_icmp .ne 15, 3) := by decide +kernel
theorem dX9_tellPlain_23 : decode cX9_tellPlain 23 = .ok (.aload_n 0, 1) := by decide +kernel
theorem dX9_tellPlain_24 : decode cX9_tellPlain 24 = .ok (.iload_n 2, 1) := by decide +kernel
theorem dX9_tellPlain_25 : decode cX9_tellPlain 25 = .ok (.iload 4, 2) := by decide +kernel
theorem dX9_tellPlain_27 : decode cX9_tellPlain 27 = .ok (.iload 5, 2) := by decide +kernel
theorem dX9_tellPlain_29 : decode cX9_tellPlain 29 = .ok (.invokevirtual 197, 3) := by decide +kernel
theorem dX9_tellPlain_32 : decode cX9_tellPlain 32 = .ok (.goto 34, 3) := by decide +kernel
theorem dX9_tellPlain_35 : decode cX9_tellPlain 35 = .ok (.iload_n 1, 1) := by decide +kernel
theorem dX9_tellPlain_36 : decode cX9_tellPlain 36 = .ok (.iconst 2, 1) := by decide +kernel
theorem dX9_tellPlain_37 : decode cX9_tellPlain 37 = .ok (.if_icmp .ne 18, 3) := by decide +kernel
theorem dX9_tellPlain_40 : decode cX9_tellPlain 40 = .ok (.aload_n 0, 1) := by decide +kernel
theorem dX9_tellPlain_41 : decode cX9_tellPlain 41 = .ok (.iload_n 2, 1) := by decide +kernel
theorem dX9_tellPlain_42 : decode cX9_tellPlain 42 = .ok (.iload_n 3, 1) := by decide +kernel
theorem dX9_tellPlain_43 : decode cX9_tellPlain 43 = .ok (.iload 4, 2) := by decide +kernel
theorem dX9_tellPlain_45 : decode cX9_tellPlain 45 = .ok (.iload 5, 2) := by decide +kernel
theorem dX9_tellPlain_47 : decode cX9_tellPlain 47 = .ok (.iload 6, 2) := by decide +kernel
theorem dX9_tellPlain_49 : decode cX9_tellPlain 49 = .ok (.invokevirtual 200, 3) := by decide +kernel
theorem dX9_tellPlain_52 : decode cX9_tellPlain 52 = .ok (.goto 14, 3) := by decide +kernel
theorem dX9_tellPlain_55 : decode cX9_tellPlain 55 = .ok (.aload_n 0, 1) := by decide +kernel
theorem dX9_tellPlain_56 : decode cX9_tellPlain 56 = .ok (.iload_n 2, 1) := by decide +kernel
theorem dX9_tellPlain_57 : decode cX9_tellPlain 57 = .ok (.iload 4, 2) := by decide +kernel
theorem dX9_tellPlain_59 : decode cX9_tellPlain 59 = .ok (.iload 5, 2) := by decide +kernel
theorem dX9_tellPlain_61 : decode cX9_tellPlain 61 = .ok (.iload 6, 2) := by decide +kernel
theorem dX9_tellPlain_63 : decode cX9_tellPlain 63 = .ok (.invokevirtual 204, 3) := by decide +kernel
theorem dX9_tellPlain_66 : decode cX9_tellPlain 66 = .ok (.ireturn, 1) := by decide +kernel
theorem dX9_weightOf_0 : decode cX9_weightOf 0 = .ok (.iconst 0, 1) := by decide +kernel
theorem dX9_weightOf_1 : decode cX9_weightOf 1 = .ok (.istore 6, 2) := by decide +kernel
theorem dX9_weightOf_3 : decode cX9_weightOf 3 = .ok (.iconst 0, 1) := by decide +kernel
theorem dX9_weightOf_4 : decode cX9_weightOf 4 = .ok (.istore 7, 2) := by decide +kernel
theorem dX9_weightOf_6 : decode cX9_weightOf 6 = .ok (.iload 4, 2) := by decide +kernel
theorem dX9_weightOf_8 : decode cX9_weightOf 8 = .ok (.istore 8, 2) := by decide +kernel
theorem dX9_weightOf_10 : decode cX9_weightOf 10 = .ok (.iload 8, 2) := by decide +kernel
theorem dX9_weightOf_12 : decode cX9_weightOf 12 = .ok (.iload 5, 2) := by decide +kernel
theorem dX9_weightOf_14 : decode cX9_weightOf 14 = .ok (.if_icmp .lt 100, 3) := by decide +kernel
theorem dX9_weightOf_17 : decode cX9_weightOf 17 = .ok (.iload 6, 2) := by decide +kernel
theorem dX9_weightOf_19 : decode cX9_weightOf 19 = .ok (.iload_n 2, 1) := by decide +kernel
theorem dX9_weightOf_20 : decode cX9_weightOf 20 = .ok (.if_icmp .ge 94, 3) := by decide +kernel
theorem dX9_weightOf_23 : decode cX9_weightOf 23 = .ok (.aload_n 0, 1) := by decide +kernel
theorem dX9_weightOf_24 : decode cX9_weightOf 24 = .ok (.iload_n 3, 1) := by decide +kernel
theorem dX9_weightOf_25 : decode cX9_weightOf 25 = .ok (.iload 8, 2) := by decide +kernel
theorem dX9_weightOf_27 : decode cX9_weightOf 27 = .ok (.iload 4, 2) := by decide +kernel
theorem dX9_weightOf_29 : decode cX9_weightOf 29 = .ok (.invokevirtual 113, 3) := by decide +kernel
theorem dX9_weightOf_32 : decode cX9_weightOf 32 = .ok (.istore 9, 2) := by decide +kernel
theorem dX9_weightOf_34 : decode cX9_weightOf 34 = .ok (.iload 9, 2) := by decide +kernel
theorem dX9_weightOf_36 : decode cX9_weightOf 36 = .ok (.ifCond .ge 7, 3) := by decide +kernel
theorem dX9_weightOf_39 : decode cX9_weightOf 39 = .ok (.iconst (-1), 1) := by decide +kernel
theorem dX9_weightOf_40 : decode cX9_weightOf 40 = .ok (.goto 33, 3) := by decide +kernel
theorem dX9_weightOf_43 : decode cX9_weightOf 43 = .ok (.aload_n 0, 1) := by decide +kernel
theorem dX9_weightOf_44 : decode cX9_weightOf 44 = .ok (.aload_n 0, 1) := by decide +kernel
theorem dX9_weightOf_45 : decode cX9_weightOf 45 = .ok (.getfield 32, 3) := by decide +kernel
theorem dX9_weightOf_48 : decode cX9_weightOf 48 = .ok (.iload_n 1, 1) := by decide +kernel
theorem dX9_weightOf_49 : decode cX9_weightOf 49 = .ok (.iaload, 1) := by decide +kernel
theorem dX9_weightOf_50 : decode cX9_weightOf 50 = .ok (.aload_n 0, 1) := by decide +kernel
theorem dX9_weightOf_51 : decode cX9_weightOf 51 = .ok (.getfield 35, 3) := by decide +kernel
theorem dX9_weightOf_54 : decode cX9_weightOf 54 = .ok (.iload_n 1, 1) := by decide +kernel
theorem dX9_weightOf_55 : decode cX9_weightOf 55 = .ok (.iaload, 1) := by decide +kernel
theorem dX9_weightOf_56 : decode cX9_weightOf 56 = .ok (.aload_n 0, 1) := by decide +kernel
theorem dX9_weightOf_57 : decode cX9_weightOf 57 = .ok (.getfield 38, 3) := by decide +kernel
theorem dX9_weightOf_60 : decode cX9_weightOf 60 = .ok (.iload_n 1, 1) := by decide +kernel
theorem dX9_weightOf_61 : decode cX9_weightOf 61 = .ok (.iaload, 1) := by decide +kernel
theorem dX9_weightOf_62 : decode cX9_weightOf 62 = .ok (.iload_n 3, 1) := by decide +kernel
theorem dX9_weightOf_63 : decode cX9_weightOf 63 = .ok (.iload 8, 2) := by decide +kernel
theorem dX9_weightOf_65 : decode cX9_weightOf 65 = .ok (.iload 5, 2) := by decide +kernel
theorem dX9_weightOf_67 : decode cX9_weightOf 67 = .ok (.isub, 1) := by decide +kernel
theorem dX9_weightOf_68 : decode cX9_weightOf 68 = .ok (.iload 5, 2) := by decide +kernel
theorem dX9_weightOf_70 : decode cX9_weightOf 70 = .ok (.invokevirtual 207, 3) := by decide +kernel
theorem dX9_weightOf_73 : decode cX9_weightOf 73 = .ok (.istore 10, 2) := by decide +kernel
theorem dX9_weightOf_75 : decode cX9_weightOf 75 = .ok (.iload 10, 2) := by decide +kernel
theorem dX9_weightOf_77 : decode cX9_weightOf 77 = .ok (.ifCond .lt 31, 3) := by decide +kernel
theorem dX9_weightOf_80 : decode cX9_weightOf 80 = .ok (.iinc 6 1, 3) := by decide +kernel
theorem dX9_weightOf_83 : decode cX9_weightOf 83 = .ok (.iload 7, 2) := by decide +kernel
theorem dX9_weightOf_85 : decode cX9_weightOf 85 = .ok (.iload 9, 2) := by decide +kernel
theorem dX9_weightOf_87 : decode cX9_weightOf 87 = .ok (.iload 10, 2) := by decide +kernel
theorem dX9_weightOf_89 : decode cX9_weightOf 89 = .ok (.if_icmp .ge 11, 3) := by decide +kernel
theorem dX9_weightOf_92 : decode cX9_weightOf 92 = .ok (.iload 10, 2) := by decide +kernel
theorem dX9_weightOf_94 : decode cX9_weightOf 94 = .ok (.iload 9, 2) := by decide +kernel
theorem dX9_weightOf_96 : decode cX9_weightOf 96 = .ok (.isub, 1) := by decide +kernel
theorem dX9_weightOf_97 : decode cX9_weightOf 97 = .ok (.goto 8, 3) := by decide +kernel
theorem dX9_weightOf_100 : decode cX9_weightOf 100 = .ok (.iload 9, 2) := by decide +kernel
theorem dX9_weightOf_102 : decode cX9_weightOf 102 = .ok (.iload 10, 2) := by decide +kernel
theorem dX9_weightOf_104 : decode cX9_weightOf 104 = .ok (.isub, 1) := by decide +kernel
theorem dX9_weightOf_105 : decode cX9_weightOf 105 = .ok (.iadd, 1) := by decide +kernel
theorem dX9_weightOf_106 : decode cX9_weightOf 106 = .ok (.istore 7, 2) := by decide +kernel
theorem dX9_weightOf_108 : decode cX9_weightOf 108 = .ok (.iinc 8 (-1), 3) := by decide +kernel
theorem dX9_weightOf_111 : decode cX9_weightOf 111 = .ok (.goto (-101), 3) := by decide +kernel
theorem dX9_weightOf_114 : decode cX9_weightOf 114 = .ok (.sipush 1000, 3) := by decide +kernel
theorem dX9_weightOf_117 : decode cX9_weightOf 117 = .ok (.iconst 1, 1) := by decide +kernel
theorem dX9_weightOf_118 : decode cX9_weightOf 118 = .ok (.iload 6, 2) := by decide +kernel
theorem dX9_weightOf_120 : decode cX9_weightOf 120 = .ok (.ifCond .ne 9, 3) := by decide +kernel
theorem dX9_weightOf_123 : decode cX9_weightOf 123 = .ok (.sipush 1000, 3) := by decide +kernel
theorem dX9_weightOf_126 : decode cX9_weightOf 126 = .ok (.goto 8, 3) := by decide +kernel
theorem dX9_weightOf_129 : decode cX9_weightOf 129 = .ok (.iload 7, 2) := by decide +kernel
theorem dX9_weightOf_131 : decode cX9_weightOf 131 = .ok (.iload 6, 2) := by decide +kernel
theorem dX9_weightOf_133 : decode cX9_weightOf 133 = .ok (.idiv, 1) := by decide +kernel
theorem dX9_weightOf_134 : decode cX9_weightOf 134 = .ok (.iadd, 1) := by decide +kernel
theorem dX9_weightOf_135 : decode cX9_weightOf 135 = .ok (.idiv, 1) := by decide +kernel
theorem dX9_weightOf_136 : decode cX9_weightOf 136 = .ok (.ireturn, 1) := by decide +kernel
theorem dX9_tellJoined_0 : decode cX9_tellJoined 0 = .ok (.iconst 0, 1) := by decide +kernel
theorem dX9_tellJoined_1 : decode cX9_tellJoined 1 = .ok (.istore 5, 2) := by decide +kernel
theorem dX9_tellJoined_3 : decode cX9_tellJoined 3 = .ok (.iconst 0, 1) := by decide +kernel
theorem dX9_tellJoined_4 : decode cX9_tellJoined 4 = .ok (.istore 6, 2) := by decide +kernel
theorem dX9_tellJoined_6 : decode cX9_tellJoined 6 = .ok (.iconst 0, 1) := by decide +kernel
theorem dX9_tellJoined_7 : decode cX9_tellJoined 7 = .ok (.istore 7, 2) := by decide +kernel
theorem dX9_tellJoined_9 : decode cX9_tellJoined 9 = .ok (.iload 7, 2) := by decide +kernel
theorem dX9_tellJoined_11 : decode cX9_tellJoined 11 = .ok (.iload_n 1, 1) := by decide +kernel
theorem dX9_tellJoined_12 : decode cX9_tellJoined 12 = .ok (.if_icmp .ge 99, 3) := by decide +kernel
theorem dX9_tellJoined_15 : decode cX9_tellJoined 15 = .ok (.aload_n 0, 1) := by decide +kernel
theorem dX9_tellJoined_16 : decode cX9_tellJoined 16 = .ok (.getfield 32, 3) := by decide +kernel
theorem dX9_tellJoined_19 : decode cX9_tellJoined 19 = .ok (.iload 7, 2) := by decide +kernel
theorem dX9_tellJoined_21 : decode cX9_tellJoined 21 = .ok (.iaload, 1) := by decide +kernel
theorem dX9_tellJoined_22 : decode cX9_tellJoined 22 = .ok (.iconst 4, 1) := by decide +kernel
theorem dX9_tellJoined_23 : decode cX9_tellJoined 23 = .ok (.if_icmp .ne 7, 3) := by decide +kernel
theorem dX9_tellJoined_26 : decode cX9_tellJoined 26 = .ok (.iconst (-1), 1) := by decide +kernel
theorem dX9_tellJoined_27 : decode cX9_tellJoined 27 = .ok (.goto 32, 3) := by decide +kernel
theorem dX9_tellJoined_30 : decode cX9_tellJoined 30 = .ok (.aload_n 0, 1) := by decide +kernel
theorem dX9_tellJoined_31 : decode cX9_tellJoined 31 = .ok (.aload_n 0, 1) := by decide +kernel
theorem dX9_tellJoined_32 : decode cX9_tellJoined 32 = .ok (.getfield 32, 3) := by decide +kernel
theorem dX9_tellJoined_35 : decode cX9_tellJoined 35 = .ok (.iload 7, 2) := by decide +kernel
theorem dX9_tellJoined_37 : decode cX9_tellJoined 37 = .ok (.iaload, 1) := by decide +kernel
theorem dX9_tellJoined_38 : decode cX9_tellJoined 38 = .ok (.aload_n 0, 1) := by decide +kernel
theorem dX9_tellJoined_39 : decode cX9_tellJoined 39 = .ok (.getfield 35, 3) := by decide +kernel
theorem dX9_tellJoined_42 : decode cX9_tellJoined 42 = .ok (.iload 7, 2) := by decide +kernel
theorem dX9_tellJoined_44 : decode cX9_tellJoined 44 = .ok (.iaload, 1) := by decide +kernel
theorem dX9_tellJoined_45 : decode cX9_tellJoined 45 = .ok (.aload_n 0, 1) := by decide +kernel
theorem dX9_tellJoined_46 : decode cX9_tellJoined 46 = .ok (.getfield 38, 3) := by decide +kernel
theorem dX9_tellJoined_49 : decode cX9_tellJoined 49 = .ok (.iload 7, 2) := by decide +kernel
theorem dX9_tellJoined_51 : decode cX9_tellJoined 51 = .ok (.iaload, 1) := by decide +kernel
theorem dX9_tellJoined_52 : decode cX9_tellJoined 52 = .ok (.iload_n 2, 1) := by decide +kernel
theorem dX9_tellJoined_53 : decode cX9_tellJoined 53 = .ok (.iload_n 3, 1) := by decide +kernel
theorem dX9_tellJoined_54 : decode cX9_tellJoined 54 = .ok (.iload 4, 2) := by decide +kernel
theorem dX9_tellJoined_56 : decode cX9_tellJoined 56 = .ok (.invokevirtual 207, 3) := by decide +kernel
theorem dX9_tellJoined_59 : decode cX9_tellJoined 59 = .ok (.istore 8, 2) := by decide +kernel
theorem dX9_tellJoined_61 : decode cX9_tellJoined 61 = .ok (.iload 8, 2) := by decide +kernel
theorem dX9_tellJoined_63 : decode cX9_tellJoined 63 = .ok (.ifCond .ge 7, 3) := by decide +kernel
theorem dX9_tellJoined_66 : decode cX9_tellJoined 66 = .ok (.iconst 0, 1) := by decide +kernel
theorem dX9_tellJoined_67 : decode cX9_tellJoined 67 = .ok (.goto 19, 3) := by decide +kernel
theorem dX9_tellJoined_70 : decode cX9_tellJoined 70 = .ok (.aload_n 0, 1) := by decide +kernel
theorem dX9_tellJoined_71 : decode cX9_tellJoined 71 = .ok (.iload 7, 2) := by decide +kernel
theorem dX9_tellJoined_73 : decode cX9_tellJoined 73 = .ok (.aload_n 0, 1) := by decide +kernel
theorem dX9_tellJoined_74 : decode cX9_tellJoined 74 = .ok (.getfield 35, 3) := by decide +kernel
theorem dX9_tellJoined_77 : decode cX9_tellJoined 77 = .ok (.iload_n 1, 1) := by decide +kernel
theorem dX9_tellJoined_78 : decode cX9_tellJoined 78 = .ok (.iaload, 1) := by decide +kernel
theorem dX9_tellJoined_79 : decode cX9_tellJoined 79 = .ok (.iload_n 2, 1) := by decide +kernel
theorem dX9_tellJoined_80 : decode cX9_tellJoined 80 = .ok (.iload_n 3, 1) := by decide +kernel
theorem dX9_tellJoined_81 : decode cX9_tellJoined 81 = .ok (.iload 4, 2) := by decide +kernel
theorem dX9_tellJoined_83 : decode cX9_tellJoined 83 = .ok (.invokevirtual 211, 3) := by decide +kernel
theorem dX9_tellJoined_86 : decode cX9_tellJoined 86 = .ok (.istore 9, 2) := by decide +kernel
theorem dX9_tellJoined_88 : decode cX9_tellJoined 88 = .ok (.iload 5, 2) := by decide +kernel
theorem dX9_tellJoined_90 : decode cX9_tellJoined 90 = .ok (.iload 9, 2) := by decide +kernel
theorem dX9_tellJoined_92 : decode cX9_tellJoined 92 = .ok (.iadd, 1) := by decide +kernel
theorem dX9_tellJoined_93 : decode cX9_tellJoined 93 = .ok (.istore 5, 2) := by decide +kernel
theorem dX9_tellJoined_95 : decode cX9_tellJoined 95 = .ok (.iload 6, 2) := by decide +kernel
theorem dX9_tellJoined_97 : decode cX9_tellJoined 97 = .ok (.iload 9, 2) := by decide +kernel
theorem dX9_tellJoined_99 : decode cX9_tellJoined 99 = .ok (.iload 8, 2) := by decide +kernel
theorem dX9_tellJoined_101 : decode cX9_tellJoined 101 = .ok (.imul, 1) := by decide +kernel
theorem dX9_tellJoined_102 : decode cX9_tellJoined 102 = .ok (.iadd, 1) := by decide +kernel
theorem dX9_tellJoined_103 : decode cX9_tellJoined 103 = .ok (.istore 6, 2) := by decide +kernel
theorem dX9_tellJoined_105 : decode cX9_tellJoined 105 = .ok (.iinc 7 1, 3) := by decide +kernel
theorem dX9_tellJoined_108 : decode cX9_tellJoined 108 = .ok (.goto (-99), 3) := by decide +kernel
theorem dX9_tellJoined_111 : decode cX9_tellJoined 111 = .ok (.iload 5, 2) := by decide +kernel
theorem dX9_tellJoined_113 : decode cX9_tellJoined 113 = .ok (.ifCond .ne 7, 3) := by decide +kernel
theorem dX9_tellJoined_116 : decode cX9_tellJoined 116 = .ok (.iconst (-1), 1) := by decide +kernel
theorem dX9_tellJoined_117 : decode cX9_tellJoined 117 = .ok (.goto 8, 3) := by decide +kernel
theorem dX9_tellJoined_120 : decode cX9_tellJoined 120 = .ok (.iload 6, 2) := by decide +kernel
theorem dX9_tellJoined_122 : decode cX9_tellJoined 122 = .ok (.iload 5, 2) := by decide +kernel
theorem dX9_tellJoined_124 : decode cX9_tellJoined 124 = .ok (.idiv, 1) := by decide +kernel
theorem dX9_tellJoined_125 : decode cX9_tellJoined 125 = .ok (.ireturn, 1) := by decide +kernel
theorem dX9_tellBy_0 : decode cX9_tellBy 0 = .ok (.aload_n 0, 1) := by decide +kernel
theorem dX9_tellBy_1 : decode cX9_tellBy 1 = .ok (.getfield 32, 3) := by decide +kernel
theorem dX9_tellBy_4 : decode cX9_tellBy 4 = .ok (.iload_n 1, 1) := by decide +kernel
theorem dX9_tellBy_5 : decode cX9_tellBy 5 = .ok (.iaload, 1) := by decide +kernel
theorem dX9_tellBy_6 : decode cX9_tellBy 6 = .ok (.iconst 4, 1) := by decide +kernel
theorem dX9_tellBy_7 : decode cX9_tellBy 7 = .ok (.if_icmp .ne 15, 3) := by decide +kernel
theorem dX9_tellBy_10 : decode cX9_tellBy 10 = .ok (.aload_n 0, 1) := by decide +kernel
theorem dX9_tellBy_11 : decode cX9_tellBy 11 = .ok (.iload_n 1, 1) := by decide +kernel
theorem dX9_tellBy_12 : decode cX9_tellBy 12 = .ok (.iload_n 2, 1) := by decide +kernel
theorem dX9_tellBy_13 : decode cX9_tellBy 13 = .ok (.iload_n 3, 1) := by decide +kernel
theorem dX9_tellBy_14 : decode cX9_tellBy 14 = .ok (.iload 4, 2) := by decide +kernel
theorem dX9_tellBy_16 : decode cX9_tellBy 16 = .ok (.invokevirtual 214, 3) := by decide +kernel
theorem dX9_tellBy_19 : decode cX9_tellBy 19 = .ok (.goto 29, 3) := by decide +kernel
theorem dX9_tellBy_22 : decode cX9_tellBy 22 = .ok (.aload_n 0, 1) := by decide +kernel
theorem dX9_tellBy_23 : decode cX9_tellBy 23 = .ok (.aload_n 0, 1) := by decide +kernel
theorem dX9_tellBy_24 : decode cX9_tellBy 24 = .ok (.getfield 32, 3) := by decide +kernel
theorem dX9_tellBy_27 : decode cX9_tellBy 27 = .ok (.iload_n 1, 1) := by decide +kernel
theorem dX9_tellBy_28 : decode cX9_tellBy 28 = .ok (.iaload, 1) := by decide +kernel
theorem dX9_tellBy_29 : decode cX9_tellBy 29 = .ok (.aload_n 0, 1) := by decide +kernel
theorem dX9_tellBy_30 : decode cX9_tellBy 30 = .ok (.getfield 35, 3) := by decide +kernel
theorem dX9_tellBy_33 : decode cX9_tellBy 33 = .ok (.iload_n 1, 1) := by decide +kernel
theorem dX9_tellBy_34 : decode cX9_tellBy 34 = .ok (.iaload, 1) := by decide +kernel
theorem dX9_tellBy_35 : decode cX9_tellBy 35 = .ok (.aload_n 0, 1) := by decide +kernel
theorem dX9_tellBy_36 : decode cX9_tellBy 36 = .ok (.getfield 38, 3) := by decide +kernel
theorem dX9_tellBy_39 : decode cX9_tellBy 39 = .ok (.iload_n 1, 1) := by decide +kernel
theorem dX9_tellBy_40 : decode cX9_tellBy 40 = .ok (.iaload, 1) := by decide +kernel
theorem dX9_tellBy_41 : decode cX9_tellBy 41 = .ok (.iload_n 2, 1) := by decide +kernel
theorem dX9_tellBy_42 : decode cX9_tellBy 42 = .ok (.iload_n 3, 1) := by decide +kernel
theorem dX9_tellBy_43 : decode cX9_tellBy 43 = .ok (.iload 4, 2) := by decide +kernel
theorem dX9_tellBy_45 : decode cX9_tellBy 45 = .ok (.invokevirtual 207, 3) := by decide +kernel
theorem dX9_tellBy_48 : decode cX9_tellBy 48 = .ok (.ireturn, 1) := by decide +kernel
theorem dX9_isAhead_0 : decode cX9_isAhead 0 = .ok (.iload_n 0, 1) := by decide +kernel
theorem dX9_isAhead_1 : decode cX9_isAhead 1 = .ok (.i2l, 1) := by decide +kernel
theorem dX9_isAhead_2 : decode cX9_isAhead 2 = .ok (.lconst 1, 1) := by decide +kernel
theorem dX9_isAhead_3 : decode cX9_isAhead 3 = .ok (.ldc2_w 217, 3) := by decide +kernel
theorem dX9_isAhead_6 : decode cX9_isAhead 6 = .ok (.invokestatic 91, 3) := by decide +kernel
theorem dX9_isAhead_9 : decode cX9_isAhead 9 = .ok (.ireturn, 1) := by decide +kernel
theorem dX9_tells_0 : decode cX9_tells 0 = .ok (.iload_n 1, 1) := by decide +kernel
theorem dX9_tells_1 : decode cX9_tells 1 = .ok (.invokestatic 108, 3) := by decide +kernel
theorem dX9_tells_4 : decode cX9_tells 4 = .ok (.ifCond .eq 48, 3) := by decide +kernel
theorem dX9_tells_7 : decode cX9_tells 7 = .ok (.aload_n 0, 1) := by decide +kernel
theorem dX9_tells_8 : decode cX9_tells 8 = .ok (.iload_n 2, 1) := by decide +kernel
theorem dX9_tells_9 : decode cX9_tells 9 = .ok (.invokevirtual 184, 3) := by decide +kernel
theorem dX9_tells_12 : decode cX9_tells 12 = .ok (.ifCond .eq 40, 3) := by decide +kernel
theorem dX9_tells_15 : decode cX9_tells 15 = .ok (.iload_n 3, 1) := by decide +kernel
theorem dX9_tells_16 : decode cX9_tells 16 = .ok (.i2l, 1) := by decide +kernel
theorem dX9_tells_17 : decode cX9_tells 17 = .ok (.lconst 0, 1) := by decide +kernel
theorem dX9_tells_18 : decode cX9_tells 18 = .ok (.aload_n 0, 1) := by decide +kernel
theorem dX9_tells_19 : decode cX9_tells 19 = .ok (.getfield 101, 3) := by decide +kernel
theorem dX9_tells_22 : decode cX9_tells 22 = .ok (.i2l, 1) := by decide +kernel
theorem dX9_tells_23 : decode cX9_tells 23 = .ok (.invokestatic 91, 3) := by decide +kernel
theorem dX9_tells_26 : decode cX9_tells 26 = .ok (.ifCond .eq 26, 3) := by decide +kernel
theorem dX9_tells_29 : decode cX9_tells 29 = .ok (.iload 4, 2) := by decide +kernel
theorem dX9_tells_31 : decode cX9_tells 31 = .ok (.invokestatic 219, 3) := by decide +kernel
theorem dX9_tells_34 : decode cX9_tells 34 = .ok (.ifCond .eq 18, 3) := by decide +kernel
theorem dX9_tells_37 : decode cX9_tells 37 = .ok (.aload_n 0, 1) := by decide +kernel
theorem dX9_tells_38 : decode cX9_tells 38 = .ok (.iload_n 2, 1) := by decide +kernel
theorem dX9_tells_39 : decode cX9_tells 39 = .ok (.iload_n 1, 1) := by decide +kernel
theorem dX9_tells_40 : decode cX9_tells 40 = .ok (.iload_n 3, 1) := by decide +kernel
theorem dX9_tells_41 : decode cX9_tells 41 = .ok (.iload 4, 2) := by decide +kernel
theorem dX9_tells_43 : decode cX9_tells 43 = .ok (.invokevirtual 222, 3) := by decide +kernel
theorem dX9_tells_46 : decode cX9_tells 46 = .ok (.invokestatic 117, 3) := by decide +kernel
theorem dX9_tells_49 : decode cX9_tells 49 = .ok (.goto 4, 3) := by decide +kernel
theorem dX9_tells_52 : decode cX9_tells 52 = .ok (.iconst (-1), 1) := by decide +kernel
theorem dX9_tells_53 : decode cX9_tells 53 = .ok (.ireturn, 1) := by decide +kernel
theorem dX9_weight_0 : decode cX9_weight 0 = .ok (.iload_n 1, 1) := by decide +kernel
theorem dX9_weight_1 : decode cX9_weight 1 = .ok (.invokestatic 108, 3) := by decide +kernel
theorem dX9_weight_4 : decode cX9_weight 4 = .ok (.ifCond .eq 67, 3) := by decide +kernel
theorem dX9_weight_7 : decode cX9_weight 7 = .ok (.aload_n 0, 1) := by decide +kernel
theorem dX9_weight_8 : decode cX9_weight 8 = .ok (.iload_n 2, 1) := by decide +kernel
theorem dX9_weight_9 : decode cX9_weight 9 = .ok (.invokevirtual 184, 3) := by decide +kernel
theorem dX9_weight_12 : decode cX9_weight 12 = .ok (.ifCond .eq 59, 3) := by decide +kernel
theorem dX9_weight_15 : decode cX9_weight 15 = .ok (.iload_n 3, 1) := by decide +kernel
theorem dX9_weight_16 : decode cX9_weight 16 = .ok (.i2l, 1) := by decide +kernel
theorem dX9_weight_17 : decode cX9_weight 17 = .ok (.lconst 0, 1) := by decide +kernel
theorem dX9_weight_18 : decode cX9_weight 18 = .ok (.iload_n 2, 1) := by decide +kernel
theorem dX9_weight_19 : decode cX9_weight 19 = .ok (.iconst 1, 1) := by decide +kernel
theorem dX9_weight_20 : decode cX9_weight 20 = .ok (.isub, 1) := by decide +kernel
theorem dX9_weight_21 : decode cX9_weight 21 = .ok (.i2l, 1) := by decide +kernel
theorem dX9_weight_22 : decode cX9_weight 22 = .ok (.invokestatic 91, 3) := by decide +kernel
theorem dX9_weight_25 : decode cX9_weight 25 = .ok (.ifCond .eq 46, 3) := by decide +kernel
theorem dX9_weight_28 : decode cX9_weight 28 = .ok (.aload_n 0, 1) := by decide +kernel
theorem dX9_weight_29 : decode cX9_weight 29 = .ok (.getfield 32, 3) := by decide +kernel
theorem dX9_weight_32 : decode cX9_weight 32 = .ok (.iload_n 2, 1) := by decide +kernel
theorem dX9_weight_33 : decode cX9_weight 33 = .ok (.iaload, 1) := by decide +kernel
theorem dX9_weight_34 : decode cX9_weight 34 = .ok (.iconst 4, 1) := by decide +kernel
theorem dX9_weight_35 : decode cX9_weight 35 = .ok (.if_icmp .ne 36, 3) := by decide +kernel
theorem dX9_weight_38 : decode cX9_weight 38 = .ok (.aload_n 0, 1) := by decide +kernel
theorem dX9_weight_39 : decode cX9_weight 39 = .ok (.getfield 32, 3) := by decide +kernel
theorem dX9_weight_42 : decode cX9_weight 42 = .ok (.iload_n 3, 1) := by decide +kernel
theorem dX9_weight_43 : decode cX9_weight 43 = .ok (.iaload, 1) := by decide +kernel
theorem dX9_weight_44 : decode cX9_weight 44 = .ok (.iconst 4, 1) := by decide +kernel
theorem dX9_weight_45 : decode cX9_weight 45 = .ok (.if_icmp .eq 26, 3) := by decide +kernel
theorem dX9_weight_48 : decode cX9_weight 48 = .ok (.iload 4, 2) := by decide +kernel
theorem dX9_weight_50 : decode cX9_weight 50 = .ok (.i2l, 1) := by decide +kernel
theorem dX9_weight_51 : decode cX9_weight 51 = .ok (.lconst 0, 1) := by decide +kernel
theorem dX9_weight_52 : decode cX9_weight 52 = .ok (.aload_n 0, 1) := by decide +kernel
theorem dX9_weight_53 : decode cX9_weight 53 = .ok (.getfield 101, 3) := by decide +kernel
theorem dX9_weight_56 : decode cX9_weight 56 = .ok (.i2l, 1) := by decide +kernel
theorem dX9_weight_57 : decode cX9_weight 57 = .ok (.invokestatic 91, 3) := by decide +kernel
theorem dX9_weight_60 : decode cX9_weight 60 = .ok (.ifCond .eq 11, 3) := by decide +kernel
theorem dX9_weight_63 : decode cX9_weight 63 = .ok (.iload 5, 2) := by decide +kernel
theorem dX9_weight_65 : decode cX9_weight 65 = .ok (.invokestatic 219, 3) := by decide +kernel
theorem dX9_weight_68 : decode cX9_weight 68 = .ok (.ifCond .ne 5, 3) := by decide +kernel
theorem dX9_weight_71 : decode cX9_weight 71 = .ok (.iconst (-1), 1) := by decide +kernel
theorem dX9_weight_72 : decode cX9_weight 72 = .ok (.ireturn, 1) := by decide +kernel
theorem dX9_weight_73 : decode cX9_weight 73 = .ok (.aload_n 0, 1) := by decide +kernel
theorem dX9_weight_74 : decode cX9_weight 74 = .ok (.iload_n 3, 1) := by decide +kernel
theorem dX9_weight_75 : decode cX9_weight 75 = .ok (.iload_n 1, 1) := by decide +kernel
theorem dX9_weight_76 : decode cX9_weight 76 = .ok (.iload 4, 2) := by decide +kernel
theorem dX9_weight_78 : decode cX9_weight 78 = .ok (.iload 5, 2) := by decide +kernel
theorem dX9_weight_80 : decode cX9_weight 80 = .ok (.invokevirtual 222, 3) := by decide +kernel
theorem dX9_weight_83 : decode cX9_weight 83 = .ok (.ifCond .ge 8, 3) := by decide +kernel
theorem dX9_weight_86 : decode cX9_weight 86 = .ok (.bipush (-4), 2) := by decide +kernel
theorem dX9_weight_88 : decode cX9_weight 88 = .ok (.goto 19, 3) := by decide +kernel
theorem dX9_weight_91 : decode cX9_weight 91 = .ok (.aload_n 0, 1) := by decide +kernel
theorem dX9_weight_92 : decode cX9_weight 92 = .ok (.iload_n 3, 1) := by decide +kernel
theorem dX9_weight_93 : decode cX9_weight 93 = .ok (.aload_n 0, 1) := by decide +kernel
theorem dX9_weight_94 : decode cX9_weight 94 = .ok (.getfield 35, 3) := by decide +kernel
theorem dX9_weight_97 : decode cX9_weight 97 = .ok (.iload_n 2, 1) := by decide +kernel
theorem dX9_weight_98 : decode cX9_weight 98 = .ok (.iaload, 1) := by decide +kernel
theorem dX9_weight_99 : decode cX9_weight 99 = .ok (.iload_n 1, 1) := by decide +kernel
theorem dX9_weight_100 : decode cX9_weight 100 = .ok (.iload 4, 2) := by decide +kernel
theorem dX9_weight_102 : decode cX9_weight 102 = .ok (.iload 5, 2) := by decide +kernel
theorem dX9_weight_104 : decode cX9_weight 104 = .ok (.invokevirtual 211, 3) := by decide +kernel
theorem dX9_weight_107 : decode cX9_weight 107 = .ok (.ireturn, 1) := by decide +kernel
theorem dX9_size_0 : decode cX9_size 0 = .ok (.iload_n 0, 1) := by decide +kernel
theorem dX9_size_1 : decode cX9_size 1 = .ok (.ifCond .ge 8, 3) := by decide +kernel
theorem dX9_size_4 : decode cX9_size 4 = .ok (.iload_n 0, 1) := by decide +kernel
theorem dX9_size_5 : decode cX9_size 5 = .ok (.ineg, 1) := by decide +kernel
theorem dX9_size_6 : decode cX9_size 6 = .ok (.goto 4, 3) := by decide +kernel
theorem dX9_size_9 : decode cX9_size 9 = .ok (.iload_n 0, 1) := by decide +kernel
theorem dX9_size_10 : decode cX9_size 10 = .ok (.ireturn, 1) := by decide +kernel
theorem dX9_layDay_0 : decode cX9_layDay 0 = .ok (.aload_n 0, 1) := by decide +kernel
theorem dX9_layDay_1 : decode cX9_layDay 1 = .ok (.iload_n 3, 1) := by decide +kernel
theorem dX9_layDay_2 : decode cX9_layDay 2 = .ok (.iload_n 1, 1) := by decide +kernel
theorem dX9_layDay_3 : decode cX9_layDay 3 = .ok (.aload_n 0, 1) := by decide +kernel
theorem dX9_layDay_4 : decode cX9_layDay 4 = .ok (.getfield 101, 3) := by decide +kernel
theorem dX9_layDay_7 : decode cX9_layDay 7 = .ok (.invokevirtual 113, 3) := by decide +kernel
theorem dX9_layDay_10 : decode cX9_layDay 10 = .ok (.istore 4, 2) := by decide +kernel
theorem dX9_layDay_12 : decode cX9_layDay 12 = .ok (.aload_n 0, 1) := by decide +kernel
theorem dX9_layDay_13 : decode cX9_layDay 13 = .ok (.getfield 53, 3) := by decide +kernel
theorem dX9_layDay_16 : decode cX9_layDay 16 = .ok (.iload_n 1, 1) := by decide +kernel
theorem dX9_layDay_17 : decode cX9_layDay 17 = .ok (.iload 4, 2) := by decide +kernel
theorem dX9_layDay_19 : decode cX9_layDay 19 = .ok (.ifCond .lt 11, 3) := by decide +kernel
theorem dX9_layDay_22 : decode cX9_layDay 22 = .ok (.iload_n 2, 1) := by decide +kernel
theorem dX9_layDay_23 : decode cX9_layDay 23 = .ok (.ifCond .lt 7, 3) := by decide +kernel
theorem dX9_layDay_26 : decode cX9_layDay 26 = .ok (.iconst 1, 1) := by decide +kernel
theorem dX9_layDay_27 : decode cX9_layDay 27 = .ok (.goto 4, 3) := by decide +kernel
theorem dX9_layDay_30 : decode cX9_layDay 30 = .ok (.iconst 0, 1) := by decide +kernel
theorem dX9_layDay_31 : decode cX9_layDay 31 = .ok (.bastore, 1) := by decide +kernel
theorem dX9_layDay_32 : decode cX9_layDay 32 = .ok (.aload_n 0, 1) := by decide +kernel
theorem dX9_layDay_33 : decode cX9_layDay 33 = .ok (.getfield 50, 3) := by decide +kernel
theorem dX9_layDay_36 : decode cX9_layDay 36 = .ok (.iload_n 1, 1) := by decide +kernel
theorem dX9_layDay_37 : decode cX9_layDay 37 = .ok (.aload_n 0, 1) := by decide +kernel
theorem dX9_layDay_38 : decode cX9_layDay 38 = .ok (.getfield 53, 3) := by decide +kernel
theorem dX9_layDay_41 : decode cX9_layDay 41 = .ok (.iload_n 1, 1) := by decide +kernel
theorem dX9_layDay_42 : decode cX9_layDay 42 = .ok (.baload, 1) := by decide +kernel
theorem dX9_layDay_43 : decode cX9_layDay 43 = .ok (.ifCond .eq 10, 3) := by decide +kernel
theorem dX9_layDay_46 : decode cX9_layDay 46 = .ok (.iload 4, 2) := by decide +kernel
theorem dX9_layDay_48 : decode cX9_layDay 48 = .ok (.iload_n 2, 1) := by decide +kernel
theorem dX9_layDay_49 : decode cX9_layDay 49 = .ok (.isub, 1) := by decide +kernel
theorem dX9_layDay_50 : decode cX9_layDay 50 = .ok (.goto 4, 3) := by decide +kernel
theorem dX9_layDay_53 : decode cX9_layDay 53 = .ok (.iconst 0, 1) := by decide +kernel
theorem dX9_layDay_54 : decode cX9_layDay 54 = .ok (.iastore, 1) := by decide +kernel
theorem dX9_layDay_55 : decode cX9_layDay 55 = .ok (.return_, 1) := by decide +kernel
theorem dX9_layMisses_0 : decode cX9_layMisses 0 = .ok (.iload 4, 2) := by decide +kernel
theorem dX9_layMisses_2 : decode cX9_layMisses 2 = .ok (.istore 6, 2) := by decide +kernel
theorem dX9_layMisses_4 : decode cX9_layMisses 4 = .ok (.iload 6, 2) := by decide +kernel
theorem dX9_layMisses_6 : decode cX9_layMisses 6 = .ok (.iload 5, 2) := by decide +kernel
theorem dX9_layMisses_8 : decode cX9_layMisses 8 = .ok (.if_icmp .gt 48, 3) := by decide +kernel
theorem dX9_layMisses_11 : decode cX9_layMisses 11 = .ok (.aload_n 0, 1) := by decide +kernel
theorem dX9_layMisses_12 : decode cX9_layMisses 12 = .ok (.iload 6, 2) := by decide +kernel
theorem dX9_layMisses_14 : decode cX9_layMisses 14 = .ok (.iload 6, 2) := by decide +kernel
theorem dX9_layMisses_16 : decode cX9_layMisses 16 = .ok (.iload_n 3, 1) := by decide +kernel
theorem dX9_layMisses_17 : decode cX9_layMisses 17 = .ok (.if_icmp .lt 14, 3) := by decide +kernel
theorem dX9_layMisses_20 : decode cX9_layMisses 20 = .ok (.iload 6, 2) := by decide +kernel
theorem dX9_layMisses_22 : decode cX9_layMisses 22 = .ok (.iload_n 3, 1) := by decide +kernel
theorem dX9_layMisses_23 : decode cX9_layMisses 23 = .ok (.isub, 1) := by decide +kernel
theorem dX9_layMisses_24 : decode cX9_layMisses 24 = .ok (.aload_n 0, 1) := by decide +kernel
theorem dX9_layMisses_25 : decode cX9_layMisses 25 = .ok (.getfield 101, 3) := by decide +kernel
theorem dX9_layMisses_28 : decode cX9_layMisses 28 = .ok (.if_icmp .le 7, 3) := by decide +kernel
theorem dX9_layMisses_31 : decode cX9_layMisses 31 = .ok (.iconst (-1), 1) := by decide +kernel
theorem dX9_layMisses_32 : decode cX9_layMisses 32 = .ok (.goto 14, 3) := by decide +kernel
theorem dX9_layMisses_35 : decode cX9_layMisses 35 = .ok (.aload_n 0, 1) := by decide +kernel
theorem dX9_layMisses_36 : decode cX9_layMisses 36 = .ok (.iload_n 2, 1) := by decide +kernel
theorem dX9_layMisses_37 : decode cX9_layMisses 37 = .ok (.iload_n 1, 1) := by decide +kernel
theorem dX9_layMisses_38 : decode cX9_layMisses 38 = .ok (.iload 6, 2) := by decide +kernel
theorem dX9_layMisses_40 : decode cX9_layMisses 40 = .ok (.iload_n 3, 1) := by decide +kernel
theorem dX9_layMisses_41 : decode cX9_layMisses 41 = .ok (.isub, 1) := by decide +kernel
theorem dX9_layMisses_42 : decode cX9_layMisses 42 = .ok (.iload_n 3, 1) := by decide +kernel
theorem dX9_layMisses_43 : decode cX9_layMisses 43 = .ok (.invokevirtual 222, 3) := by decide +kernel
theorem dX9_layMisses_46 : decode cX9_layMisses 46 = .ok (.iload_n 1, 1) := by decide +kernel
theorem dX9_layMisses_47 : decode cX9_layMisses 47 = .ok (.invokevirtual 225, 3) := by decide +kernel
theorem dX9_layMisses_50 : decode cX9_layMisses 50 = .ok (.iinc 6 1, 3) := by decide +kernel
theorem dX9_layMisses_53 : decode cX9_layMisses 53 = .ok (.goto (-49), 3) := by decide +kernel
theorem dX9_layMisses_56 : decode cX9_layMisses 56 = .ok (.return_, 1) := by decide +kernel
theorem dX9_areDays_0 : decode cX9_areDays 0 = .ok (.iload_n 0, 1) := by decide +kernel
theorem dX9_areDays_1 : decode cX9_areDays 1 = .ok (.invokestatic 97, 3) := by decide +kernel
theorem dX9_areDays_4 : decode cX9_areDays 4 = .ok (.ifCond .eq 20, 3) := by decide +kernel
theorem dX9_areDays_7 : decode cX9_areDays 7 = .ok (.iload_n 1, 1) := by decide +kernel
theorem dX9_areDays_8 : decode cX9_areDays 8 = .ok (.i2l, 1) := by decide +kernel
theorem dX9_areDays_9 : decode cX9_areDays 9 = .ok (.iload_n 0, 1) := by decide +kernel
theorem dX9_areDays_10 : decode cX9_areDays 10 = .ok (.i2l, 1) := by decide +kernel
theorem dX9_areDays_11 : decode cX9_areDays 11 = .ok (.ldc2_w 95, 3) := by decide +kernel
theorem dX9_areDays_14 : decode cX9_areDays 14 = .ok (.invokestatic 91, 3) := by decide +kernel
theorem dX9_areDays_17 : decode cX9_areDays 17 = .ok (.ifCond .eq 7, 3) := by decide +kernel
theorem dX9_areDays_20 : decode cX9_areDays 20 = .ok (.iconst 1, 1) := by decide +kernel
theorem dX9_areDays_21 : decode cX9_areDays 21 = .ok (.goto 4, 3) := by decide +kernel
theorem dX9_areDays_24 : decode cX9_areDays 24 = .ok (.iconst 0, 1) := by decide +kernel
theorem dX9_areDays_25 : decode cX9_areDays 25 = .ok (.ireturn, 1) := by decide +kernel
theorem dX9_isAsked_0 : decode cX9_isAsked 0 = .ok (.iload_n 1, 1) := by decide +kernel
theorem dX9_isAsked_1 : decode cX9_isAsked 1 = .ok (.invokestatic 108, 3) := by decide +kernel
theorem dX9_isAsked_4 : decode cX9_isAsked 4 = .ok (.ifCond .eq 32, 3) := by decide +kernel
theorem dX9_isAsked_7 : decode cX9_isAsked 7 = .ok (.aload_n 0, 1) := by decide +kernel
theorem dX9_isAsked_8 : decode cX9_isAsked 8 = .ok (.iload_n 2, 1) := by decide +kernel
theorem dX9_isAsked_9 : decode cX9_isAsked 9 = .ok (.invokevirtual 184, 3) := by decide +kernel
theorem dX9_isAsked_12 : decode cX9_isAsked 12 = .ok (.ifCond .eq 24, 3) := by decide +kernel
theorem dX9_isAsked_15 : decode cX9_isAsked 15 = .ok (.iload_n 3, 1) := by decide +kernel
theorem dX9_isAsked_16 : decode cX9_isAsked 16 = .ok (.invokestatic 219, 3) := by decide +kernel
theorem dX9_isAsked_19 : decode cX9_isAsked 19 = .ok (.ifCond .eq 17, 3) := by decide +kernel
theorem dX9_isAsked_22 : decode cX9_isAsked 22 = .ok (.iload 4, 2) := by decide +kernel
theorem dX9_isAsked_24 : decode cX9_isAsked 24 = .ok (.iload 5, 2) := by decide +kernel
theorem dX9_isAsked_26 : decode cX9_isAsked 26 = .ok (.invokestatic 228, 3) := by decide +kernel
theorem dX9_isAsked_29 : decode cX9_isAsked 29 = .ok (.ifCond .eq 7, 3) := by decide +kernel
theorem dX9_isAsked_32 : decode cX9_isAsked 32 = .ok (.iconst 1, 1) := by decide +kernel
theorem dX9_isAsked_33 : decode cX9_isAsked 33 = .ok (.goto 4, 3) := by decide +kernel
theorem dX9_isAsked_36 : decode cX9_isAsked 36 = .ok (.iconst 0, 1) := by decide +kernel
theorem dX9_isAsked_37 : decode cX9_isAsked 37 = .ok (.ireturn, 1) := by decide +kernel
theorem dX9_miss_0 : decode cX9_miss 0 = .ok (.aload_n 0, 1) := by decide +kernel
theorem dX9_miss_1 : decode cX9_miss 1 = .ok (.iload_n 1, 1) := by decide +kernel
theorem dX9_miss_2 : decode cX9_miss 2 = .ok (.iload_n 2, 1) := by decide +kernel
theorem dX9_miss_3 : decode cX9_miss 3 = .ok (.iload_n 3, 1) := by decide +kernel
theorem dX9_miss_4 : decode cX9_miss 4 = .ok (.iload 4, 2) := by decide +kernel
theorem dX9_miss_6 : decode cX9_miss 6 = .ok (.iload 4, 2) := by decide +kernel
theorem dX9_miss_8 : decode cX9_miss 8 = .ok (.invokevirtual 232, 3) := by decide +kernel
theorem dX9_miss_11 : decode cX9_miss 11 = .ok (.ifCond .ne 5, 3) := by decide +kernel
theorem dX9_miss_14 : decode cX9_miss 14 = .ok (.iconst (-1), 1) := by decide +kernel
theorem dX9_miss_15 : decode cX9_miss 15 = .ok (.ireturn, 1) := by decide +kernel
theorem dX9_miss_16 : decode cX9_miss 16 = .ok (.aload_n 0, 1) := by decide +kernel
theorem dX9_miss_17 : decode cX9_miss 17 = .ok (.iload_n 1, 1) := by decide +kernel
theorem dX9_miss_18 : decode cX9_miss 18 = .ok (.iload_n 2, 1) := by decide +kernel
theorem dX9_miss_19 : decode cX9_miss 19 = .ok (.iload_n 3, 1) := by decide +kernel
theorem dX9_miss_20 : decode cX9_miss 20 = .ok (.iload 4, 2) := by decide +kernel
theorem dX9_miss_22 : decode cX9_miss 22 = .ok (.iload 4, 2) := by decide +kernel
theorem dX9_miss_24 : decode cX9_miss 24 = .ok (.invokevirtual 236, 3) := by decide +kernel
theorem dX9_miss_27 : decode cX9_miss 27 = .ok (.aload_n 0, 1) := by decide +kernel
theorem dX9_miss_28 : decode cX9_miss 28 = .ok (.getfield 53, 3) := by decide +kernel
theorem dX9_miss_31 : decode cX9_miss 31 = .ok (.iload 4, 2) := by decide +kernel
theorem dX9_miss_33 : decode cX9_miss 33 = .ok (.baload, 1) := by decide +kernel
theorem dX9_miss_34 : decode cX9_miss 34 = .ok (.ifCond .eq 16, 3) := by decide +kernel
theorem dX9_miss_37 : decode cX9_miss 37 = .ok (.aload_n 0, 1) := by decide +kernel
theorem dX9_miss_38 : decode cX9_miss 38 = .ok (.getfield 50, 3) := by decide +kernel
theorem dX9_miss_41 : decode cX9_miss 41 = .ok (.iload 4, 2) := by decide +kernel
theorem dX9_miss_43 : decode cX9_miss 43 = .ok (.iaload, 1) := by decide +kernel
theorem dX9_miss_44 : decode cX9_miss 44 = .ok (.invokestatic 240, 3) := by decide +kernel
theorem dX9_miss_47 : decode cX9_miss 47 = .ok (.goto 5, 3) := by decide +kernel
theorem dX9_miss_50 : decode cX9_miss 50 = .ok (.bipush (-4), 2) := by decide +kernel
theorem dX9_miss_52 : decode cX9_miss 52 = .ok (.ireturn, 1) := by decide +kernel
theorem dX9_manyIn_0 : decode cX9_manyIn 0 = .ok (.iconst 0, 1) := by decide +kernel
theorem dX9_manyIn_1 : decode cX9_manyIn 1 = .ok (.istore_n 3, 1) := by decide +kernel
theorem dX9_manyIn_2 : decode cX9_manyIn 2 = .ok (.iload_n 1, 1) := by decide +kernel
theorem dX9_manyIn_3 : decode cX9_manyIn 3 = .ok (.istore 4, 2) := by decide +kernel
theorem dX9_manyIn_5 : decode cX9_manyIn 5 = .ok (.iload 4, 2) := by decide +kernel
theorem dX9_manyIn_7 : decode cX9_manyIn 7 = .ok (.iload_n 2, 1) := by decide +kernel
theorem dX9_manyIn_8 : decode cX9_manyIn 8 = .ok (.if_icmp .gt 27, 3) := by decide +kernel
theorem dX9_manyIn_11 : decode cX9_manyIn 11 = .ok (.iload_n 3, 1) := by decide +kernel
theorem dX9_manyIn_12 : decode cX9_manyIn 12 = .ok (.aload_n 0, 1) := by decide +kernel
theorem dX9_manyIn_13 : decode cX9_manyIn 13 = .ok (.getfield 53, 3) := by decide +kernel
theorem dX9_manyIn_16 : decode cX9_manyIn 16 = .ok (.iload 4, 2) := by decide +kernel
theorem dX9_manyIn_18 : decode cX9_manyIn 18 = .ok (.baload, 1) := by decide +kernel
theorem dX9_manyIn_19 : decode cX9_manyIn 19 = .ok (.ifCond .eq 7, 3) := by decide +kernel
theorem dX9_manyIn_22 : decode cX9_manyIn 22 = .ok (.iconst 1, 1) := by decide +kernel
theorem dX9_manyIn_23 : decode cX9_manyIn 23 = .ok (.goto 4, 3) := by decide +kernel
theorem dX9_manyIn_26 : decode cX9_manyIn 26 = .ok (.iconst 0, 1) := by decide +kernel
theorem dX9_manyIn_27 : decode cX9_manyIn 27 = .ok (.iadd, 1) := by decide +kernel
theorem dX9_manyIn_28 : decode cX9_manyIn 28 = .ok (.istore_n 3, 1) := by decide +kernel
theorem dX9_manyIn_29 : decode cX9_manyIn 29 = .ok (.iinc 4 1, 3) := by decide +kernel
theorem dX9_manyIn_32 : decode cX9_manyIn 32 = .ok (.goto (-27), 3) := by decide +kernel
theorem dX9_manyIn_35 : decode cX9_manyIn 35 = .ok (.iload_n 3, 1) := by decide +kernel
theorem dX9_manyIn_36 : decode cX9_manyIn 36 = .ok (.ireturn, 1) := by decide +kernel
theorem dX9_sumIn_0 : decode cX9_sumIn 0 = .ok (.iconst 0, 1) := by decide +kernel
theorem dX9_sumIn_1 : decode cX9_sumIn 1 = .ok (.istore_n 3, 1) := by decide +kernel
theorem dX9_sumIn_2 : decode cX9_sumIn 2 = .ok (.iload_n 1, 1) := by decide +kernel
theorem dX9_sumIn_3 : decode cX9_sumIn 3 = .ok (.istore 4, 2) := by decide +kernel
theorem dX9_sumIn_5 : decode cX9_sumIn 5 = .ok (.iload 4, 2) := by decide +kernel
theorem dX9_sumIn_7 : decode cX9_sumIn 7 = .ok (.iload_n 2, 1) := by decide +kernel
theorem dX9_sumIn_8 : decode cX9_sumIn 8 = .ok (.if_icmp .gt 22, 3) := by decide +kernel
theorem dX9_sumIn_11 : decode cX9_sumIn 11 = .ok (.iload_n 3, 1) := by decide +kernel
theorem dX9_sumIn_12 : decode cX9_sumIn 12 = .ok (.aload_n 0, 1) := by decide +kernel
theorem dX9_sumIn_13 : decode cX9_sumIn 13 = .ok (.getfield 50, 3) := by decide +kernel
theorem dX9_sumIn_16 : decode cX9_sumIn 16 = .ok (.iload 4, 2) := by decide +kernel
theorem dX9_sumIn_18 : decode cX9_sumIn 18 = .ok (.iaload, 1) := by decide +kernel
theorem dX9_sumIn_19 : decode cX9_sumIn 19 = .ok (.invokestatic 240, 3) := by decide +kernel
theorem dX9_sumIn_22 : decode cX9_sumIn 22 = .ok (.iadd, 1) := by decide +kernel
theorem dX9_sumIn_23 : decode cX9_sumIn 23 = .ok (.istore_n 3, 1) := by decide +kernel
theorem dX9_sumIn_24 : decode cX9_sumIn 24 = .ok (.iinc 4 1, 3) := by decide +kernel
theorem dX9_sumIn_27 : decode cX9_sumIn 27 = .ok (.goto (-22), 3) := by decide +kernel
theorem dX9_sumIn_30 : decode cX9_sumIn 30 = .ok (.iload_n 3, 1) := by decide +kernel
theorem dX9_sumIn_31 : decode cX9_sumIn 31 = .ok (.ireturn, 1) := by decide +kernel
theorem dX9_misses_0 : decode cX9_misses 0 = .ok (.aload_n 0, 1) := by decide +kernel
theorem dX9_misses_1 : decode cX9_misses 1 = .ok (.iload_n 1, 1) := by decide +kernel
theorem dX9_misses_2 : decode cX9_misses 2 = .ok (.iload_n 2, 1) := by decide +kernel
theorem dX9_misses_3 : decode cX9_misses 3 = .ok (.iload_n 3, 1) := by decide +kernel
theorem dX9_misses_4 : decode cX9_misses 4 = .ok (.iload 4, 2) := by decide +kernel
theorem dX9_misses_6 : decode cX9_misses 6 = .ok (.iload 5, 2) := by decide +kernel
theorem dX9_misses_8 : decode cX9_misses 8 = .ok (.invokevirtual 232, 3) := by decide +kernel
theorem dX9_misses_11 : decode cX9_misses 11 = .ok (.ifCond .eq 16, 3) := by decide +kernel
theorem dX9_misses_14 : decode cX9_misses 14 = .ok (.iload 6, 2) := by decide +kernel
theorem dX9_misses_16 : decode cX9_misses 16 = .ok (.i2l, 1) := by decide +kernel
theorem dX9_misses_17 : decode cX9_misses 17 = .ok (.lconst 0, 1) := by decide +kernel
theorem dX9_misses_18 : decode cX9_misses 18 = .ok (.ldc2_w 89, 3) := by decide +kernel
theorem dX9_misses_21 : decode cX9_misses 21 = .ok (.invokestatic 91, 3) := by decide +kernel
theorem dX9_misses_24 : decode cX9_misses 24 = .ok (.ifCond .ne 5, 3) := by decide +kernel
theorem dX9_misses_27 : decode cX9_misses 27 = .ok (.iconst (-1), 1) := by decide +kernel
theorem dX9_misses_28 : decode cX9_misses 28 = .ok (.ireturn, 1) := by decide +kernel
theorem dX9_misses_29 : decode cX9_misses 29 = .ok (.aload_n 0, 1) := by decide +kernel
theorem dX9_misses_30 : decode cX9_misses 30 = .ok (.iload_n 1, 1) := by decide +kernel
theorem dX9_misses_31 : decode cX9_misses 31 = .ok (.iload_n 2, 1) := by decide +kernel
theorem dX9_misses_32 : decode cX9_misses 32 = .ok (.iload_n 3, 1) := by decide +kernel
theorem dX9_misses_33 : decode cX9_misses 33 = .ok (.iload 4, 2) := by decide +kernel
theorem dX9_misses_35 : decode cX9_misses 35 = .ok (.iload 5, 2) := by decide +kernel
theorem dX9_misses_37 : decode cX9_misses 37 = .ok (.invokevirtual 236, 3) := by decide +kernel
theorem dX9_misses_40 : decode cX9_misses 40 = .ok (.bipush (-4), 2) := by decide +kernel
theorem dX9_misses_42 : decode cX9_misses 42 = .ok (.istore 7, 2) := by decide +kernel
theorem dX9_misses_44 : decode cX9_misses 44 = .ok (.bipush (-4), 2) := by decide +kernel
theorem dX9_misses_46 : decode cX9_misses 46 = .ok (.istore 8, 2) := by decide +kernel
theorem dX9_misses_48 : decode cX9_misses 48 = .ok (.iload 4, 2) := by decide +kernel
theorem dX9_misses_50 : decode cX9_misses 50 = .ok (.istore 9, 2) := by decide +kernel
theorem dX9_misses_52 : decode cX9_misses 52 = .ok (.iload 9, 2) := by decide +kernel
theorem dX9_misses_54 : decode cX9_misses 54 = .ok (.iload 5, 2) := by decide +kernel
theorem dX9_misses_56 : decode cX9_misses 56 = .ok (.if_icmp .gt 50, 3) := by decide +kernel
theorem dX9_misses_59 : decode cX9_misses 59 = .ok (.aload_n 0, 1) := by decide +kernel
theorem dX9_misses_60 : decode cX9_misses 60 = .ok (.getfield 53, 3) := by decide +kernel
theorem dX9_misses_63 : decode cX9_misses 63 = .ok (.iload 9, 2) := by decide +kernel
theorem dX9_misses_65 : decode cX9_misses 65 = .ok (.baload, 1) := by decide +kernel
theorem dX9_misses_66 : decode cX9_misses 66 = .ok (.ifCond .eq 34, 3) := by decide +kernel
theorem dX9_misses_69 : decode cX9_misses 69 = .ok (.aload_n 0, 1) := by decide +kernel
theorem dX9_misses_70 : decode cX9_misses 70 = .ok (.getfield 50, 3) := by decide +kernel
theorem dX9_misses_73 : decode cX9_misses 73 = .ok (.iload 9, 2) := by decide +kernel
theorem dX9_misses_75 : decode cX9_misses 75 = .ok (.iaload, 1) := by decide +kernel
theorem dX9_misses_76 : decode cX9_misses 76 = .ok (.invokestatic 240, 3) := by decide +kernel
theorem dX9_misses_79 : decode cX9_misses 79 = .ok (.iload 7, 2) := by decide +kernel
theorem dX9_misses_81 : decode cX9_misses 81 = .ok (.if_icmp .le 19, 3) := by decide +kernel
theorem dX9_misses_84 : decode cX9_misses 84 = .ok (.aload_n 0, 1) := by decide +kernel
theorem dX9_misses_85 : decode cX9_misses 85 = .ok (.getfield 50, 3) := by decide +kernel
theorem dX9_misses_88 : decode cX9_misses 88 = .ok (.iload 9, 2) := by decide +kernel
theorem dX9_misses_90 : decode cX9_misses 90 = .ok (.iaload, 1) := by decide +kernel
theorem dX9_misses_91 : decode cX9_misses 91 = .ok (.invokestatic 240, 3) := by decide +kernel
theorem dX9_misses_94 : decode cX9_misses 94 = .ok (.istore 7, 2) := by decide +kernel
theorem dX9_misses_96 : decode cX9_misses 96 = .ok (.iload 9, 2) := by decide +kernel
theorem dX9_misses_98 : decode cX9_misses 98 = .ok (.istore 8, 2) := by decide +kernel
theorem dX9_misses_100 : decode cX9_misses 100 = .ok (.iinc 9 1, 3) := by decide +kernel
theorem dX9_misses_103 : decode cX9_misses 103 = .ok (.goto (-51), 3) := by decide +kernel
theorem dX9_misses_106 : decode cX9_misses 106 = .ok (.iload 6, 2) := by decide +kernel
theorem dX9_misses_108 : decode cX9_misses 108 = .ok (.ifCond .ne 14, 3) := by decide +kernel
theorem dX9_misses_111 : decode cX9_misses 111 = .ok (.aload_n 0, 1) := by decide +kernel
theorem dX9_misses_112 : decode cX9_misses 112 = .ok (.iload 4, 2) := by decide +kernel
theorem dX9_misses_114 : decode cX9_misses 114 = .ok (.iload 5, 2) := by decide +kernel
theorem dX9_misses_116 : decode cX9_misses 116 = .ok (.invokevirtual 243, 3) := by decide +kernel
theorem dX9_misses_119 : decode cX9_misses 119 = .ok (.goto 33, 3) := by decide +kernel
theorem dX9_misses_122 : decode cX9_misses 122 = .ok (.iload 6, 2) := by decide +kernel
theorem dX9_misses_124 : decode cX9_misses 124 = .ok (.iconst 1, 1) := by decide +kernel
theorem dX9_misses_125 : decode cX9_misses 125 = .ok (.if_icmp .ne 14, 3) := by decide +kernel
theorem dX9_misses_128 : decode cX9_misses 128 = .ok (.aload_n 0, 1) := by decide +kernel
theorem dX9_misses_129 : decode cX9_misses 129 = .ok (.iload 4, 2) := by decide +kernel
theorem dX9_misses_131 : decode cX9_misses 131 = .ok (.iload 5, 2) := by decide +kernel
theorem dX9_misses_133 : decode cX9_misses 133 = .ok (.invokevirtual 246, 3) := by decide +kernel
theorem dX9_misses_136 : decode cX9_misses 136 = .ok (.goto 16, 3) := by decide +kernel
theorem dX9_misses_139 : decode cX9_misses 139 = .ok (.iload 6, 2) := by decide +kernel
theorem dX9_misses_141 : decode cX9_misses 141 = .ok (.iconst 2, 1) := by decide +kernel
theorem dX9_misses_142 : decode cX9_misses 142 = .ok (.if_icmp .ne 8, 3) := by decide +kernel
theorem dX9_misses_145 : decode cX9_misses 145 = .ok (.iload 7, 2) := by decide +kernel
theorem dX9_misses_147 : decode cX9_misses 147 = .ok (.goto 5, 3) := by decide +kernel
theorem dX9_misses_150 : decode cX9_misses 150 = .ok (.iload 8, 2) := by decide +kernel
theorem dX9_misses_152 : decode cX9_misses 152 = .ok (.ireturn, 1) := by decide +kernel
theorem dX9_best_0 : decode cX9_best 0 = .ok (.iload_n 1, 1) := by decide +kernel
theorem dX9_best_1 : decode cX9_best 1 = .ok (.invokestatic 108, 3) := by decide +kernel
theorem dX9_best_4 : decode cX9_best 4 = .ok (.ifCond .eq 19, 3) := by decide +kernel
theorem dX9_best_7 : decode cX9_best 7 = .ok (.iload_n 2, 1) := by decide +kernel
theorem dX9_best_8 : decode cX9_best 8 = .ok (.invokestatic 219, 3) := by decide +kernel
theorem dX9_best_11 : decode cX9_best 11 = .ok (.ifCond .eq 12, 3) := by decide +kernel
theorem dX9_best_14 : decode cX9_best 14 = .ok (.iload_n 3, 1) := by decide +kernel
theorem dX9_best_15 : decode cX9_best 15 = .ok (.iload 4, 2) := by decide +kernel
theorem dX9_best_17 : decode cX9_best 17 = .ok (.invokestatic 228, 3) := by decide +kernel
theorem dX9_best_20 : decode cX9_best 20 = .ok (.ifCond .ne 5, 3) := by decide +kernel
theorem dX9_best_23 : decode cX9_best 23 = .ok (.iconst (-1), 1) := by decide +kernel
theorem dX9_best_24 : decode cX9_best 24 = .ok (.ireturn, 1) := by decide +kernel
theorem dX9_best_25 : decode cX9_best 25 = .ok (.bipush (-4), 2) := by decide +kernel
theorem dX9_best_27 : decode cX9_best 27 = .ok (.istore 5, 2) := by decide +kernel
theorem dX9_best_29 : decode cX9_best 29 = .ok (.iconst 1, 1) := by decide +kernel
theorem dX9_best_30 : decode cX9_best 30 = .ok (.istore 6, 2) := by decide +kernel
theorem dX9_best_32 : decode cX9_best 32 = .ok (.iconst 0, 1) := by decide +kernel
theorem dX9_best_33 : decode cX9_best 33 = .ok (.istore 7, 2) := by decide +kernel
theorem dX9_best_35 : decode cX9_best 35 = .ok (.iconst 0, 1) := by decide +kernel
theorem dX9_best_36 : decode cX9_best 36 = .ok (.istore 8, 2) := by decide +kernel
theorem dX9_best_38 : decode cX9_best 38 = .ok (.iload 8, 2) := by decide +kernel
theorem dX9_best_40 : decode cX9_best 40 = .ok (.aload_n 0, 1) := by decide +kernel
theorem dX9_best_41 : decode cX9_best 41 = .ok (.getfield 181, 3) := by decide +kernel
theorem dX9_best_44 : decode cX9_best 44 = .ok (.if_icmp .ge 75, 3) := by decide +kernel
theorem dX9_best_47 : decode cX9_best 47 = .ok (.aload_n 0, 1) := by decide +kernel
theorem dX9_best_48 : decode cX9_best 48 = .ok (.iload_n 1, 1) := by decide +kernel
theorem dX9_best_49 : decode cX9_best 49 = .ok (.iload 8, 2) := by decide +kernel
theorem dX9_best_51 : decode cX9_best 51 = .ok (.iload_n 2, 1) := by decide +kernel
theorem dX9_best_52 : decode cX9_best 52 = .ok (.iload_n 3, 1) := by decide +kernel
theorem dX9_best_53 : decode cX9_best 53 = .ok (.iload 4, 2) := by decide +kernel
theorem dX9_best_55 : decode cX9_best 55 = .ok (.invokevirtual 236, 3) := by decide +kernel
theorem dX9_best_58 : decode cX9_best 58 = .ok (.aload_n 0, 1) := by decide +kernel
theorem dX9_best_59 : decode cX9_best 59 = .ok (.iload_n 3, 1) := by decide +kernel
theorem dX9_best_60 : decode cX9_best 60 = .ok (.iload 4, 2) := by decide +kernel
theorem dX9_best_62 : decode cX9_best 62 = .ok (.invokevirtual 243, 3) := by decide +kernel
theorem dX9_best_65 : decode cX9_best 65 = .ok (.istore 9, 2) := by decide +kernel
theorem dX9_best_67 : decode cX9_best 67 = .ok (.aload_n 0, 1) := by decide +kernel
theorem dX9_best_68 : decode cX9_best 68 = .ok (.iload_n 3, 1) := by decide +kernel
theorem dX9_best_69 : decode cX9_best 69 = .ok (.iload 4, 2) := by decide +kernel
theorem dX9_best_71 : decode cX9_best 71 = .ok (.invokevirtual 246, 3) := by decide +kernel
theorem dX9_best_74 : decode cX9_best 74 = .ok (.istore 10, 2) := by decide +kernel
theorem dX9_best_76 : decode cX9_best 76 = .ok (.iload 9, 2) := by decide +kernel
theorem dX9_best_78 : decode cX9_best 78 = .ok (.ifCond .le 35, 3) := by decide +kernel
theorem dX9_best_81 : decode cX9_best 81 = .ok (.iload 5, 2) := by decide +kernel
theorem dX9_best_83 : decode cX9_best 83 = .ok (.bipush (-4), 2) := by decide +kernel
theorem dX9_best_85 : decode cX9_best 85 = .ok (.if_icmp .eq 16, 3) := by decide +kernel
theorem dX9_best_88 : decode cX9_best 88 = .ok (.iload 10, 2) := by decide +kernel
theorem dX9_best_90 : decode cX9_best 90 = .ok (.iload 6, 2) := by decide +kernel
theorem dX9_best_92 : decode cX9_best 92 = .ok (.imul, 1) := by decide +kernel
theorem dX9_best_93 : decode cX9_best 93 = .ok (.iload 7, 2) := by decide +kernel
theorem dX9_best_95 : decode cX9_best 95 = .ok (.iload 9, 2) := by decide +kernel
theorem dX9_best_97 : decode cX9_best 97 = .ok (.imul, 1) := by decide +kernel
theorem dX9_best_98 : decode cX9_best 98 = .ok (.if_icmp .ge 15, 3) := by decide +kernel
theorem dX9_best_101 : decode cX9_best 101 = .ok (.iload 8, 2) := by decide +kernel
theorem dX9_best_103 : decode cX9_best 103 = .ok (.istore 5, 2) := by decide +kernel
theorem dX9_best_105 : decode cX9_best 105 = .ok (.iload 9, 2) := by decide +kernel
theorem dX9_best_107 : decode cX9_best 107 = .ok (.istore 6, 2) := by decide +kernel
theorem dX9_best_109 : decode cX9_best 109 = .ok (.iload 10, 2) := by decide +kernel
theorem dX9_best_111 : decode cX9_best 111 = .ok (.istore 7, 2) := by decide +kernel
theorem dX9_best_113 : decode cX9_best 113 = .ok (.iinc 8 1, 3) := by decide +kernel
theorem dX9_best_116 : decode cX9_best 116 = .ok (.goto (-78), 3) := by decide +kernel
theorem dX9_best_119 : decode cX9_best 119 = .ok (.iload 5, 2) := by decide +kernel
theorem dX9_best_121 : decode cX9_best 121 = .ok (.ireturn, 1) := by decide +kernel
theorem dX9_fit_0 : decode cX9_fit 0 = .ok (.iload_n 1, 1) := by decide +kernel
theorem dX9_fit_1 : decode cX9_fit 1 = .ok (.invokestatic 108, 3) := by decide +kernel
theorem dX9_fit_4 : decode cX9_fit 4 = .ok (.ifCond .eq 45, 3) := by decide +kernel
theorem dX9_fit_7 : decode cX9_fit 7 = .ok (.iload_n 2, 1) := by decide +kernel
theorem dX9_fit_8 : decode cX9_fit 8 = .ok (.i2l, 1) := by decide +kernel
theorem dX9_fit_9 : decode cX9_fit 9 = .ok (.lconst 0, 1) := by decide +kernel
theorem dX9_fit_10 : decode cX9_fit 10 = .ok (.ldc2_w 89, 3) := by decide +kernel
theorem dX9_fit_13 : decode cX9_fit 13 = .ok (.invokestatic 91, 3) := by decide +kernel
theorem dX9_fit_16 : decode cX9_fit 16 = .ok (.ifCond .eq 33, 3) := by decide +kernel
theorem dX9_fit_19 : decode cX9_fit 19 = .ok (.iload_n 3, 1) := by decide +kernel
theorem dX9_fit_20 : decode cX9_fit 20 = .ok (.invokestatic 219, 3) := by decide +kernel
theorem dX9_fit_23 : decode cX9_fit 23 = .ok (.ifCond .eq 26, 3) := by decide +kernel
theorem dX9_fit_26 : decode cX9_fit 26 = .ok (.iload 4, 2) := by decide +kernel
theorem dX9_fit_28 : decode cX9_fit 28 = .ok (.iload 5, 2) := by decide +kernel
theorem dX9_fit_30 : decode cX9_fit 30 = .ok (.invokestatic 228, 3) := by decide +kernel
theorem dX9_fit_33 : decode cX9_fit 33 = .ok (.ifCond .eq 16, 3) := by decide +kernel
theorem dX9_fit_36 : decode cX9_fit 36 = .ok (.iload 6, 2) := by decide +kernel
theorem dX9_fit_38 : decode cX9_fit 38 = .ok (.i2l, 1) := by decide +kernel
theorem dX9_fit_39 : decode cX9_fit 39 = .ok (.lconst 0, 1) := by decide +kernel
theorem dX9_fit_40 : decode cX9_fit 40 = .ok (.ldc2_w 249, 3) := by decide +kernel
theorem dX9_fit_43 : decode cX9_fit 43 = .ok (.invokestatic 91, 3) := by decide +kernel
theorem dX9_fit_46 : decode cX9_fit 46 = .ok (.ifCond .ne 5, 3) := by decide +kernel
theorem dX9_fit_49 : decode cX9_fit 49 = .ok (.iconst (-1), 1) := by decide +kernel
theorem dX9_fit_50 : decode cX9_fit 50 = .ok (.ireturn, 1) := by decide +kernel
theorem dX9_fit_51 : decode cX9_fit 51 = .ok (.bipush (-4), 2) := by decide +kernel
theorem dX9_fit_53 : decode cX9_fit 53 = .ok (.istore 7, 2) := by decide +kernel
theorem dX9_fit_55 : decode cX9_fit 55 = .ok (.iconst 0, 1) := by decide +kernel
theorem dX9_fit_56 : decode cX9_fit 56 = .ok (.istore 8, 2) := by decide +kernel
theorem dX9_fit_58 : decode cX9_fit 58 = .ok (.iconst 0, 1) := by decide +kernel
theorem dX9_fit_59 : decode cX9_fit 59 = .ok (.istore 9, 2) := by decide +kernel
theorem dX9_fit_61 : decode cX9_fit 61 = .ok (.iload_n 2, 1) := by decide +kernel
theorem dX9_fit_62 : decode cX9_fit 62 = .ok (.iconst 2, 1) := by decide +kernel
theorem dX9_fit_63 : decode cX9_fit 63 = .ok (.if_icmp .ne 7, 3) := by decide +kernel
theorem dX9_fit_66 : decode cX9_fit 66 = .ok (.iconst 0, 1) := by decide +kernel
theorem dX9_fit_67 : decode cX9_fit 67 = .ok (.goto 4, 3) := by decide +kernel
theorem dX9_fit_70 : decode cX9_fit 70 = .ok (.iconst 1, 1) := by decide +kernel
theorem dX9_fit_71 : decode cX9_fit 71 = .ok (.istore 10, 2) := by decide +kernel
theorem dX9_fit_73 : decode cX9_fit 73 = .ok (.iload 10, 2) := by decide +kernel
theorem dX9_fit_75 : decode cX9_fit 75 = .ok (.iload_n 2, 1) := by decide +kernel
theorem dX9_fit_76 : decode cX9_fit 76 = .ok (.iconst 2, 1) := by decide +kernel
theorem dX9_fit_77 : decode cX9_fit 77 = .ok (.if_icmp .ne 8, 3) := by decide +kernel
theorem dX9_fit_80 : decode cX9_fit 80 = .ok (.bipush 120, 2) := by decide +kernel
theorem dX9_fit_82 : decode cX9_fit 82 = .ok (.goto 5, 3) := by decide +kernel
theorem dX9_fit_85 : decode cX9_fit 85 = .ok (.bipush 8, 2) := by decide +kernel
theorem dX9_fit_87 : decode cX9_fit 87 = .ok (.if_icmp .gt 176, 3) := by decide +kernel
theorem dX9_fit_90 : decode cX9_fit 90 = .ok (.iload_n 2, 1) := by decide +kernel
theorem dX9_fit_91 : decode cX9_fit 91 = .ok (.iconst 2, 1) := by decide +kernel
theorem dX9_fit_92 : decode cX9_fit 92 = .ok (.if_icmp .ne 11, 3) := by decide +kernel
theorem dX9_fit_95 : decode cX9_fit 95 = .ok (.iload 10, 2) := by decide +kernel
theorem dX9_fit_97 : decode cX9_fit 97 = .ok (.bipush 11, 2) := by decide +kernel
theorem dX9_fit_99 : decode cX9_fit 99 = .ok (.idiv, 1) := by decide +kernel
theorem dX9_fit_100 : decode cX9_fit 100 = .ok (.goto 5, 3) := by decide +kernel
theorem dX9_fit_103 : decode cX9_fit 103 = .ok (.iload 10, 2) := by decide +kernel
theorem dX9_fit_105 : decode cX9_fit 105 = .ok (.istore 11, 2) := by decide +kernel
theorem dX9_fit_107 : decode cX9_fit 107 = .ok (.iload_n 2, 1) := by decide +kernel
theorem dX9_fit_108 : decode cX9_fit 108 = .ok (.iconst 2, 1) := by decide +kernel
theorem dX9_fit_109 : decode cX9_fit 109 = .ok (.if_icmp .ne 11, 3) := by decide +kernel
theorem dX9_fit_112 : decode cX9_fit 112 = .ok (.iload 10, 2) := by decide +kernel
theorem dX9_fit_114 : decode cX9_fit 114 = .ok (.bipush 11, 2) := by decide +kernel
theorem dX9_fit_116 : decode cX9_fit 116 = .ok (.irem, 1) := by decide +kernel
theorem dX9_fit_117 : decode cX9_fit 117 = .ok (.goto 4, 3) := by decide +kernel
theorem dX9_fit_120 : decode cX9_fit 120 = .ok (.iconst 0, 1) := by decide +kernel
theorem dX9_fit_121 : decode cX9_fit 121 = .ok (.istore 12, 2) := by decide +kernel
theorem dX9_fit_123 : decode cX9_fit 123 = .ok (.iload 4, 2) := by decide +kernel
theorem dX9_fit_125 : decode cX9_fit 125 = .ok (.istore 13, 2) := by decide +kernel
theorem dX9_fit_127 : decode cX9_fit 127 = .ok (.iload 13, 2) := by decide +kernel
theorem dX9_fit_129 : decode cX9_fit 129 = .ok (.iload 5, 2) := by decide +kernel
theorem dX9_fit_131 : decode cX9_fit 131 = .ok (.if_icmp .gt 52, 3) := by decide +kernel
theorem dX9_fit_134 : decode cX9_fit 134 = .ok (.aload_n 0, 1) := by decide +kernel
theorem dX9_fit_135 : decode cX9_fit 135 = .ok (.iload 13, 2) := by decide +kernel
theorem dX9_fit_137 : decode cX9_fit 137 = .ok (.iload 13, 2) := by decide +kernel
theorem dX9_fit_139 : decode cX9_fit 139 = .ok (.iload_n 3, 1) := by decide +kernel
theorem dX9_fit_140 : decode cX9_fit 140 = .ok (.if_icmp .lt 14, 3) := by decide +kernel
theorem dX9_fit_143 : decode cX9_fit 143 = .ok (.iload 13, 2) := by decide +kernel
theorem dX9_fit_145 : decode cX9_fit 145 = .ok (.iload_n 3, 1) := by decide +kernel
theorem dX9_fit_146 : decode cX9_fit 146 = .ok (.isub, 1) := by decide +kernel
theorem dX9_fit_147 : decode cX9_fit 147 = .ok (.aload_n 0, 1) := by decide +kernel
theorem dX9_fit_148 : decode cX9_fit 148 = .ok (.getfield 101, 3) := by decide +kernel
theorem dX9_fit_151 : decode cX9_fit 151 = .ok (.if_icmp .le 7, 3) := by decide +kernel
theorem dX9_fit_154 : decode cX9_fit 154 = .ok (.iconst (-1), 1) := by decide +kernel
theorem dX9_fit_155 : decode cX9_fit 155 = .ok (.goto 18, 3) := by decide +kernel
theorem dX9_fit_158 : decode cX9_fit 158 = .ok (.aload_n 0, 1) := by decide +kernel
theorem dX9_fit_159 : decode cX9_fit 159 = .ok (.iload_n 2, 1) := by decide +kernel
theorem dX9_fit_160 : decode cX9_fit 160 = .ok (.iload 11, 2) := by decide +kernel
theorem dX9_fit_162 : decode cX9_fit 162 = .ok (.iload 12, 2) := by decide +kernel
theorem dX9_fit_164 : decode cX9_fit 164 = .ok (.iload_n 1, 1) := by decide +kernel
theorem dX9_fit_165 : decode cX9_fit 165 = .ok (.iload 13, 2) := by decide +kernel
theorem dX9_fit_167 : decode cX9_fit 167 = .ok (.iload_n 3, 1) := by decide +kernel
theorem dX9_fit_168 : decode cX9_fit 168 = .ok (.isub, 1) := by decide +kernel
theorem dX9_fit_169 : decode cX9_fit 169 = .ok (.iload_n 3, 1) := by decide +kernel
theorem dX9_fit_170 : decode cX9_fit 170 = .ok (.invokevirtual 207, 3) := by decide +kernel
theorem dX9_fit_173 : decode cX9_fit 173 = .ok (.iload_n 1, 1) := by decide +kernel
theorem dX9_fit_174 : decode cX9_fit 174 = .ok (.invokevirtual 225, 3) := by decide +kernel
theorem dX9_fit_177 : decode cX9_fit 177 = .ok (.iinc 13 1, 3) := by decide +kernel
theorem dX9_fit_180 : decode cX9_fit 180 = .ok (.goto (-53), 3) := by decide +kernel
theorem dX9_fit_183 : decode cX9_fit 183 = .ok (.aload_n 0, 1) := by decide +kernel
theorem dX9_fit_184 : decode cX9_fit 184 = .ok (.iload 4, 2) := by decide +kernel
theorem dX9_fit_186 : decode cX9_fit 186 = .ok (.iload 5, 2) := by decide +kernel
theorem dX9_fit_188 : decode cX9_fit 188 = .ok (.invokevirtual 243, 3) := by decide +kernel
theorem dX9_fit_191 : decode cX9_fit 191 = .ok (.istore 13, 2) := by decide +kernel
theorem dX9_fit_193 : decode cX9_fit 193 = .ok (.aload_n 0, 1) := by decide +kernel
theorem dX9_fit_194 : decode cX9_fit 194 = .ok (.iload 4, 2) := by decide +kernel
theorem dX9_fit_196 : decode cX9_fit 196 = .ok (.iload 5, 2) := by decide +kernel
theorem dX9_fit_198 : decode cX9_fit 198 = .ok (.invokevirtual 246, 3) := by decide +kernel
theorem dX9_fit_201 : decode cX9_fit 201 = .ok (.istore 14, 2) := by decide +kernel
theorem dX9_fit_203 : decode cX9_fit 203 = .ok (.iload 13, 2) := by decide +kernel
theorem dX9_fit_205 : decode cX9_fit 205 = .ok (.iload 8, 2) := by decide +kernel
theorem dX9_fit_207 : decode cX9_fit 207 = .ok (.if_icmp .gt 22, 3) := by decide +kernel
theorem dX9_fit_210 : decode cX9_fit 210 = .ok (.iload 13, 2) := by decide +kernel
theorem dX9_fit_212 : decode cX9_fit 212 = .ok (.iload 8, 2) := by decide +kernel
theorem dX9_fit_214 : decode cX9_fit 214 = .ok (.if_icmp .ne 43, 3) := by decide +kernel
theorem dX9_fit_217 : decode cX9_fit 217 = .ok (.iload 13, 2) := by decide +kernel
theorem dX9_fit_219 : decode cX9_fit 219 = .ok (.ifCond .le 38, 3) := by decide +kernel
theorem dX9_fit_222 : decode cX9_fit 222 = .ok (.iload 14, 2) := by decide +kernel
theorem dX9_fit_224 : decode cX9_fit 224 = .ok (.iload 9, 2) := by decide +kernel
theorem dX9_fit_226 : decode cX9_fit 226 = .ok (.if_icmp .ge 31, 3) := by decide +kernel
theorem dX9_fit_229 : decode cX9_fit 229 = .ok (.iload_n 2, 1) := by decide +kernel
theorem dX9_fit_230 : decode cX9_fit 230 = .ok (.iconst 2, 1) := by decide +kernel
theorem dX9_fit_231 : decode cX9_fit 231 = .ok (.if_icmp .ne 14, 3) := by decide +kernel
theorem dX9_fit_234 : decode cX9_fit 234 = .ok (.bipush 10, 2) := by decide +kernel
theorem dX9_fit_236 : decode cX9_fit 236 = .ok (.iload 11, 2) := by decide +kernel
theorem dX9_fit_238 : decode cX9_fit 238 = .ok (.imul, 1) := by decide +kernel
theorem dX9_fit_239 : decode cX9_fit 239 = .ok (.iload 12, 2) := by decide +kernel
theorem dX9_fit_241 : decode cX9_fit 241 = .ok (.iadd, 1) := by decide +kernel
theorem dX9_fit_242 : decode cX9_fit 242 = .ok (.goto 5, 3) := by decide +kernel
theorem dX9_fit_245 : decode cX9_fit 245 = .ok (.iload 10, 2) := by decide +kernel
theorem dX9_fit_247 : decode cX9_fit 247 = .ok (.istore 7, 2) := by decide +kernel
theorem dX9_fit_249 : decode cX9_fit 249 = .ok (.iload 13, 2) := by decide +kernel
theorem dX9_fit_251 : decode cX9_fit 251 = .ok (.istore 8, 2) := by decide +kernel
theorem dX9_fit_253 : decode cX9_fit 253 = .ok (.iload 14, 2) := by decide +kernel
theorem dX9_fit_255 : decode cX9_fit 255 = .ok (.istore 9, 2) := by decide +kernel
theorem dX9_fit_257 : decode cX9_fit 257 = .ok (.iinc 10 1, 3) := by decide +kernel
theorem dX9_fit_260 : decode cX9_fit 260 = .ok (.goto (-187), 3) := by decide +kernel
theorem dX9_fit_263 : decode cX9_fit 263 = .ok (.iload 7, 2) := by decide +kernel
theorem dX9_fit_265 : decode cX9_fit 265 = .ok (.bipush (-4), 2) := by decide +kernel
theorem dX9_fit_267 : decode cX9_fit 267 = .ok (.if_icmp .ne 8, 3) := by decide +kernel
theorem dX9_fit_270 : decode cX9_fit 270 = .ok (.bipush (-4), 2) := by decide +kernel
theorem dX9_fit_272 : decode cX9_fit 272 = .ok (.goto 26, 3) := by decide +kernel
theorem dX9_fit_275 : decode cX9_fit 275 = .ok (.iload 6, 2) := by decide +kernel
theorem dX9_fit_277 : decode cX9_fit 277 = .ok (.ifCond .ne 8, 3) := by decide +kernel
theorem dX9_fit_280 : decode cX9_fit 280 = .ok (.iload 7, 2) := by decide +kernel
theorem dX9_fit_282 : decode cX9_fit 282 = .ok (.goto 16, 3) := by decide +kernel
theorem dX9_fit_285 : decode cX9_fit 285 = .ok (.iload 6, 2) := by decide +kernel
theorem dX9_fit_287 : decode cX9_fit 287 = .ok (.iconst 1, 1) := by decide +kernel
theorem dX9_fit_288 : decode cX9_fit 288 = .ok (.if_icmp .ne 8, 3) := by decide +kernel
theorem dX9_fit_291 : decode cX9_fit 291 = .ok (.iload 8, 2) := by decide +kernel
theorem dX9_fit_293 : decode cX9_fit 293 = .ok (.goto 5, 3) := by decide +kernel
theorem dX9_fit_296 : decode cX9_fit 296 = .ok (.iload 9, 2) := by decide +kernel
theorem dX9_fit_298 : decode cX9_fit 298 = .ok (.ireturn, 1) := by decide +kernel
theorem dX9_within_0 : decode cX9_within 0 = .ok (.iconst 0, 1) := by decide +kernel
theorem dX9_within_1 : decode cX9_within 1 = .ok (.istore 4, 2) := by decide +kernel
theorem dX9_within_3 : decode cX9_within 3 = .ok (.iload_n 1, 1) := by decide +kernel
theorem dX9_within_4 : decode cX9_within 4 = .ok (.istore 5, 2) := by decide +kernel
theorem dX9_within_6 : decode cX9_within 6 = .ok (.iload 5, 2) := by decide +kernel
theorem dX9_within_8 : decode cX9_within 8 = .ok (.iload_n 2, 1) := by decide +kernel
theorem dX9_within_9 : decode cX9_within 9 = .ok (.if_icmp .gt 43, 3) := by decide +kernel
theorem dX9_within_12 : decode cX9_within 12 = .ok (.iload 4, 2) := by decide +kernel
theorem dX9_within_14 : decode cX9_within 14 = .ok (.aload_n 0, 1) := by decide +kernel
theorem dX9_within_15 : decode cX9_within 15 = .ok (.getfield 53, 3) := by decide +kernel
theorem dX9_within_18 : decode cX9_within 18 = .ok (.iload 5, 2) := by decide +kernel
theorem dX9_within_20 : decode cX9_within 20 = .ok (.baload, 1) := by decide +kernel
theorem dX9_within_21 : decode cX9_within 21 = .ok (.ifCond .eq 21, 3) := by decide +kernel
theorem dX9_within_24 : decode cX9_within 24 = .ok (.aload_n 0, 1) := by decide +kernel
theorem dX9_within_25 : decode cX9_within 25 = .ok (.getfield 50, 3) := by decide +kernel
theorem dX9_within_28 : decode cX9_within 28 = .ok (.iload 5, 2) := by decide +kernel
theorem dX9_within_30 : decode cX9_within 30 = .ok (.iaload, 1) := by decide +kernel
theorem dX9_within_31 : decode cX9_within 31 = .ok (.invokestatic 240, 3) := by decide +kernel
theorem dX9_within_34 : decode cX9_within 34 = .ok (.iload_n 3, 1) := by decide +kernel
theorem dX9_within_35 : decode cX9_within 35 = .ok (.if_icmp .gt 7, 3) := by decide +kernel
theorem dX9_within_38 : decode cX9_within 38 = .ok (.iconst 1, 1) := by decide +kernel
theorem dX9_within_39 : decode cX9_within 39 = .ok (.goto 4, 3) := by decide +kernel
theorem dX9_within_42 : decode cX9_within 42 = .ok (.iconst 0, 1) := by decide +kernel
theorem dX9_within_43 : decode cX9_within 43 = .ok (.iadd, 1) := by decide +kernel
theorem dX9_within_44 : decode cX9_within 44 = .ok (.istore 4, 2) := by decide +kernel
theorem dX9_within_46 : decode cX9_within 46 = .ok (.iinc 5 1, 3) := by decide +kernel
theorem dX9_within_49 : decode cX9_within 49 = .ok (.goto (-43), 3) := by decide +kernel
theorem dX9_within_52 : decode cX9_within 52 = .ok (.iload 4, 2) := by decide +kernel
theorem dX9_within_54 : decode cX9_within 54 = .ok (.ireturn, 1) := by decide +kernel
theorem dX9_spanOf_0 : decode cX9_spanOf 0 = .ok (.aload_n 0, 1) := by decide +kernel
theorem dX9_spanOf_1 : decode cX9_spanOf 1 = .ok (.iload_n 1, 1) := by decide +kernel
theorem dX9_spanOf_2 : decode cX9_spanOf 2 = .ok (.iload_n 2, 1) := by decide +kernel
theorem dX9_spanOf_3 : decode cX9_spanOf 3 = .ok (.invokevirtual 243, 3) := by decide +kernel
theorem dX9_spanOf_6 : decode cX9_spanOf 6 = .ok (.istore 4, 2) := by decide +kernel
theorem dX9_spanOf_8 : decode cX9_spanOf 8 = .ok (.iconst 0, 1) := by decide +kernel
theorem dX9_spanOf_9 : decode cX9_spanOf 9 = .ok (.istore 5, 2) := by decide +kernel
theorem dX9_spanOf_11 : decode cX9_spanOf 11 = .ok (.bipush 100, 2) := by decide +kernel
theorem dX9_spanOf_13 : decode cX9_spanOf 13 = .ok (.aload_n 0, 1) := by decide +kernel
theorem dX9_spanOf_14 : decode cX9_spanOf 14 = .ok (.iload_n 1, 1) := by decide +kernel
theorem dX9_spanOf_15 : decode cX9_spanOf 15 = .ok (.iload_n 2, 1) := by decide +kernel
theorem dX9_spanOf_16 : decode cX9_spanOf 16 = .ok (.iload 5, 2) := by decide +kernel
theorem dX9_spanOf_18 : decode cX9_spanOf 18 = .ok (.invokevirtual 251, 3) := by decide +kernel
theorem dX9_spanOf_21 : decode cX9_spanOf 21 = .ok (.imul, 1) := by decide +kernel
theorem dX9_spanOf_22 : decode cX9_spanOf 22 = .ok (.iload_n 3, 1) := by decide +kernel
theorem dX9_spanOf_23 : decode cX9_spanOf 23 = .ok (.iload 4, 2) := by decide +kernel
theorem dX9_spanOf_25 : decode cX9_spanOf 25 = .ok (.imul, 1) := by decide +kernel
theorem dX9_spanOf_26 : decode cX9_spanOf 26 = .ok (.if_icmp .ge 9, 3) := by decide +kernel
theorem dX9_spanOf_29 : decode cX9_spanOf 29 = .ok (.iinc 5 1, 3) := by decide +kernel
theorem dX9_spanOf_32 : decode cX9_spanOf 32 = .ok (.goto (-21), 3) := by decide +kernel
theorem dX9_spanOf_35 : decode cX9_spanOf 35 = .ok (.iload 5, 2) := by decide +kernel
theorem dX9_spanOf_37 : decode cX9_spanOf 37 = .ok (.ireturn, 1) := by decide +kernel
theorem dX9_span_0 : decode cX9_span 0 = .ok (.aload_n 0, 1) := by decide +kernel
theorem dX9_span_1 : decode cX9_span 1 = .ok (.iload_n 1, 1) := by decide +kernel
theorem dX9_span_2 : decode cX9_span 2 = .ok (.iload_n 2, 1) := by decide +kernel
theorem dX9_span_3 : decode cX9_span 3 = .ok (.iload_n 3, 1) := by decide +kernel
theorem dX9_span_4 : decode cX9_span 4 = .ok (.iload 4, 2) := by decide +kernel
theorem dX9_span_6 : decode cX9_span 6 = .ok (.iload 5, 2) := by decide +kernel
theorem dX9_span_8 : decode cX9_span 8 = .ok (.invokevirtual 232, 3) := by decide +kernel
theorem dX9_span_11 : decode cX9_span 11 = .ok (.ifCond .eq 16, 3) := by decide +kernel
theorem dX9_span_14 : decode cX9_span 14 = .ok (.iload 6, 2) := by decide +kernel
theorem dX9_span_16 : decode cX9_span 16 = .ok (.i2l, 1) := by decide +kernel
theorem dX9_span_17 : decode cX9_span 17 = .ok (.lconst 1, 1) := by decide +kernel
theorem dX9_span_18 : decode cX9_span 18 = .ok (.ldc2_w 254, 3) := by decide +kernel
theorem dX9_span_21 : decode cX9_span 21 = .ok (.invokestatic 91, 3) := by decide +kernel
theorem dX9_span_24 : decode cX9_span 24 = .ok (.ifCond .ne 5, 3) := by decide +kernel
theorem dX9_span_27 : decode cX9_span 27 = .ok (.iconst (-1), 1) := by decide +kernel
theorem dX9_span_28 : decode cX9_span 28 = .ok (.ireturn, 1) := by decide +kernel
theorem dX9_span_29 : decode cX9_span 29 = .ok (.aload_n 0, 1) := by decide +kernel
theorem dX9_span_30 : decode cX9_span 30 = .ok (.iload_n 1, 1) := by decide +kernel
theorem dX9_span_31 : decode cX9_span 31 = .ok (.iload_n 2, 1) := by decide +kernel
theorem dX9_span_32 : decode cX9_span 32 = .ok (.iload_n 3, 1) := by decide +kernel
theorem dX9_span_33 : decode cX9_span 33 = .ok (.iload 4, 2) := by decide +kernel
theorem dX9_span_35 : decode cX9_span 35 = .ok (.iload 5, 2) := by decide +kernel
theorem dX9_span_37 : decode cX9_span 37 = .ok (.invokevirtual 236, 3) := by decide +kernel
theorem dX9_span_40 : decode cX9_span 40 = .ok (.aload_n 0, 1) := by decide +kernel
theorem dX9_span_41 : decode cX9_span 41 = .ok (.iload 4, 2) := by decide +kernel
theorem dX9_span_43 : decode cX9_span 43 = .ok (.iload 5, 2) := by decide +kernel
theorem dX9_span_45 : decode cX9_span 45 = .ok (.invokevirtual 243, 3) := by decide +kernel
theorem dX9_span_48 : decode cX9_span 48 = .ok (.ifCond .ne 8, 3) := by decide +kernel
theorem dX9_span_51 : decode cX9_span 51 = .ok (.bipush (-4), 2) := by decide +kernel
theorem dX9_span_53 : decode cX9_span 53 = .ok (.goto 13, 3) := by decide +kernel
theorem dX9_span_56 : decode cX9_span 56 = .ok (.aload_n 0, 1) := by decide +kernel
theorem dX9_span_57 : decode cX9_span 57 = .ok (.iload 4, 2) := by decide +kernel
theorem dX9_span_59 : decode cX9_span 59 = .ok (.iload 5, 2) := by decide +kernel
theorem dX9_span_61 : decode cX9_span 61 = .ok (.iload 6, 2) := by decide +kernel
theorem dX9_span_63 : decode cX9_span 63 = .ok (.invokevirtual 256, 3) := by decide +kernel
theorem dX9_span_66 : decode cX9_span 66 = .ok (.ireturn, 1) := by decide +kernel
theorem dX9_hold_0 : decode cX9_hold 0 = .ok (.aload_n 0, 1) := by decide +kernel
theorem dX9_hold_1 : decode cX9_hold 1 = .ok (.iload_n 1, 1) := by decide +kernel
theorem dX9_hold_2 : decode cX9_hold 2 = .ok (.iload_n 2, 1) := by decide +kernel
theorem dX9_hold_3 : decode cX9_hold 3 = .ok (.iload_n 3, 1) := by decide +kernel
theorem dX9_hold_4 : decode cX9_hold 4 = .ok (.iload 4, 2) := by decide +kernel
theorem dX9_hold_6 : decode cX9_hold 6 = .ok (.iload 5, 2) := by decide +kernel
theorem dX9_hold_8 : decode cX9_hold 8 = .ok (.invokevirtual 232, 3) := by decide +kernel
theorem dX9_hold_11 : decode cX9_hold 11 = .ok (.ifCond .eq 16, 3) := by decide +kernel
theorem dX9_hold_14 : decode cX9_hold 14 = .ok (.iload 6, 2) := by decide +kernel
theorem dX9_hold_16 : decode cX9_hold 16 = .ok (.i2l, 1) := by decide +kernel
theorem dX9_hold_17 : decode cX9_hold 17 = .ok (.lconst 0, 1) := by decide +kernel
theorem dX9_hold_18 : decode cX9_hold 18 = .ok (.ldc2_w 111, 3) := by decide +kernel
theorem dX9_hold_21 : decode cX9_hold 21 = .ok (.invokestatic 91, 3) := by decide +kernel
theorem dX9_hold_24 : decode cX9_hold 24 = .ok (.ifCond .ne 5, 3) := by decide +kernel
theorem dX9_hold_27 : decode cX9_hold 27 = .ok (.iconst (-1), 1) := by decide +kernel
theorem dX9_hold_28 : decode cX9_hold 28 = .ok (.ireturn, 1) := by decide +kernel
theorem dX9_hold_29 : decode cX9_hold 29 = .ok (.aload_n 0, 1) := by decide +kernel
theorem dX9_hold_30 : decode cX9_hold 30 = .ok (.iload_n 1, 1) := by decide +kernel
theorem dX9_hold_31 : decode cX9_hold 31 = .ok (.iload_n 2, 1) := by decide +kernel
theorem dX9_hold_32 : decode cX9_hold 32 = .ok (.iload_n 3, 1) := by decide +kernel
theorem dX9_hold_33 : decode cX9_hold 33 = .ok (.iload 4, 2) := by decide +kernel
theorem dX9_hold_35 : decode cX9_hold 35 = .ok (.iload 5, 2) := by decide +kernel
theorem dX9_hold_37 : decode cX9_hold 37 = .ok (.invokevirtual 236, 3) := by decide +kernel
theorem dX9_hold_40 : decode cX9_hold 40 = .ok (.aload_n 0, 1) := by decide +kernel
theorem dX9_hold_41 : decode cX9_hold 41 = .ok (.iload 4, 2) := by decide +kernel
theorem dX9_hold_43 : decode cX9_hold 43 = .ok (.iload 5, 2) := by decide +kernel
theorem dX9_hold_45 : decode cX9_hold 45 = .ok (.iload 6, 2) := by decide +kernel
theorem dX9_hold_47 : decode cX9_hold 47 = .ok (.invokevirtual 251, 3) := by decide +kernel
theorem dX9_hold_50 : decode cX9_hold 50 = .ok (.ireturn, 1) := by decide +kernel
theorem dX9_going_0 : decode cX9_going 0 = .ok (.aload_n 0, 1) := by decide +kernel
theorem dX9_going_1 : decode cX9_going 1 = .ok (.iload_n 1, 1) := by decide +kernel
theorem dX9_going_2 : decode cX9_going 2 = .ok (.iload_n 2, 1) := by decide +kernel
theorem dX9_going_3 : decode cX9_going 3 = .ok (.iload_n 3, 1) := by decide +kernel
theorem dX9_going_4 : decode cX9_going 4 = .ok (.iload 4, 2) := by decide +kernel
theorem dX9_going_6 : decode cX9_going 6 = .ok (.iload 5, 2) := by decide +kernel
theorem dX9_going_8 : decode cX9_going 8 = .ok (.invokevirtual 232, 3) := by decide +kernel
theorem dX9_going_11 : decode cX9_going 11 = .ok (.ifCond .eq 27, 3) := by decide +kernel
theorem dX9_going_14 : decode cX9_going 14 = .ok (.iload 6, 2) := by decide +kernel
theorem dX9_going_16 : decode cX9_going 16 = .ok (.i2l, 1) := by decide +kernel
theorem dX9_going_17 : decode cX9_going 17 = .ok (.lconst 1, 1) := by decide +kernel
theorem dX9_going_18 : decode cX9_going 18 = .ok (.ldc2_w 254, 3) := by decide +kernel
theorem dX9_going_21 : decode cX9_going 21 = .ok (.invokestatic 91, 3) := by decide +kernel
theorem dX9_going_24 : decode cX9_going 24 = .ok (.ifCond .eq 14, 3) := by decide +kernel
theorem dX9_going_27 : decode cX9_going 27 = .ok (.iload 7, 2) := by decide +kernel
theorem dX9_going_29 : decode cX9_going 29 = .ok (.i2l, 1) := by decide +kernel
theorem dX9_going_30 : decode cX9_going 30 = .ok (.lconst 0, 1) := by decide +kernel
theorem dX9_going_31 : decode cX9_going 31 = .ok (.lconst 1, 1) := by decide +kernel
theorem dX9_going_32 : decode cX9_going 32 = .ok (.invokestatic 91, 3) := by decide +kernel
theorem dX9_going_35 : decode cX9_going 35 = .ok (.ifCond .ne 5, 3) := by decide +kernel
theorem dX9_going_38 : decode cX9_going 38 = .ok (.iconst (-1), 1) := by decide +kernel
theorem dX9_going_39 : decode cX9_going 39 = .ok (.ireturn, 1) := by decide +kernel
theorem dX9_going_40 : decode cX9_going 40 = .ok (.aload_n 0, 1) := by decide +kernel
theorem dX9_going_41 : decode cX9_going 41 = .ok (.iload_n 1, 1) := by decide +kernel
theorem dX9_going_42 : decode cX9_going 42 = .ok (.iload_n 2, 1) := by decide +kernel
theorem dX9_going_43 : decode cX9_going 43 = .ok (.iload_n 3, 1) := by decide +kernel
theorem dX9_going_44 : decode cX9_going 44 = .ok (.iconst 0, 1) := by decide +kernel
theorem dX9_going_45 : decode cX9_going 45 = .ok (.iload 5, 2) := by decide +kernel
theorem dX9_going_47 : decode cX9_going 47 = .ok (.invokevirtual 236, 3) := by decide +kernel
theorem dX9_going_50 : decode cX9_going 50 = .ok (.iconst 0, 1) := by decide +kernel
theorem dX9_going_51 : decode cX9_going 51 = .ok (.istore 8, 2) := by decide +kernel
theorem dX9_going_53 : decode cX9_going 53 = .ok (.iconst 0, 1) := by decide +kernel
theorem dX9_going_54 : decode cX9_going 54 = .ok (.istore 9, 2) := by decide +kernel
theorem dX9_going_56 : decode cX9_going 56 = .ok (.iload 4, 2) := by decide +kernel
theorem dX9_going_58 : decode cX9_going 58 = .ok (.istore 10, 2) := by decide +kernel
theorem dX9_going_60 : decode cX9_going 60 = .ok (.iload 10, 2) := by decide +kernel
theorem dX9_going_62 : decode cX9_going 62 = .ok (.iload 5, 2) := by decide +kernel
theorem dX9_going_64 : decode cX9_going 64 = .ok (.if_icmp .gt 69, 3) := by decide +kernel
theorem dX9_going_67 : decode cX9_going 67 = .ok (.aload_n 0, 1) := by decide +kernel
theorem dX9_going_68 : decode cX9_going 68 = .ok (.getfield 53, 3) := by decide +kernel
theorem dX9_going_71 : decode cX9_going 71 = .ok (.iload 10, 2) := by decide +kernel
theorem dX9_going_73 : decode cX9_going 73 = .ok (.baload, 1) := by decide +kernel
theorem dX9_going_74 : decode cX9_going 74 = .ok (.ifCond .eq 53, 3) := by decide +kernel
theorem dX9_going_77 : decode cX9_going 77 = .ok (.aload_n 0, 1) := by decide +kernel
theorem dX9_going_78 : decode cX9_going 78 = .ok (.iconst 0, 1) := by decide +kernel
theorem dX9_going_79 : decode cX9_going 79 = .ok (.iload 10, 2) := by decide +kernel
theorem dX9_going_81 : decode cX9_going 81 = .ok (.iload_n 3, 1) := by decide +kernel
theorem dX9_going_82 : decode cX9_going 82 = .ok (.isub, 1) := by decide +kernel
theorem dX9_going_83 : decode cX9_going 83 = .ok (.invokevirtual 243, 3) := by decide +kernel
theorem dX9_going_86 : decode cX9_going 86 = .ok (.iconst 3, 1) := by decide +kernel
theorem dX9_going_87 : decode cX9_going 87 = .ok (.if_icmp .lt 40, 3) := by decide +kernel
theorem dX9_going_90 : decode cX9_going 90 = .ok (.iinc 8 1, 3) := by decide +kernel
theorem dX9_going_93 : decode cX9_going 93 = .ok (.iload 9, 2) := by decide +kernel
theorem dX9_going_95 : decode cX9_going 95 = .ok (.aload_n 0, 1) := by decide +kernel
theorem dX9_going_96 : decode cX9_going 96 = .ok (.getfield 50, 3) := by decide +kernel
theorem dX9_going_99 : decode cX9_going 99 = .ok (.iload 10, 2) := by decide +kernel
theorem dX9_going_101 : decode cX9_going 101 = .ok (.iaload, 1) := by decide +kernel
theorem dX9_going_102 : decode cX9_going 102 = .ok (.invokestatic 240, 3) := by decide +kernel
theorem dX9_going_105 : decode cX9_going 105 = .ok (.aload_n 0, 1) := by decide +kernel
theorem dX9_going_106 : decode cX9_going 106 = .ok (.iconst 0, 1) := by decide +kernel
theorem dX9_going_107 : decode cX9_going 107 = .ok (.iload 10, 2) := by decide +kernel
theorem dX9_going_109 : decode cX9_going 109 = .ok (.iload_n 3, 1) := by decide +kernel
theorem dX9_going_110 : decode cX9_going 110 = .ok (.isub, 1) := by decide +kernel
theorem dX9_going_111 : decode cX9_going 111 = .ok (.iload 6, 2) := by decide +kernel
theorem dX9_going_113 : decode cX9_going 113 = .ok (.invokevirtual 256, 3) := by decide +kernel
theorem dX9_going_116 : decode cX9_going 116 = .ok (.if_icmp .gt 7, 3) := by decide +kernel
theorem dX9_going_119 : decode cX9_going 119 = .ok (.iconst 1, 1) := by decide +kernel
theorem dX9_going_120 : decode cX9_going 120 = .ok (.goto 4, 3) := by decide +kernel
theorem dX9_going_123 : decode cX9_going 123 = .ok (.iconst 0, 1) := by decide +kernel
theorem dX9_going_124 : decode cX9_going 124 = .ok (.iadd, 1) := by decide +kernel
theorem dX9_going_125 : decode cX9_going 125 = .ok (.istore 9, 2) := by decide +kernel
theorem dX9_going_127 : decode cX9_going 127 = .ok (.iinc 10 1, 3) := by decide +kernel
theorem dX9_going_130 : decode cX9_going 130 = .ok (.goto (-70), 3) := by decide +kernel
theorem dX9_going_133 : decode cX9_going 133 = .ok (.iload 7, 2) := by decide +kernel
theorem dX9_going_135 : decode cX9_going 135 = .ok (.ifCond .ne 8, 3) := by decide +kernel
theorem dX9_going_138 : decode cX9_going 138 = .ok (.iload 8, 2) := by decide +kernel
theorem dX9_going_140 : decode cX9_going 140 = .ok (.goto 5, 3) := by decide +kernel
theorem dX9_going_143 : decode cX9_going 143 = .ok (.iload 9, 2) := by decide +kernel
theorem dX9_going_145 : decode cX9_going 145 = .ok (.ireturn, 1) := by decide +kernel
theorem dX9_agree_0 : decode cX9_agree 0 = .ok (.lload_n 1, 1) := by decide +kernel
theorem dX9_agree_1 : decode cX9_agree 1 = .ok (.lconst 0, 1) := by decide +kernel
theorem dX9_agree_2 : decode cX9_agree 2 = .ok (.ldc2_w 259, 3) := by decide +kernel
theorem dX9_agree_5 : decode cX9_agree 5 = .ok (.invokestatic 91, 3) := by decide +kernel
theorem dX9_agree_8 : decode cX9_agree 8 = .ok (.ifCond .eq 36, 3) := by decide +kernel
theorem dX9_agree_11 : decode cX9_agree 11 = .ok (.iload_n 3, 1) := by decide +kernel
theorem dX9_agree_12 : decode cX9_agree 12 = .ok (.i2l, 1) := by decide +kernel
theorem dX9_agree_13 : decode cX9_agree 13 = .ok (.lconst 0, 1) := by decide +kernel
theorem dX9_agree_14 : decode cX9_agree 14 = .ok (.ldc2_w 261, 3) := by decide +kernel
theorem dX9_agree_17 : decode cX9_agree 17 = .ok (.invokestatic 91, 3) := by decide +kernel
theorem dX9_agree_20 : decode cX9_agree 20 = .ok (.ifCond .eq 24, 3) := by decide +kernel
theorem dX9_agree_23 : decode cX9_agree 23 = .ok (.iload 4, 2) := by decide +kernel
theorem dX9_agree_25 : decode cX9_agree 25 = .ok (.i2l, 1) := by decide +kernel
theorem dX9_agree_26 : decode cX9_agree 26 = .ok (.lconst 0, 1) := by decide +kernel
theorem dX9_agree_27 : decode cX9_agree 27 = .ok (.ldc2_w 263, 3) := by decide +kernel
theorem dX9_agree_30 : decode cX9_agree 30 = .ok (.invokestatic 91, 3) := by decide +kernel
theorem dX9_agree_33 : decode cX9_agree 33 = .ok (.ifCond .eq 11, 3) := by decide +kernel
theorem dX9_agree_36 : decode cX9_agree 36 = .ok (.iload 5, 2) := by decide +kernel
theorem dX9_agree_38 : decode cX9_agree 38 = .ok (.invokestatic 108, 3) := by decide +kernel
theorem dX9_agree_41 : decode cX9_agree 41 = .ok (.ifCond .ne 7, 3) := by decide +kernel
theorem dX9_agree_44 : decode cX9_agree 44 = .ok (.ldc_w 265, 3) := by decide +kernel
theorem dX9_agree_47 : decode cX9_agree 47 = .ok (.ireturn, 1) := by decide +kernel
theorem dX9_agree_48 : decode cX9_agree 48 = .ok (.lload_n 1, 1) := by decide +kernel
theorem dX9_agree_49 : decode cX9_agree 49 = .ok (.lstore 6, 2) := by decide +kernel
theorem dX9_agree_51 : decode cX9_agree 51 = .ok (.iload_n 3, 1) := by decide +kernel
theorem dX9_agree_52 : decode cX9_agree 52 = .ok (.istore 8, 2) := by decide +kernel
theorem dX9_agree_54 : decode cX9_agree 54 = .ok (.iconst 0, 1) := by decide +kernel
theorem dX9_agree_55 : decode cX9_agree 55 = .ok (.istore 9, 2) := by decide +kernel
theorem dX9_agree_57 : decode cX9_agree 57 = .ok (.iconst 0, 1) := by decide +kernel
theorem dX9_agree_58 : decode cX9_agree 58 = .ok (.istore 10, 2) := by decide +kernel
theorem dX9_agree_60 : decode cX9_agree 60 = .ok (.iconst 0, 1) := by decide +kernel
theorem dX9_agree_61 : decode cX9_agree 61 = .ok (.istore 11, 2) := by decide +kernel
theorem dX9_agree_63 : decode cX9_agree 63 = .ok (.iconst 0, 1) := by decide +kernel
theorem dX9_agree_64 : decode cX9_agree 64 = .ok (.istore 12, 2) := by decide +kernel
theorem dX9_agree_66 : decode cX9_agree 66 = .ok (.iconst 0, 1) := by decide +kernel
theorem dX9_agree_67 : decode cX9_agree 67 = .ok (.istore 13, 2) := by decide +kernel
theorem dX9_agree_69 : decode cX9_agree 69 = .ok (.iload 13, 2) := by decide +kernel
theorem dX9_agree_71 : decode cX9_agree 71 = .ok (.iconst 4, 1) := by decide +kernel
theorem dX9_agree_72 : decode cX9_agree 72 = .ok (.if_icmp .ge 85, 3) := by decide +kernel
theorem dX9_agree_75 : decode cX9_agree 75 = .ok (.lload 6, 2) := by decide +kernel
theorem dX9_agree_77 : decode cX9_agree 77 = .ok (.ldc2_w 266, 3) := by decide +kernel
theorem dX9_agree_80 : decode cX9_agree 80 = .ok (.lrem, 1) := by decide +kernel
theorem dX9_agree_81 : decode cX9_agree 81 = .ok (.l2i, 1) := by decide +kernel
theorem dX9_agree_82 : decode cX9_agree 82 = .ok (.istore 14, 2) := by decide +kernel
theorem dX9_agree_84 : decode cX9_agree 84 = .ok (.iload 13, 2) := by decide +kernel
theorem dX9_agree_86 : decode cX9_agree 86 = .ok (.iload 5, 2) := by decide +kernel
theorem dX9_agree_88 : decode cX9_agree 88 = .ok (.if_icmp .ne 8, 3) := by decide +kernel
theorem dX9_agree_91 : decode cX9_agree 91 = .ok (.iload 14, 2) := by decide +kernel
theorem dX9_agree_93 : decode cX9_agree 93 = .ok (.goto 5, 3) := by decide +kernel
theorem dX9_agree_96 : decode cX9_agree 96 = .ok (.iload 9, 2) := by decide +kernel
theorem dX9_agree_98 : decode cX9_agree 98 = .ok (.istore 9, 2) := by decide +kernel
theorem dX9_agree_100 : decode cX9_agree 100 = .ok (.iload 13, 2) := by decide +kernel
theorem dX9_agree_102 : decode cX9_agree 102 = .ok (.iload 5, 2) := by decide +kernel
theorem dX9_agree_104 : decode cX9_agree 104 = .ok (.if_icmp .ne 11, 3) := by decide +kernel
theorem dX9_agree_107 : decode cX9_agree 107 = .ok (.iload 8, 2) := by decide +kernel
theorem dX9_agree_109 : decode cX9_agree 109 = .ok (.bipush 100, 2) := by decide +kernel
theorem dX9_agree_111 : decode cX9_agree 111 = .ok (.irem, 1) := by decide +kernel
theorem dX9_agree_112 : decode cX9_agree 112 = .ok (.goto 5, 3) := by decide +kernel
theorem dX9_agree_115 : decode cX9_agree 115 = .ok (.iload 10, 2) := by decide +kernel
theorem dX9_agree_117 : decode cX9_agree 117 = .ok (.istore 10, 2) := by decide +kernel
theorem dX9_agree_119 : decode cX9_agree 119 = .ok (.iload 11, 2) := by decide +kernel
theorem dX9_agree_121 : decode cX9_agree 121 = .ok (.iload 14, 2) := by decide +kernel
theorem dX9_agree_123 : decode cX9_agree 123 = .ok (.iadd, 1) := by decide +kernel
theorem dX9_agree_124 : decode cX9_agree 124 = .ok (.istore 11, 2) := by decide +kernel
theorem dX9_agree_126 : decode cX9_agree 126 = .ok (.iload 12, 2) := by decide +kernel
theorem dX9_agree_128 : decode cX9_agree 128 = .ok (.iload 8, 2) := by decide +kernel
theorem dX9_agree_130 : decode cX9_agree 130 = .ok (.bipush 100, 2) := by decide +kernel
theorem dX9_agree_132 : decode cX9_agree 132 = .ok (.irem, 1) := by decide +kernel
theorem dX9_agree_133 : decode cX9_agree 133 = .ok (.iadd, 1) := by decide +kernel
theorem dX9_agree_134 : decode cX9_agree 134 = .ok (.istore 12, 2) := by decide +kernel
theorem dX9_agree_136 : decode cX9_agree 136 = .ok (.lload 6, 2) := by decide +kernel
theorem dX9_agree_138 : decode cX9_agree 138 = .ok (.ldc2_w 266, 3) := by decide +kernel
theorem dX9_agree_141 : decode cX9_agree 141 = .ok (.ldiv, 1) := by decide +kernel
theorem dX9_agree_142 : decode cX9_agree 142 = .ok (.lstore 6, 2) := by decide +kernel
theorem dX9_agree_144 : decode cX9_agree 144 = .ok (.iload 8, 2) := by decide +kernel
theorem dX9_agree_146 : decode cX9_agree 146 = .ok (.bipush 100, 2) := by decide +kernel
theorem dX9_agree_148 : decode cX9_agree 148 = .ok (.idiv, 1) := by decide +kernel
theorem dX9_agree_149 : decode cX9_agree 149 = .ok (.istore 8, 2) := by decide +kernel
theorem dX9_agree_151 : decode cX9_agree 151 = .ok (.iinc 13 1, 3) := by decide +kernel
theorem dX9_agree_154 : decode cX9_agree 154 = .ok (.goto (-85), 3) := by decide +kernel
theorem dX9_agree_157 : decode cX9_agree 157 = .ok (.iload 4, 2) := by decide +kernel
theorem dX9_agree_159 : decode cX9_agree 159 = .ok (.iload 11, 2) := by decide +kernel
theorem dX9_agree_161 : decode cX9_agree 161 = .ok (.isub, 1) := by decide +kernel
theorem dX9_agree_162 : decode cX9_agree 162 = .ok (.invokestatic 240, 3) := by decide +kernel
theorem dX9_agree_165 : decode cX9_agree 165 = .ok (.istore 13, 2) := by decide +kernel
theorem dX9_agree_167 : decode cX9_agree 167 = .ok (.iload 12, 2) := by decide +kernel
theorem dX9_agree_169 : decode cX9_agree 169 = .ok (.ifCond .ne 17, 3) := by decide +kernel
theorem dX9_agree_172 : decode cX9_agree 172 = .ok (.iload 13, 2) := by decide +kernel
theorem dX9_agree_174 : decode cX9_agree 174 = .ok (.ifCond .ne 8, 3) := by decide +kernel
theorem dX9_agree_177 : decode cX9_agree 177 = .ok (.iload 9, 2) := by decide +kernel
theorem dX9_agree_179 : decode cX9_agree 179 = .ok (.goto 6, 3) := by decide +kernel
theorem dX9_agree_182 : decode cX9_agree 182 = .ok (.ldc_w 268, 3) := by decide +kernel
theorem dX9_agree_185 : decode cX9_agree 185 = .ok (.ireturn, 1) := by decide +kernel
theorem dX9_agree_186 : decode cX9_agree 186 = .ok (.iconst 0, 1) := by decide +kernel
theorem dX9_agree_187 : decode cX9_agree 187 = .ok (.istore 14, 2) := by decide +kernel
theorem dX9_agree_189 : decode cX9_agree 189 = .ok (.iconst 0, 1) := by decide +kernel
theorem dX9_agree_190 : decode cX9_agree 190 = .ok (.istore 15, 2) := by decide +kernel
theorem dX9_agree_192 : decode cX9_agree 192 = .ok (.iload_n 3, 1) := by decide +kernel
theorem dX9_agree_193 : decode cX9_agree 193 = .ok (.istore 8, 2) := by decide +kernel
theorem dX9_agree_195 : decode cX9_agree 195 = .ok (.iconst 0, 1) := by decide +kernel
theorem dX9_agree_196 : decode cX9_agree 196 = .ok (.istore 16, 2) := by decide +kernel
theorem dX9_agree_198 : decode cX9_agree 198 = .ok (.iload 16, 2) := by decide +kernel
theorem dX9_agree_200 : decode cX9_agree 200 = .ok (.iconst 4, 1) := by decide +kernel
theorem dX9_agree_201 : decode cX9_agree 201 = .ok (.if_icmp .ge 57, 3) := by decide +kernel
theorem dX9_agree_204 : decode cX9_agree 204 = .ok (.iload 14, 2) := by decide +kernel
theorem dX9_agree_206 : decode cX9_agree 206 = .ok (.iload 13, 2) := by decide +kernel
theorem dX9_agree_208 : decode cX9_agree 208 = .ok (.iload 8, 2) := by decide +kernel
theorem dX9_agree_210 : decode cX9_agree 210 = .ok (.bipush 100, 2) := by decide +kernel
theorem dX9_agree_212 : decode cX9_agree 212 = .ok (.irem, 1) := by decide +kernel
theorem dX9_agree_213 : decode cX9_agree 213 = .ok (.imul, 1) := by decide +kernel
theorem dX9_agree_214 : decode cX9_agree 214 = .ok (.iload 12, 2) := by decide +kernel
theorem dX9_agree_216 : decode cX9_agree 216 = .ok (.idiv, 1) := by decide +kernel
theorem dX9_agree_217 : decode cX9_agree 217 = .ok (.iadd, 1) := by decide +kernel
theorem dX9_agree_218 : decode cX9_agree 218 = .ok (.istore 14, 2) := by decide +kernel
theorem dX9_agree_220 : decode cX9_agree 220 = .ok (.iload 15, 2) := by decide +kernel
theorem dX9_agree_222 : decode cX9_agree 222 = .ok (.iload 16, 2) := by decide +kernel
theorem dX9_agree_224 : decode cX9_agree 224 = .ok (.iload 5, 2) := by decide +kernel
theorem dX9_agree_226 : decode cX9_agree 226 = .ok (.if_icmp .ge 15, 3) := by decide +kernel
theorem dX9_agree_229 : decode cX9_agree 229 = .ok (.iload 8, 2) := by decide +kernel
theorem dX9_agree_231 : decode cX9_agree 231 = .ok (.bipush 100, 2) := by decide +kernel
theorem dX9_agree_233 : decode cX9_agree 233 = .ok (.irem, 1) := by decide +kernel
theorem dX9_agree_234 : decode cX9_agree 234 = .ok (.ifCond .le 7, 3) := by decide +kernel
theorem dX9_agree_237 : decode cX9_agree 237 = .ok (.iconst 1, 1) := by decide +kernel
theorem dX9_agree_238 : decode cX9_agree 238 = .ok (.goto 4, 3) := by decide +kernel
theorem dX9_agree_241 : decode cX9_agree 241 = .ok (.iconst 0, 1) := by decide +kernel
theorem dX9_agree_242 : decode cX9_agree 242 = .ok (.iadd, 1) := by decide +kernel
theorem dX9_agree_243 : decode cX9_agree 243 = .ok (.istore 15, 2) := by decide +kernel
theorem dX9_agree_245 : decode cX9_agree 245 = .ok (.iload 8, 2) := by decide +kernel
theorem dX9_agree_247 : decode cX9_agree 247 = .ok (.bipush 100, 2) := by decide +kernel
theorem dX9_agree_249 : decode cX9_agree 249 = .ok (.idiv, 1) := by decide +kernel
theorem dX9_agree_250 : decode cX9_agree 250 = .ok (.istore 8, 2) := by decide +kernel
theorem dX9_agree_252 : decode cX9_agree 252 = .ok (.iinc 16 1, 3) := by decide +kernel
theorem dX9_agree_255 : decode cX9_agree 255 = .ok (.goto (-57), 3) := by decide +kernel
theorem dX9_agree_258 : decode cX9_agree 258 = .ok (.iload 13, 2) := by decide +kernel
theorem dX9_agree_260 : decode cX9_agree 260 = .ok (.iload 10, 2) := by decide +kernel
theorem dX9_agree_262 : decode cX9_agree 262 = .ok (.imul, 1) := by decide +kernel
theorem dX9_agree_263 : decode cX9_agree 263 = .ok (.iload 12, 2) := by decide +kernel
theorem dX9_agree_265 : decode cX9_agree 265 = .ok (.idiv, 1) := by decide +kernel
theorem dX9_agree_266 : decode cX9_agree 266 = .ok (.iload 10, 2) := by decide +kernel
theorem dX9_agree_268 : decode cX9_agree 268 = .ok (.ifCond .le 17, 3) := by decide +kernel
theorem dX9_agree_271 : decode cX9_agree 271 = .ok (.iload 15, 2) := by decide +kernel
theorem dX9_agree_273 : decode cX9_agree 273 = .ok (.iload 13, 2) := by decide +kernel
theorem dX9_agree_275 : decode cX9_agree 275 = .ok (.iload 14, 2) := by decide +kernel
theorem dX9_agree_277 : decode cX9_agree 277 = .ok (.isub, 1) := by decide +kernel
theorem dX9_agree_278 : decode cX9_agree 278 = .ok (.if_icmp .ge 7, 3) := by decide +kernel
theorem dX9_agree_281 : decode cX9_agree 281 = .ok (.iconst 1, 1) := by decide +kernel
theorem dX9_agree_282 : decode cX9_agree 282 = .ok (.goto 4, 3) := by decide +kernel
theorem dX9_agree_285 : decode cX9_agree 285 = .ok (.iconst 0, 1) := by decide +kernel
theorem dX9_agree_286 : decode cX9_agree 286 = .ok (.iadd, 1) := by decide +kernel
theorem dX9_agree_287 : decode cX9_agree 287 = .ok (.istore 16, 2) := by decide +kernel
theorem dX9_agree_289 : decode cX9_agree 289 = .ok (.iload 4, 2) := by decide +kernel
theorem dX9_agree_291 : decode cX9_agree 291 = .ok (.iload 11, 2) := by decide +kernel
theorem dX9_agree_293 : decode cX9_agree 293 = .ok (.if_icmp .ge 11, 3) := by decide +kernel
theorem dX9_agree_296 : decode cX9_agree 296 = .ok (.iload 9, 2) := by decide +kernel
theorem dX9_agree_298 : decode cX9_agree 298 = .ok (.iload 16, 2) := by decide +kernel
theorem dX9_agree_300 : decode cX9_agree 300 = .ok (.isub, 1) := by decide +kernel
theorem dX9_agree_301 : decode cX9_agree 301 = .ok (.goto 8, 3) := by decide +kernel
theorem dX9_agree_304 : decode cX9_agree 304 = .ok (.iload 9, 2) := by decide +kernel
theorem dX9_agree_306 : decode cX9_agree 306 = .ok (.iload 16, 2) := by decide +kernel
theorem dX9_agree_308 : decode cX9_agree 308 = .ok (.iadd, 1) := by decide +kernel
theorem dX9_agree_309 : decode cX9_agree 309 = .ok (.ireturn, 1) := by decide +kernel
theorem dX9_number__0 : decode cX9_number_ 0 = .ok (.aload_n 0, 1) := by decide +kernel
theorem dX9_number__1 : decode cX9_number_ 1 = .ok (.iload_n 1, 1) := by decide +kernel
theorem dX9_number__2 : decode cX9_number_ 2 = .ok (.iload_n 2, 1) := by decide +kernel
theorem dX9_number__3 : decode cX9_number_ 3 = .ok (.iload_n 3, 1) := by decide +kernel
theorem dX9_number__4 : decode cX9_number_ 4 = .ok (.iload 4, 2) := by decide +kernel
theorem dX9_number__6 : decode cX9_number_ 6 = .ok (.iload 5, 2) := by decide +kernel
theorem dX9_number__8 : decode cX9_number_ 8 = .ok (.invokevirtual 232, 3) := by decide +kernel
theorem dX9_number__11 : decode cX9_number_ 11 = .ok (.ifCond .eq 40, 3) := by decide +kernel
theorem dX9_number__14 : decode cX9_number_ 14 = .ok (.iload 6, 2) := by decide +kernel
theorem dX9_number__16 : decode cX9_number_ 16 = .ok (.i2l, 1) := by decide +kernel
theorem dX9_number__17 : decode cX9_number_ 17 = .ok (.lconst 1, 1) := by decide +kernel
theorem dX9_number__18 : decode cX9_number_ 18 = .ok (.ldc2_w 269, 3) := by decide +kernel
theorem dX9_number__21 : decode cX9_number_ 21 = .ok (.invokestatic 91, 3) := by decide +kernel
theorem dX9_number__24 : decode cX9_number_ 24 = .ok (.ifCond .eq 27, 3) := by decide +kernel
theorem dX9_number__27 : decode cX9_number_ 27 = .ok (.iload 7, 2) := by decide +kernel
theorem dX9_number__29 : decode cX9_number_ 29 = .ok (.i2l, 1) := by decide +kernel
theorem dX9_number__30 : decode cX9_number_ 30 = .ok (.lconst 1, 1) := by decide +kernel
theorem dX9_number__31 : decode cX9_number_ 31 = .ok (.ldc2_w 269, 3) := by decide +kernel
theorem dX9_number__34 : decode cX9_number_ 34 = .ok (.invokestatic 91, 3) := by decide +kernel
theorem dX9_number__37 : decode cX9_number_ 37 = .ok (.ifCond .eq 14, 3) := by decide +kernel
theorem dX9_number__40 : decode cX9_number_ 40 = .ok (.iload 8, 2) := by decide +kernel
theorem dX9_number__42 : decode cX9_number_ 42 = .ok (.i2l, 1) := by decide +kernel
theorem dX9_number__43 : decode cX9_number_ 43 = .ok (.lconst 0, 1) := by decide +kernel
theorem dX9_number__44 : decode cX9_number_ 44 = .ok (.lconst 1, 1) := by decide +kernel
theorem dX9_number__45 : decode cX9_number_ 45 = .ok (.invokestatic 91, 3) := by decide +kernel
theorem dX9_number__48 : decode cX9_number_ 48 = .ok (.ifCond .ne 5, 3) := by decide +kernel
theorem dX9_number__51 : decode cX9_number_ 51 = .ok (.iconst (-1), 1) := by decide +kernel
theorem dX9_number__52 : decode cX9_number_ 52 = .ok (.ireturn, 1) := by decide +kernel
theorem dX9_number__53 : decode cX9_number_ 53 = .ok (.aload_n 0, 1) := by decide +kernel
theorem dX9_number__54 : decode cX9_number_ 54 = .ok (.iload_n 2, 1) := by decide +kernel
theorem dX9_number__55 : decode cX9_number_ 55 = .ok (.iload_n 1, 1) := by decide +kernel
theorem dX9_number__56 : decode cX9_number_ 56 = .ok (.aload_n 0, 1) := by decide +kernel
theorem dX9_number__57 : decode cX9_number_ 57 = .ok (.getfield 101, 3) := by decide +kernel
theorem dX9_number__60 : decode cX9_number_ 60 = .ok (.iload_n 3, 1) := by decide +kernel
theorem dX9_number__61 : decode cX9_number_ 61 = .ok (.invokevirtual 222, 3) := by decide +kernel
theorem dX9_number__64 : decode cX9_number_ 64 = .ok (.istore 9, 2) := by decide +kernel
theorem dX9_number__66 : decode cX9_number_ 66 = .ok (.aload_n 0, 1) := by decide +kernel
theorem dX9_number__67 : decode cX9_number_ 67 = .ok (.iload_n 1, 1) := by decide +kernel
theorem dX9_number__68 : decode cX9_number_ 68 = .ok (.iload_n 2, 1) := by decide +kernel
theorem dX9_number__69 : decode cX9_number_ 69 = .ok (.iload_n 3, 1) := by decide +kernel
theorem dX9_number__70 : decode cX9_number_ 70 = .ok (.iload 4, 2) := by decide +kernel
theorem dX9_number__72 : decode cX9_number_ 72 = .ok (.iload 5, 2) := by decide +kernel
theorem dX9_number__74 : decode cX9_number_ 74 = .ok (.invokevirtual 236, 3) := by decide +kernel
theorem dX9_number__77 : decode cX9_number_ 77 = .ok (.iload 9, 2) := by decide +kernel
theorem dX9_number__79 : decode cX9_number_ 79 = .ok (.ifCond .lt 14, 3) := by decide +kernel
theorem dX9_number__82 : decode cX9_number_ 82 = .ok (.aload_n 0, 1) := by decide +kernel
theorem dX9_number__83 : decode cX9_number_ 83 = .ok (.iload 4, 2) := by decide +kernel
theorem dX9_number__85 : decode cX9_number_ 85 = .ok (.iload 5, 2) := by decide +kernel
theorem dX9_number__87 : decode cX9_number_ 87 = .ok (.invokevirtual 243, 3) := by decide +kernel
theorem dX9_number__90 : decode cX9_number_ 90 = .ok (.ifCond .ne 6, 3) := by decide +kernel
theorem dX9_number__93 : decode cX9_number_ 93 = .ok (.bipush (-4), 2) := by decide +kernel
theorem dX9_number__95 : decode cX9_number_ 95 = .ok (.ireturn, 1) := by decide +kernel
theorem dX9_number__96 : decode cX9_number_ 96 = .ok (.iconst 0, 1) := by decide +kernel
theorem dX9_number__97 : decode cX9_number_ 97 = .ok (.istore 10, 2) := by decide +kernel
theorem dX9_number__99 : decode cX9_number_ 99 = .ok (.iconst (-1), 1) := by decide +kernel
theorem dX9_number__100 : decode cX9_number_ 100 = .ok (.istore 11, 2) := by decide +kernel
theorem dX9_number__102 : decode cX9_number_ 102 = .ok (.iconst 0, 1) := by decide +kernel
theorem dX9_number__103 : decode cX9_number_ 103 = .ok (.istore 12, 2) := by decide +kernel
theorem dX9_number__105 : decode cX9_number_ 105 = .ok (.iload 12, 2) := by decide +kernel
theorem dX9_number__107 : decode cX9_number_ 107 = .ok (.sipush 1000, 3) := by decide +kernel
theorem dX9_number__110 : decode cX9_number_ 110 = .ok (.if_icmp .ge 106, 3) := by decide +kernel
theorem dX9_number__113 : decode cX9_number_ 113 = .ok (.iconst 0, 1) := by decide +kernel
theorem dX9_number__114 : decode cX9_number_ 114 = .ok (.istore 13, 2) := by decide +kernel
theorem dX9_number__116 : decode cX9_number_ 116 = .ok (.iload 4, 2) := by decide +kernel
theorem dX9_number__118 : decode cX9_number_ 118 = .ok (.istore 14, 2) := by decide +kernel
theorem dX9_number__120 : decode cX9_number_ 120 = .ok (.iload 14, 2) := by decide +kernel
theorem dX9_number__122 : decode cX9_number_ 122 = .ok (.iload 5, 2) := by decide +kernel
theorem dX9_number__124 : decode cX9_number_ 124 = .ok (.if_icmp .gt 66, 3) := by decide +kernel
theorem dX9_number__127 : decode cX9_number_ 127 = .ok (.iload 9, 2) := by decide +kernel
theorem dX9_number__129 : decode cX9_number_ 129 = .ok (.aload_n 0, 1) := by decide +kernel
theorem dX9_number__130 : decode cX9_number_ 130 = .ok (.getfield 50, 3) := by decide +kernel
theorem dX9_number__133 : decode cX9_number_ 133 = .ok (.iload 14, 2) := by decide +kernel
theorem dX9_number__135 : decode cX9_number_ 135 = .ok (.iaload, 1) := by decide +kernel
theorem dX9_number__136 : decode cX9_number_ 136 = .ok (.iadd, 1) := by decide +kernel
theorem dX9_number__137 : decode cX9_number_ 137 = .ok (.istore 15, 2) := by decide +kernel
theorem dX9_number__139 : decode cX9_number_ 139 = .ok (.iload 13, 2) := by decide +kernel
theorem dX9_number__141 : decode cX9_number_ 141 = .ok (.aload_n 0, 1) := by decide +kernel
theorem dX9_number__142 : decode cX9_number_ 142 = .ok (.getfield 53, 3) := by decide +kernel
theorem dX9_number__145 : decode cX9_number_ 145 = .ok (.iload 14, 2) := by decide +kernel
theorem dX9_number__147 : decode cX9_number_ 147 = .ok (.baload, 1) := by decide +kernel
theorem dX9_number__148 : decode cX9_number_ 148 = .ok (.ifCond .ne 7, 3) := by decide +kernel
theorem dX9_number__151 : decode cX9_number_ 151 = .ok (.iconst 0, 1) := by decide +kernel
theorem dX9_number__152 : decode cX9_number_ 152 = .ok (.goto 29, 3) := by decide +kernel
theorem dX9_number__155 : decode cX9_number_ 155 = .ok (.iload 12, 2) := by decide +kernel
theorem dX9_number__157 : decode cX9_number_ 157 = .ok (.iload 15, 2) := by decide +kernel
theorem dX9_number__159 : decode cX9_number_ 159 = .ok (.if_icmp .le 14, 3) := by decide +kernel
theorem dX9_number__162 : decode cX9_number_ 162 = .ok (.iload 6, 2) := by decide +kernel
theorem dX9_number__164 : decode cX9_number_ 164 = .ok (.iload 12, 2) := by decide +kernel
theorem dX9_number__166 : decode cX9_number_ 166 = .ok (.iload 15, 2) := by decide +kernel
theorem dX9_number__168 : decode cX9_number_ 168 = .ok (.isub, 1) := by decide +kernel
theorem dX9_number__169 : decode cX9_number_ 169 = .ok (.imul, 1) := by decide +kernel
theorem dX9_number__170 : decode cX9_number_ 170 = .ok (.goto 11, 3) := by decide +kernel
theorem dX9_number__173 : decode cX9_number_ 173 = .ok (.iload 7, 2) := by decide +kernel
theorem dX9_number__175 : decode cX9_number_ 175 = .ok (.iload 15, 2) := by decide +kernel
theorem dX9_number__177 : decode cX9_number_ 177 = .ok (.iload 12, 2) := by decide +kernel
theorem dX9_number__179 : decode cX9_number_ 179 = .ok (.isub, 1) := by decide +kernel
theorem dX9_number__180 : decode cX9_number_ 180 = .ok (.imul, 1) := by decide +kernel
theorem dX9_number__181 : decode cX9_number_ 181 = .ok (.iadd, 1) := by decide +kernel
theorem dX9_number__182 : decode cX9_number_ 182 = .ok (.istore 13, 2) := by decide +kernel
theorem dX9_number__184 : decode cX9_number_ 184 = .ok (.iinc 14 1, 3) := by decide +kernel
theorem dX9_number__187 : decode cX9_number_ 187 = .ok (.goto (-67), 3) := by decide +kernel
theorem dX9_number__190 : decode cX9_number_ 190 = .ok (.iload 11, 2) := by decide +kernel
theorem dX9_number__192 : decode cX9_number_ 192 = .ok (.ifCond .lt 10, 3) := by decide +kernel
theorem dX9_number__195 : decode cX9_number_ 195 = .ok (.iload 13, 2) := by decide +kernel
theorem dX9_number__197 : decode cX9_number_ 197 = .ok (.iload 11, 2) := by decide +kernel
theorem dX9_number__199 : decode cX9_number_ 199 = .ok (.if_icmp .ge 11, 3) := by decide +kernel
theorem dX9_number__202 : decode cX9_number_ 202 = .ok (.iload 13, 2) := by decide +kernel
theorem dX9_number__204 : decode cX9_number_ 204 = .ok (.istore 11, 2) := by decide +kernel
theorem dX9_number__206 : decode cX9_number_ 206 = .ok (.iload 12, 2) := by decide +kernel
theorem dX9_number__208 : decode cX9_number_ 208 = .ok (.istore 10, 2) := by decide +kernel
theorem dX9_number__210 : decode cX9_number_ 210 = .ok (.iinc 12 1, 3) := by decide +kernel
theorem dX9_number__213 : decode cX9_number_ 213 = .ok (.goto (-108), 3) := by decide +kernel
theorem dX9_number__216 : decode cX9_number_ 216 = .ok (.iload 8, 2) := by decide +kernel
theorem dX9_number__218 : decode cX9_number_ 218 = .ok (.ifCond .ne 8, 3) := by decide +kernel
theorem dX9_number__221 : decode cX9_number_ 221 = .ok (.iload 10, 2) := by decide +kernel
theorem dX9_number__223 : decode cX9_number_ 223 = .ok (.goto 5, 3) := by decide +kernel
theorem dX9_number__226 : decode cX9_number_ 226 = .ok (.iload 11, 2) := by decide +kernel
theorem dX9_number__228 : decode cX9_number_ 228 = .ok (.ireturn, 1) := by decide +kernel
