theorem dX0_init_0 : decode cX0_init 0 = .ok (.aload_n 0, 1) := by decide +kernel
theorem dX0_init_1 : decode cX0_init 1 = .ok (.invokespecial 3, 3) := by decide +kernel
theorem dX0_init_4 : decode cX0_init 4 = .ok (.aload_n 0, 1) := by decide +kernel
theorem dX0_init_5 : decode cX0_init 5 = .ok (.bipush 121, 2) := by decide +kernel
theorem dX0_init_7 : decode cX0_init 7 = .ok (.newarray .int, 2) := by decide +kernel
theorem dX0_init_9 : decode cX0_init 9 = .ok (.putfield 9, 3) := by decide +kernel
theorem dX0_init_12 : decode cX0_init 12 = .ok (.aload_n 0, 1) := by decide +kernel
theorem dX0_init_13 : decode cX0_init 13 = .ok (.bipush 121, 2) := by decide +kernel
theorem dX0_init_15 : decode cX0_init 15 = .ok (.newarray .int, 2) := by decide +kernel
theorem dX0_init_17 : decode cX0_init 17 = .ok (.putfield 15, 3) := by decide +kernel
theorem dX0_init_20 : decode cX0_init 20 = .ok (.aload_n 0, 1) := by decide +kernel
theorem dX0_init_21 : decode cX0_init 21 = .ok (.bipush 64, 2) := by decide +kernel
theorem dX0_init_23 : decode cX0_init 23 = .ok (.newarray .int, 2) := by decide +kernel
theorem dX0_init_25 : decode cX0_init 25 = .ok (.putfield 18, 3) := by decide +kernel
theorem dX0_init_28 : decode cX0_init 28 = .ok (.aload_n 0, 1) := by decide +kernel
theorem dX0_init_29 : decode cX0_init 29 = .ok (.bipush 121, 2) := by decide +kernel
theorem dX0_init_31 : decode cX0_init 31 = .ok (.newarray .long, 2) := by decide +kernel
theorem dX0_init_33 : decode cX0_init 33 = .ok (.putfield 21, 3) := by decide +kernel
theorem dX0_init_36 : decode cX0_init 36 = .ok (.aload_n 0, 1) := by decide +kernel
theorem dX0_init_37 : decode cX0_init 37 = .ok (.bipush 121, 2) := by decide +kernel
theorem dX0_init_39 : decode cX0_init 39 = .ok (.newarray .long, 2) := by decide +kernel
theorem dX0_init_41 : decode cX0_init 41 = .ok (.putfield 25, 3) := by decide +kernel
theorem dX0_init_44 : decode cX0_init 44 = .ok (.aload_n 0, 1) := by decide +kernel
theorem dX0_init_45 : decode cX0_init 45 = .ok (.aload_n 1, 1) := by decide +kernel
theorem dX0_init_46 : decode cX0_init 46 = .ok (.putfield 28, 3) := by decide +kernel
theorem dX0_init_49 : decode cX0_init 49 = .ok (.aload_n 0, 1) := by decide +kernel
theorem dX0_init_50 : decode cX0_init 50 = .ok (.new 32, 3) := by decide +kernel
theorem dX0_init_53 : decode cX0_init 53 = .ok (.dup, 1) := by decide +kernel
theorem dX0_init_54 : decode cX0_init 54 = .ok (.aload_n 1, 1) := by decide +kernel
theorem dX0_init_55 : decode cX0_init 55 = .ok (.invokespecial 34, 3) := by decide +kernel
theorem dX0_init_58 : decode cX0_init 58 = .ok (.putfield 37, 3) := by decide +kernel
theorem dX0_init_61 : decode cX0_init 61 = .ok (.return_, 1) := by decide +kernel
theorem dX0_run_0 : decode cX0_run 0 = .ok (.aload_n 0, 1) := by decide +kernel
theorem dX0_run_1 : decode cX0_run 1 = .ok (.iload_n 2, 1) := by decide +kernel
theorem dX0_run_2 : decode cX0_run 2 = .ok (.iconst 2, 1) := by decide +kernel
theorem dX0_run_3 : decode cX0_run 3 = .ok (.if_icmp .ne 8, 3) := by decide +kernel
theorem dX0_run_6 : decode cX0_run 6 = .ok (.bipush 121, 2) := by decide +kernel
theorem dX0_run_8 : decode cX0_run 8 = .ok (.goto 5, 3) := by decide +kernel
theorem dX0_run_11 : decode cX0_run 11 = .ok (.bipush 8, 2) := by decide +kernel
theorem dX0_run_13 : decode cX0_run 13 = .ok (.putfield 41, 3) := by decide +kernel
theorem dX0_run_16 : decode cX0_run 16 = .ok (.aload_n 0, 1) := by decide +kernel
theorem dX0_run_17 : decode cX0_run 17 = .ok (.getfield 9, 3) := by decide +kernel
theorem dX0_run_20 : decode cX0_run 20 = .ok (.iconst 0, 1) := by decide +kernel
theorem dX0_run_21 : decode cX0_run 21 = .ok (.invokestatic 45, 3) := by decide +kernel
theorem dX0_run_24 : decode cX0_run 24 = .ok (.aload_n 0, 1) := by decide +kernel
theorem dX0_run_25 : decode cX0_run 25 = .ok (.getfield 15, 3) := by decide +kernel
theorem dX0_run_28 : decode cX0_run 28 = .ok (.iconst 0, 1) := by decide +kernel
theorem dX0_run_29 : decode cX0_run 29 = .ok (.invokestatic 45, 3) := by decide +kernel
theorem dX0_run_32 : decode cX0_run 32 = .ok (.aload_n 0, 1) := by decide +kernel
theorem dX0_run_33 : decode cX0_run 33 = .ok (.invokevirtual 51, 3) := by decide +kernel
theorem dX0_run_36 : decode cX0_run 36 = .ok (.iload_n 3, 1) := by decide +kernel
theorem dX0_run_37 : decode cX0_run 37 = .ok (.istore 6, 2) := by decide +kernel
theorem dX0_run_39 : decode cX0_run 39 = .ok (.iload 6, 2) := by decide +kernel
theorem dX0_run_41 : decode cX0_run 41 = .ok (.iload 5, 2) := by decide +kernel
theorem dX0_run_43 : decode cX0_run 43 = .ok (.if_icmp .gt 88, 3) := by decide +kernel
theorem dX0_run_46 : decode cX0_run 46 = .ok (.iload 6, 2) := by decide +kernel
theorem dX0_run_48 : decode cX0_run 48 = .ok (.aload_n 0, 1) := by decide +kernel
theorem dX0_run_49 : decode cX0_run 49 = .ok (.getfield 28, 3) := by decide +kernel
theorem dX0_run_52 : decode cX0_run 52 = .ok (.getfield 54, 3) := by decide +kernel
theorem dX0_run_55 : decode cX0_run 55 = .ok (.if_icmp .gt 76, 3) := by decide +kernel
theorem dX0_run_58 : decode cX0_run 58 = .ok (.aload_n 0, 1) := by decide +kernel
theorem dX0_run_59 : decode cX0_run 59 = .ok (.getfield 37, 3) := by decide +kernel
theorem dX0_run_62 : decode cX0_run 62 = .ok (.iload_n 1, 1) := by decide +kernel
theorem dX0_run_63 : decode cX0_run 63 = .ok (.iload 6, 2) := by decide +kernel
theorem dX0_run_65 : decode cX0_run 65 = .ok (.iload_n 3, 1) := by decide +kernel
theorem dX0_run_66 : decode cX0_run 66 = .ok (.isub, 1) := by decide +kernel
theorem dX0_run_67 : decode cX0_run 67 = .ok (.invokevirtual 59, 3) := by decide +kernel
theorem dX0_run_70 : decode cX0_run 70 = .ok (.iload_n 2, 1) := by decide +kernel
theorem dX0_run_71 : decode cX0_run 71 = .ok (.iconst 2, 1) := by decide +kernel
theorem dX0_run_72 : decode cX0_run 72 = .ok (.if_icmp .ne 7, 3) := by decide +kernel
theorem dX0_run_75 : decode cX0_run 75 = .ok (.aload_n 0, 1) := by decide +kernel
theorem dX0_run_76 : decode cX0_run 76 = .ok (.invokevirtual 63, 3) := by decide +kernel
theorem dX0_run_79 : decode cX0_run 79 = .ok (.iload 6, 2) := by decide +kernel
theorem dX0_run_81 : decode cX0_run 81 = .ok (.iload 4, 2) := by decide +kernel
theorem dX0_run_83 : decode cX0_run 83 = .ok (.if_icmp .ge 8, 3) := by decide +kernel
theorem dX0_run_86 : decode cX0_run 86 = .ok (.bipush (-4), 2) := by decide +kernel
theorem dX0_run_88 : decode cX0_run 88 = .ok (.goto 20, 3) := by decide +kernel
theorem dX0_run_91 : decode cX0_run 91 = .ok (.aload_n 0, 1) := by decide +kernel
theorem dX0_run_92 : decode cX0_run 92 = .ok (.getfield 28, 3) := by decide +kernel
theorem dX0_run_95 : decode cX0_run 95 = .ok (.iload_n 1, 1) := by decide +kernel
theorem dX0_run_96 : decode cX0_run 96 = .ok (.iload 6, 2) := by decide +kernel
theorem dX0_run_98 : decode cX0_run 98 = .ok (.aload_n 0, 1) := by decide +kernel
theorem dX0_run_99 : decode cX0_run 99 = .ok (.getfield 28, 3) := by decide +kernel
theorem dX0_run_102 : decode cX0_run 102 = .ok (.getfield 54, 3) := by decide +kernel
theorem dX0_run_105 : decode cX0_run 105 = .ok (.invokevirtual 66, 3) := by decide +kernel
theorem dX0_run_108 : decode cX0_run 108 = .ok (.istore 7, 2) := by decide +kernel
theorem dX0_run_110 : decode cX0_run 110 = .ok (.iload 7, 2) := by decide +kernel
theorem dX0_run_112 : decode cX0_run 112 = .ok (.bipush (-4), 2) := by decide +kernel
theorem dX0_run_114 : decode cX0_run 114 = .ok (.if_icmp .eq 11, 3) := by decide +kernel
theorem dX0_run_117 : decode cX0_run 117 = .ok (.aload_n 0, 1) := by decide +kernel
theorem dX0_run_118 : decode cX0_run 118 = .ok (.iload_n 2, 1) := by decide +kernel
theorem dX0_run_119 : decode cX0_run 119 = .ok (.iload_n 3, 1) := by decide +kernel
theorem dX0_run_120 : decode cX0_run 120 = .ok (.iload 7, 2) := by decide +kernel
theorem dX0_run_122 : decode cX0_run 122 = .ok (.invokevirtual 70, 3) := by decide +kernel
theorem dX0_run_125 : decode cX0_run 125 = .ok (.iinc 6 1, 3) := by decide +kernel
theorem dX0_run_128 : decode cX0_run 128 = .ok (.goto (-89), 3) := by decide +kernel
theorem dX0_run_131 : decode cX0_run 131 = .ok (.return_, 1) := by decide +kernel
theorem dX0_restart_0 : decode cX0_restart 0 = .ok (.aload_n 0, 1) := by decide +kernel
theorem dX0_restart_1 : decode cX0_restart 1 = .ok (.iconst 0, 1) := by decide +kernel
theorem dX0_restart_2 : decode cX0_restart 2 = .ok (.putfield 74, 3) := by decide +kernel
theorem dX0_restart_5 : decode cX0_restart 5 = .ok (.aload_n 0, 1) := by decide +kernel
theorem dX0_restart_6 : decode cX0_restart 6 = .ok (.iconst 0, 1) := by decide +kernel
theorem dX0_restart_7 : decode cX0_restart 7 = .ok (.putfield 77, 3) := by decide +kernel
theorem dX0_restart_10 : decode cX0_restart 10 = .ok (.aload_n 0, 1) := by decide +kernel
theorem dX0_restart_11 : decode cX0_restart 11 = .ok (.getfield 21, 3) := by decide +kernel
theorem dX0_restart_14 : decode cX0_restart 14 = .ok (.lconst 0, 1) := by decide +kernel
theorem dX0_restart_15 : decode cX0_restart 15 = .ok (.invokestatic 80, 3) := by decide +kernel
theorem dX0_restart_18 : decode cX0_restart 18 = .ok (.aload_n 0, 1) := by decide +kernel
theorem dX0_restart_19 : decode cX0_restart 19 = .ok (.getfield 25, 3) := by decide +kernel
theorem dX0_restart_22 : decode cX0_restart 22 = .ok (.lconst 0, 1) := by decide +kernel
theorem dX0_restart_23 : decode cX0_restart 23 = .ok (.invokestatic 80, 3) := by decide +kernel
theorem dX0_restart_26 : decode cX0_restart 26 = .ok (.return_, 1) := by decide +kernel
theorem dX0_follow_0 : decode cX0_follow 0 = .ok (.iconst 1, 1) := by decide +kernel
theorem dX0_follow_1 : decode cX0_follow 1 = .ok (.istore_n 1, 1) := by decide +kernel
theorem dX0_follow_2 : decode cX0_follow 2 = .ok (.iconst 0, 1) := by decide +kernel
theorem dX0_follow_3 : decode cX0_follow 3 = .ok (.istore_n 2, 1) := by decide +kernel
theorem dX0_follow_4 : decode cX0_follow 4 = .ok (.iload_n 2, 1) := by decide +kernel
theorem dX0_follow_5 : decode cX0_follow 5 = .ok (.aload_n 0, 1) := by decide +kernel
theorem dX0_follow_6 : decode cX0_follow 6 = .ok (.getfield 74, 3) := by decide +kernel
theorem dX0_follow_9 : decode cX0_follow 9 = .ok (.if_icmp .ge 37, 3) := by decide +kernel
theorem dX0_follow_12 : decode cX0_follow 12 = .ok (.iload_n 1, 1) := by decide +kernel
theorem dX0_follow_13 : decode cX0_follow 13 = .ok (.ifCond .eq 25, 3) := by decide +kernel
theorem dX0_follow_16 : decode cX0_follow 16 = .ok (.aload_n 0, 1) := by decide +kernel
theorem dX0_follow_17 : decode cX0_follow 17 = .ok (.getfield 18, 3) := by decide +kernel
theorem dX0_follow_20 : decode cX0_follow 20 = .ok (.iload_n 2, 1) := by decide +kernel
theorem dX0_follow_21 : decode cX0_follow 21 = .ok (.iaload, 1) := by decide +kernel
theorem dX0_follow_22 : decode cX0_follow 22 = .ok (.aload_n 0, 1) := by decide +kernel
theorem dX0_follow_23 : decode cX0_follow 23 = .ok (.getfield 37, 3) := by decide +kernel
theorem dX0_follow_26 : decode cX0_follow 26 = .ok (.getfield 83, 3) := by decide +kernel
theorem dX0_follow_29 : decode cX0_follow 29 = .ok (.iload_n 2, 1) := by decide +kernel
theorem dX0_follow_30 : decode cX0_follow 30 = .ok (.iaload, 1) := by decide +kernel
theorem dX0_follow_31 : decode cX0_follow 31 = .ok (.if_icmp .ne 7, 3) := by decide +kernel
theorem dX0_follow_34 : decode cX0_follow 34 = .ok (.iconst 1, 1) := by decide +kernel
theorem dX0_follow_35 : decode cX0_follow 35 = .ok (.goto 4, 3) := by decide +kernel
theorem dX0_follow_38 : decode cX0_follow 38 = .ok (.iconst 0, 1) := by decide +kernel
theorem dX0_follow_39 : decode cX0_follow 39 = .ok (.istore_n 1, 1) := by decide +kernel
theorem dX0_follow_40 : decode cX0_follow 40 = .ok (.iinc 2 1, 3) := by decide +kernel
theorem dX0_follow_43 : decode cX0_follow 43 = .ok (.goto (-39), 3) := by decide +kernel
theorem dX0_follow_46 : decode cX0_follow 46 = .ok (.iload_n 1, 1) := by decide +kernel
theorem dX0_follow_47 : decode cX0_follow 47 = .ok (.ifCond .ne 7, 3) := by decide +kernel
theorem dX0_follow_50 : decode cX0_follow 50 = .ok (.aload_n 0, 1) := by decide +kernel
theorem dX0_follow_51 : decode cX0_follow 51 = .ok (.invokevirtual 51, 3) := by decide +kernel
theorem dX0_follow_54 : decode cX0_follow 54 = .ok (.aload_n 0, 1) := by decide +kernel
theorem dX0_follow_55 : decode cX0_follow 55 = .ok (.getfield 74, 3) := by decide +kernel
theorem dX0_follow_58 : decode cX0_follow 58 = .ok (.istore_n 2, 1) := by decide +kernel
theorem dX0_follow_59 : decode cX0_follow 59 = .ok (.iload_n 2, 1) := by decide +kernel
theorem dX0_follow_60 : decode cX0_follow 60 = .ok (.aload_n 0, 1) := by decide +kernel
theorem dX0_follow_61 : decode cX0_follow 61 = .ok (.getfield 37, 3) := by decide +kernel
theorem dX0_follow_64 : decode cX0_follow 64 = .ok (.getfield 86, 3) := by decide +kernel
theorem dX0_follow_67 : decode cX0_follow 67 = .ok (.if_icmp .gt 37, 3) := by decide +kernel
theorem dX0_follow_70 : decode cX0_follow 70 = .ok (.aload_n 0, 1) := by decide +kernel
theorem dX0_follow_71 : decode cX0_follow 71 = .ok (.aload_n 0, 1) := by decide +kernel
theorem dX0_follow_72 : decode cX0_follow 72 = .ok (.getfield 37, 3) := by decide +kernel
theorem dX0_follow_75 : decode cX0_follow 75 = .ok (.getfield 83, 3) := by decide +kernel
theorem dX0_follow_78 : decode cX0_follow 78 = .ok (.iload_n 2, 1) := by decide +kernel
theorem dX0_follow_79 : decode cX0_follow 79 = .ok (.iaload, 1) := by decide +kernel
theorem dX0_follow_80 : decode cX0_follow 80 = .ok (.invokevirtual 89, 3) := by decide +kernel
theorem dX0_follow_83 : decode cX0_follow 83 = .ok (.aload_n 0, 1) := by decide +kernel
theorem dX0_follow_84 : decode cX0_follow 84 = .ok (.getfield 18, 3) := by decide +kernel
theorem dX0_follow_87 : decode cX0_follow 87 = .ok (.iload_n 2, 1) := by decide +kernel
theorem dX0_follow_88 : decode cX0_follow 88 = .ok (.aload_n 0, 1) := by decide +kernel
theorem dX0_follow_89 : decode cX0_follow 89 = .ok (.getfield 37, 3) := by decide +kernel
theorem dX0_follow_92 : decode cX0_follow 92 = .ok (.getfield 83, 3) := by decide +kernel
theorem dX0_follow_95 : decode cX0_follow 95 = .ok (.iload_n 2, 1) := by decide +kernel
theorem dX0_follow_96 : decode cX0_follow 96 = .ok (.iaload, 1) := by decide +kernel
theorem dX0_follow_97 : decode cX0_follow 97 = .ok (.iastore, 1) := by decide +kernel
theorem dX0_follow_98 : decode cX0_follow 98 = .ok (.iinc 2 1, 3) := by decide +kernel
theorem dX0_follow_101 : decode cX0_follow 101 = .ok (.goto (-42), 3) := by decide +kernel
theorem dX0_follow_104 : decode cX0_follow 104 = .ok (.aload_n 0, 1) := by decide +kernel
theorem dX0_follow_105 : decode cX0_follow 105 = .ok (.aload_n 0, 1) := by decide +kernel
theorem dX0_follow_106 : decode cX0_follow 106 = .ok (.getfield 37, 3) := by decide +kernel
theorem dX0_follow_109 : decode cX0_follow 109 = .ok (.getfield 86, 3) := by decide +kernel
theorem dX0_follow_112 : decode cX0_follow 112 = .ok (.iconst 1, 1) := by decide +kernel
theorem dX0_follow_113 : decode cX0_follow 113 = .ok (.iadd, 1) := by decide +kernel
theorem dX0_follow_114 : decode cX0_follow 114 = .ok (.putfield 74, 3) := by decide +kernel
theorem dX0_follow_117 : decode cX0_follow 117 = .ok (.return_, 1) := by decide +kernel
theorem dX0_take_0 : decode cX0_take 0 = .ok (.iconst 0, 1) := by decide +kernel
theorem dX0_take_1 : decode cX0_take 1 = .ok (.istore_n 2, 1) := by decide +kernel
theorem dX0_take_2 : decode cX0_take 2 = .ok (.iload_n 2, 1) := by decide +kernel
theorem dX0_take_3 : decode cX0_take 3 = .ok (.bipush 121, 2) := by decide +kernel
theorem dX0_take_5 : decode cX0_take 5 = .ok (.if_icmp .ge 73, 3) := by decide +kernel
theorem dX0_take_8 : decode cX0_take 8 = .ok (.aload_n 0, 1) := by decide +kernel
theorem dX0_take_9 : decode cX0_take 9 = .ok (.getfield 21, 3) := by decide +kernel
theorem dX0_take_12 : decode cX0_take 12 = .ok (.iload_n 2, 1) := by decide +kernel
theorem dX0_take_13 : decode cX0_take 13 = .ok (.laload, 1) := by decide +kernel
theorem dX0_take_14 : decode cX0_take 14 = .ok (.lstore_n 3, 1) := by decide +kernel
theorem dX0_take_15 : decode cX0_take 15 = .ok (.aload_n 0, 1) := by decide +kernel
theorem dX0_take_16 : decode cX0_take 16 = .ok (.getfield 21, 3) := by decide +kernel
theorem dX0_take_19 : decode cX0_take 19 = .ok (.iload_n 2, 1) := by decide +kernel
theorem dX0_take_20 : decode cX0_take 20 = .ok (.iload_n 2, 1) := by decide +kernel
theorem dX0_take_21 : decode cX0_take 21 = .ok (.bipush 11, 2) := by decide +kernel
theorem dX0_take_23 : decode cX0_take 23 = .ok (.idiv, 1) := by decide +kernel
theorem dX0_take_24 : decode cX0_take 24 = .ok (.iload_n 1, 1) := by decide +kernel
theorem dX0_take_25 : decode cX0_take 25 = .ok (.lload_n 3, 1) := by decide +kernel
theorem dX0_take_26 : decode cX0_take 26 = .ok (.aload_n 0, 1) := by decide +kernel
theorem dX0_take_27 : decode cX0_take 27 = .ok (.getfield 25, 3) := by decide +kernel
theorem dX0_take_30 : decode cX0_take 30 = .ok (.iload_n 2, 1) := by decide +kernel
theorem dX0_take_31 : decode cX0_take 31 = .ok (.laload, 1) := by decide +kernel
theorem dX0_take_32 : decode cX0_take 32 = .ok (.aload_n 0, 1) := by decide +kernel
theorem dX0_take_33 : decode cX0_take 33 = .ok (.getfield 77, 3) := by decide +kernel
theorem dX0_take_36 : decode cX0_take 36 = .ok (.invokestatic 93, 3) := by decide +kernel
theorem dX0_take_39 : decode cX0_take 39 = .ok (.lastore, 1) := by decide +kernel
theorem dX0_take_40 : decode cX0_take 40 = .ok (.aload_n 0, 1) := by decide +kernel
theorem dX0_take_41 : decode cX0_take 41 = .ok (.getfield 25, 3) := by decide +kernel
theorem dX0_take_44 : decode cX0_take 44 = .ok (.iload_n 2, 1) := by decide +kernel
theorem dX0_take_45 : decode cX0_take 45 = .ok (.iload_n 2, 1) := by decide +kernel
theorem dX0_take_46 : decode cX0_take 46 = .ok (.bipush 11, 2) := by decide +kernel
theorem dX0_take_48 : decode cX0_take 48 = .ok (.irem, 1) := by decide +kernel
theorem dX0_take_49 : decode cX0_take 49 = .ok (.iload_n 1, 1) := by decide +kernel
theorem dX0_take_50 : decode cX0_take 50 = .ok (.aload_n 0, 1) := by decide +kernel
theorem dX0_take_51 : decode cX0_take 51 = .ok (.getfield 21, 3) := by decide +kernel
theorem dX0_take_54 : decode cX0_take 54 = .ok (.iload_n 2, 1) := by decide +kernel
theorem dX0_take_55 : decode cX0_take 55 = .ok (.laload, 1) := by decide +kernel
theorem dX0_take_56 : decode cX0_take 56 = .ok (.lload_n 3, 1) := by decide +kernel
theorem dX0_take_57 : decode cX0_take 57 = .ok (.lsub, 1) := by decide +kernel
theorem dX0_take_58 : decode cX0_take 58 = .ok (.aload_n 0, 1) := by decide +kernel
theorem dX0_take_59 : decode cX0_take 59 = .ok (.getfield 25, 3) := by decide +kernel
theorem dX0_take_62 : decode cX0_take 62 = .ok (.iload_n 2, 1) := by decide +kernel
theorem dX0_take_63 : decode cX0_take 63 = .ok (.laload, 1) := by decide +kernel
theorem dX0_take_64 : decode cX0_take 64 = .ok (.aload_n 0, 1) := by decide +kernel
theorem dX0_take_65 : decode cX0_take 65 = .ok (.getfield 77, 3) := by decide +kernel
theorem dX0_take_68 : decode cX0_take 68 = .ok (.invokestatic 97, 3) := by decide +kernel
theorem dX0_take_71 : decode cX0_take 71 = .ok (.lastore, 1) := by decide +kernel
theorem dX0_take_72 : decode cX0_take 72 = .ok (.iinc 2 1, 3) := by decide +kernel
theorem dX0_take_75 : decode cX0_take 75 = .ok (.goto (-73), 3) := by decide +kernel
theorem dX0_take_78 : decode cX0_take 78 = .ok (.aload_n 0, 1) := by decide +kernel
theorem dX0_take_79 : decode cX0_take 79 = .ok (.dup, 1) := by decide +kernel
theorem dX0_take_80 : decode cX0_take 80 = .ok (.getfield 77, 3) := by decide +kernel
theorem dX0_take_83 : decode cX0_take 83 = .ok (.iload_n 1, 1) := by decide +kernel
theorem dX0_take_84 : decode cX0_take 84 = .ok (.bipush (-4), 2) := by decide +kernel
theorem dX0_take_86 : decode cX0_take 86 = .ok (.if_icmp .ne 7, 3) := by decide +kernel
theorem dX0_take_89 : decode cX0_take 89 = .ok (.iconst 0, 1) := by decide +kernel
theorem dX0_take_90 : decode cX0_take 90 = .ok (.goto 4, 3) := by decide +kernel
theorem dX0_take_93 : decode cX0_take 93 = .ok (.iconst 1, 1) := by decide +kernel
theorem dX0_take_94 : decode cX0_take 94 = .ok (.iadd, 1) := by decide +kernel
theorem dX0_take_95 : decode cX0_take 95 = .ok (.putfield 77, 3) := by decide +kernel
theorem dX0_take_98 : decode cX0_take 98 = .ok (.return_, 1) := by decide +kernel
theorem dX0_score_0 : decode cX0_score 0 = .ok (.iconst 0, 1) := by decide +kernel
theorem dX0_score_1 : decode cX0_score 1 = .ok (.istore 4, 2) := by decide +kernel
theorem dX0_score_3 : decode cX0_score 3 = .ok (.iload 4, 2) := by decide +kernel
theorem dX0_score_5 : decode cX0_score 5 = .ok (.aload_n 0, 1) := by decide +kernel
theorem dX0_score_6 : decode cX0_score 6 = .ok (.getfield 41, 3) := by decide +kernel
theorem dX0_score_9 : decode cX0_score 9 = .ok (.if_icmp .ge 75, 3) := by decide +kernel
theorem dX0_score_12 : decode cX0_score 12 = .ok (.iload_n 1, 1) := by decide +kernel
theorem dX0_score_13 : decode cX0_score 13 = .ok (.iconst 2, 1) := by decide +kernel
theorem dX0_score_14 : decode cX0_score 14 = .ok (.if_icmp .ne 13, 3) := by decide +kernel
theorem dX0_score_17 : decode cX0_score 17 = .ok (.aload_n 0, 1) := by decide +kernel
theorem dX0_score_18 : decode cX0_score 18 = .ok (.iload 4, 2) := by decide +kernel
theorem dX0_score_20 : decode cX0_score 20 = .ok (.iload_n 2, 1) := by decide +kernel
theorem dX0_score_21 : decode cX0_score 21 = .ok (.invokevirtual 100, 3) := by decide +kernel
theorem dX0_score_24 : decode cX0_score 24 = .ok (.goto 17, 3) := by decide +kernel
theorem dX0_score_27 : decode cX0_score 27 = .ok (.aload_n 0, 1) := by decide +kernel
theorem dX0_score_28 : decode cX0_score 28 = .ok (.getfield 37, 3) := by decide +kernel
theorem dX0_score_31 : decode cX0_score 31 = .ok (.iload_n 1, 1) := by decide +kernel
theorem dX0_score_32 : decode cX0_score 32 = .ok (.iload 4, 2) := by decide +kernel
theorem dX0_score_34 : decode cX0_score 34 = .ok (.iconst 1, 1) := by decide +kernel
theorem dX0_score_35 : decode cX0_score 35 = .ok (.iadd, 1) := by decide +kernel
theorem dX0_score_36 : decode cX0_score 36 = .ok (.iconst 0, 1) := by decide +kernel
theorem dX0_score_37 : decode cX0_score 37 = .ok (.iload_n 2, 1) := by decide +kernel
theorem dX0_score_38 : decode cX0_score 38 = .ok (.invokevirtual 104, 3) := by decide +kernel
theorem dX0_score_41 : decode cX0_score 41 = .ok (.istore 5, 2) := by decide +kernel
theorem dX0_score_43 : decode cX0_score 43 = .ok (.iload 5, 2) := by decide +kernel
theorem dX0_score_45 : decode cX0_score 45 = .ok (.bipush (-4), 2) := by decide +kernel
theorem dX0_score_47 : decode cX0_score 47 = .ok (.if_icmp .eq 31, 3) := by decide +kernel
theorem dX0_score_50 : decode cX0_score 50 = .ok (.aload_n 0, 1) := by decide +kernel
theorem dX0_score_51 : decode cX0_score 51 = .ok (.getfield 9, 3) := by decide +kernel
theorem dX0_score_54 : decode cX0_score 54 = .ok (.iload 4, 2) := by decide +kernel
theorem dX0_score_56 : decode cX0_score 56 = .ok (.dup2, 1) := by decide +kernel
theorem dX0_score_57 : decode cX0_score 57 = .ok (.iaload, 1) := by decide +kernel
theorem dX0_score_58 : decode cX0_score 58 = .ok (.iconst 1, 1) := by decide +kernel
theorem dX0_score_59 : decode cX0_score 59 = .ok (.iadd, 1) := by decide +kernel
theorem dX0_score_60 : decode cX0_score 60 = .ok (.iastore, 1) := by decide +kernel
theorem dX0_score_61 : decode cX0_score 61 = .ok (.aload_n 0, 1) := by decide +kernel
theorem dX0_score_62 : decode cX0_score 62 = .ok (.getfield 15, 3) := by decide +kernel
theorem dX0_score_65 : decode cX0_score 65 = .ok (.iload 4, 2) := by decide +kernel
theorem dX0_score_67 : decode cX0_score 67 = .ok (.dup2, 1) := by decide +kernel
theorem dX0_score_68 : decode cX0_score 68 = .ok (.iaload, 1) := by decide +kernel
theorem dX0_score_69 : decode cX0_score 69 = .ok (.iload 5, 2) := by decide +kernel
theorem dX0_score_71 : decode cX0_score 71 = .ok (.iload_n 3, 1) := by decide +kernel
theorem dX0_score_72 : decode cX0_score 72 = .ok (.isub, 1) := by decide +kernel
theorem dX0_score_73 : decode cX0_score 73 = .ok (.invokestatic 108, 3) := by decide +kernel
theorem dX0_score_76 : decode cX0_score 76 = .ok (.iadd, 1) := by decide +kernel
theorem dX0_score_77 : decode cX0_score 77 = .ok (.iastore, 1) := by decide +kernel
theorem dX0_score_78 : decode cX0_score 78 = .ok (.iinc 4 1, 3) := by decide +kernel
theorem dX0_score_81 : decode cX0_score 81 = .ok (.goto (-78), 3) := by decide +kernel
theorem dX0_score_84 : decode cX0_score 84 = .ok (.return_, 1) := by decide +kernel
theorem dX0_stepTold_0 : decode cX0_stepTold 0 = .ok (.aload_n 0, 1) := by decide +kernel
theorem dX0_stepTold_1 : decode cX0_stepTold 1 = .ok (.getfield 77, 3) := by decide +kernel
theorem dX0_stepTold_4 : decode cX0_stepTold 4 = .ok (.iconst 2, 1) := by decide +kernel
theorem dX0_stepTold_5 : decode cX0_stepTold 5 = .ok (.if_icmp .ge 8, 3) := by decide +kernel
theorem dX0_stepTold_8 : decode cX0_stepTold 8 = .ok (.bipush (-4), 2) := by decide +kernel
theorem dX0_stepTold_10 : decode cX0_stepTold 10 = .ok (.goto 19, 3) := by decide +kernel
theorem dX0_stepTold_13 : decode cX0_stepTold 13 = .ok (.aload_n 0, 1) := by decide +kernel
theorem dX0_stepTold_14 : decode cX0_stepTold 14 = .ok (.getfield 21, 3) := by decide +kernel
theorem dX0_stepTold_17 : decode cX0_stepTold 17 = .ok (.iload_n 1, 1) := by decide +kernel
theorem dX0_stepTold_18 : decode cX0_stepTold 18 = .ok (.laload, 1) := by decide +kernel
theorem dX0_stepTold_19 : decode cX0_stepTold 19 = .ok (.aload_n 0, 1) := by decide +kernel
theorem dX0_stepTold_20 : decode cX0_stepTold 20 = .ok (.getfield 25, 3) := by decide +kernel
theorem dX0_stepTold_23 : decode cX0_stepTold 23 = .ok (.iload_n 1, 1) := by decide +kernel
theorem dX0_stepTold_24 : decode cX0_stepTold 24 = .ok (.laload, 1) := by decide +kernel
theorem dX0_stepTold_25 : decode cX0_stepTold 25 = .ok (.iload_n 2, 1) := by decide +kernel
theorem dX0_stepTold_26 : decode cX0_stepTold 26 = .ok (.invokestatic 114, 3) := by decide +kernel
theorem dX0_stepTold_29 : decode cX0_stepTold 29 = .ok (.ireturn, 1) := by decide +kernel
theorem dX0_bestPoint_0 : decode cX0_bestPoint 0 = .ok (.iconst 0, 1) := by decide +kernel
theorem dX0_bestPoint_1 : decode cX0_bestPoint 1 = .ok (.istore_n 1, 1) := by decide +kernel
theorem dX0_bestPoint_2 : decode cX0_bestPoint 2 = .ok (.iconst 1, 1) := by decide +kernel
theorem dX0_bestPoint_3 : decode cX0_bestPoint 3 = .ok (.istore_n 2, 1) := by decide +kernel
theorem dX0_bestPoint_4 : decode cX0_bestPoint 4 = .ok (.iload_n 2, 1) := by decide +kernel
theorem dX0_bestPoint_5 : decode cX0_bestPoint 5 = .ok (.aload_n 0, 1) := by decide +kernel
theorem dX0_bestPoint_6 : decode cX0_bestPoint 6 = .ok (.getfield 41, 3) := by decide +kernel
theorem dX0_bestPoint_9 : decode cX0_bestPoint 9 = .ok (.if_icmp .ge 78, 3) := by decide +kernel
theorem dX0_bestPoint_12 : decode cX0_bestPoint 12 = .ok (.aload_n 0, 1) := by decide +kernel
theorem dX0_bestPoint_13 : decode cX0_bestPoint 13 = .ok (.getfield 9, 3) := by decide +kernel
theorem dX0_bestPoint_16 : decode cX0_bestPoint 16 = .ok (.iload_n 2, 1) := by decide +kernel
theorem dX0_bestPoint_17 : decode cX0_bestPoint 17 = .ok (.iaload, 1) := by decide +kernel
theorem dX0_bestPoint_18 : decode cX0_bestPoint 18 = .ok (.aload_n 0, 1) := by decide +kernel
theorem dX0_bestPoint_19 : decode cX0_bestPoint 19 = .ok (.getfield 9, 3) := by decide +kernel
theorem dX0_bestPoint_22 : decode cX0_bestPoint 22 = .ok (.iload_n 1, 1) := by decide +kernel
theorem dX0_bestPoint_23 : decode cX0_bestPoint 23 = .ok (.iaload, 1) := by decide +kernel
theorem dX0_bestPoint_24 : decode cX0_bestPoint 24 = .ok (.if_icmp .le 7, 3) := by decide +kernel
theorem dX0_bestPoint_27 : decode cX0_bestPoint 27 = .ok (.iconst 1, 1) := by decide +kernel
theorem dX0_bestPoint_28 : decode cX0_bestPoint 28 = .ok (.goto 4, 3) := by decide +kernel
theorem dX0_bestPoint_31 : decode cX0_bestPoint 31 = .ok (.iconst 0, 1) := by decide +kernel
theorem dX0_bestPoint_32 : decode cX0_bestPoint 32 = .ok (.istore_n 3, 1) := by decide +kernel
theorem dX0_bestPoint_33 : decode cX0_bestPoint 33 = .ok (.aload_n 0, 1) := by decide +kernel
theorem dX0_bestPoint_34 : decode cX0_bestPoint 34 = .ok (.getfield 9, 3) := by decide +kernel
theorem dX0_bestPoint_37 : decode cX0_bestPoint 37 = .ok (.iload_n 2, 1) := by decide +kernel
theorem dX0_bestPoint_38 : decode cX0_bestPoint 38 = .ok (.iaload, 1) := by decide +kernel
theorem dX0_bestPoint_39 : decode cX0_bestPoint 39 = .ok (.aload_n 0, 1) := by decide +kernel
theorem dX0_bestPoint_40 : decode cX0_bestPoint 40 = .ok (.getfield 9, 3) := by decide +kernel
theorem dX0_bestPoint_43 : decode cX0_bestPoint 43 = .ok (.iload_n 1, 1) := by decide +kernel
theorem dX0_bestPoint_44 : decode cX0_bestPoint 44 = .ok (.iaload, 1) := by decide +kernel
theorem dX0_bestPoint_45 : decode cX0_bestPoint 45 = .ok (.if_icmp .ne 22, 3) := by decide +kernel
theorem dX0_bestPoint_48 : decode cX0_bestPoint 48 = .ok (.aload_n 0, 1) := by decide +kernel
theorem dX0_bestPoint_49 : decode cX0_bestPoint 49 = .ok (.getfield 15, 3) := by decide +kernel
theorem dX0_bestPoint_52 : decode cX0_bestPoint 52 = .ok (.iload_n 2, 1) := by decide +kernel
theorem dX0_bestPoint_53 : decode cX0_bestPoint 53 = .ok (.iaload, 1) := by decide +kernel
theorem dX0_bestPoint_54 : decode cX0_bestPoint 54 = .ok (.aload_n 0, 1) := by decide +kernel
theorem dX0_bestPoint_55 : decode cX0_bestPoint 55 = .ok (.getfield 15, 3) := by decide +kernel
theorem dX0_bestPoint_58 : decode cX0_bestPoint 58 = .ok (.iload_n 1, 1) := by decide +kernel
theorem dX0_bestPoint_59 : decode cX0_bestPoint 59 = .ok (.iaload, 1) := by decide +kernel
theorem dX0_bestPoint_60 : decode cX0_bestPoint 60 = .ok (.if_icmp .ge 7, 3) := by decide +kernel
theorem dX0_bestPoint_63 : decode cX0_bestPoint 63 = .ok (.iconst 1, 1) := by decide +kernel
theorem dX0_bestPoint_64 : decode cX0_bestPoint 64 = .ok (.goto 4, 3) := by decide +kernel
theorem dX0_bestPoint_67 : decode cX0_bestPoint 67 = .ok (.iconst 0, 1) := by decide +kernel
theorem dX0_bestPoint_68 : decode cX0_bestPoint 68 = .ok (.istore 4, 2) := by decide +kernel
theorem dX0_bestPoint_70 : decode cX0_bestPoint 70 = .ok (.iload_n 3, 1) := by decide +kernel
theorem dX0_bestPoint_71 : decode cX0_bestPoint 71 = .ok (.ifCond .ne 8, 3) := by decide +kernel
theorem dX0_bestPoint_74 : decode cX0_bestPoint 74 = .ok (.iload 4, 2) := by decide +kernel
theorem dX0_bestPoint_76 : decode cX0_bestPoint 76 = .ok (.ifCond .eq 5, 3) := by decide +kernel
theorem dX0_bestPoint_79 : decode cX0_bestPoint 79 = .ok (.iload_n 2, 1) := by decide +kernel
theorem dX0_bestPoint_80 : decode cX0_bestPoint 80 = .ok (.istore_n 1, 1) := by decide +kernel
theorem dX0_bestPoint_81 : decode cX0_bestPoint 81 = .ok (.iinc 2 1, 3) := by decide +kernel
theorem dX0_bestPoint_84 : decode cX0_bestPoint 84 = .ok (.goto (-80), 3) := by decide +kernel
theorem dX0_bestPoint_87 : decode cX0_bestPoint 87 = .ok (.iload_n 1, 1) := by decide +kernel
theorem dX0_bestPoint_88 : decode cX0_bestPoint 88 = .ok (.ireturn, 1) := by decide +kernel
theorem dX1_init_0 : decode cX1_init 0 = .ok (.aload_n 0, 1) := by decide +kernel
theorem dX1_init_1 : decode cX1_init 1 = .ok (.invokespecial 3, 3) := by decide +kernel
theorem dX1_init_4 : decode cX1_init 4 = .ok (.aload_n 0, 1) := by decide +kernel
theorem dX1_init_5 : decode cX1_init 5 = .ok (.bipush 6, 2) := by decide +kernel
theorem dX1_init_7 : decode cX1_init 7 = .ok (.newarray .int, 2) := by decide +kernel
theorem dX1_init_9 : decode cX1_init 9 = .ok (.putfield 9, 3) := by decide +kernel
theorem dX1_init_12 : decode cX1_init 12 = .ok (.aload_n 0, 1) := by decide +kernel
theorem dX1_init_13 : decode cX1_init 13 = .ok (.bipush 6, 2) := by decide +kernel
theorem dX1_init_15 : decode cX1_init 15 = .ok (.newarray .int, 2) := by decide +kernel
theorem dX1_init_17 : decode cX1_init 17 = .ok (.putfield 15, 3) := by decide +kernel
theorem dX1_init_20 : decode cX1_init 20 = .ok (.aload_n 0, 1) := by decide +kernel
theorem dX1_init_21 : decode cX1_init 21 = .ok (.bipush 6, 2) := by decide +kernel
theorem dX1_init_23 : decode cX1_init 23 = .ok (.newarray .int, 2) := by decide +kernel
theorem dX1_init_25 : decode cX1_init 25 = .ok (.putfield 18, 3) := by decide +kernel
theorem dX1_init_28 : decode cX1_init 28 = .ok (.return_, 1) := by decide +kernel
theorem dX1_add_0 : decode cX1_add 0 = .ok (.aload_n 0, 1) := by decide +kernel
theorem dX1_add_1 : decode cX1_add 1 = .ok (.getfield 21, 3) := by decide +kernel
theorem dX1_add_4 : decode cX1_add 4 = .ok (.bipush 6, 2) := by decide +kernel
theorem dX1_add_6 : decode cX1_add 6 = .ok (.if_icmp .ge 43, 3) := by decide +kernel
theorem dX1_add_9 : decode cX1_add 9 = .ok (.aload_n 0, 1) := by decide +kernel
theorem dX1_add_10 : decode cX1_add 10 = .ok (.getfield 9, 3) := by decide +kernel
theorem dX1_add_13 : decode cX1_add 13 = .ok (.aload_n 0, 1) := by decide +kernel
theorem dX1_add_14 : decode cX1_add 14 = .ok (.getfield 21, 3) := by decide +kernel
theorem dX1_add_17 : decode cX1_add 17 = .ok (.iload_n 1, 1) := by decide +kernel
theorem dX1_add_18 : decode cX1_add 18 = .ok (.iastore, 1) := by decide +kernel
theorem dX1_add_19 : decode cX1_add 19 = .ok (.aload_n 0, 1) := by decide +kernel
theorem dX1_add_20 : decode cX1_add 20 = .ok (.getfield 15, 3) := by decide +kernel
theorem dX1_add_23 : decode cX1_add 23 = .ok (.aload_n 0, 1) := by decide +kernel
theorem dX1_add_24 : decode cX1_add 24 = .ok (.getfield 21, 3) := by decide +kernel
theorem dX1_add_27 : decode cX1_add 27 = .ok (.iload_n 2, 1) := by decide +kernel
theorem dX1_add_28 : decode cX1_add 28 = .ok (.iastore, 1) := by decide +kernel
theorem dX1_add_29 : decode cX1_add 29 = .ok (.aload_n 0, 1) := by decide +kernel
theorem dX1_add_30 : decode cX1_add 30 = .ok (.getfield 18, 3) := by decide +kernel
theorem dX1_add_33 : decode cX1_add 33 = .ok (.aload_n 0, 1) := by decide +kernel
theorem dX1_add_34 : decode cX1_add 34 = .ok (.getfield 21, 3) := by decide +kernel
theorem dX1_add_37 : decode cX1_add 37 = .ok (.iload_n 3, 1) := by decide +kernel
theorem dX1_add_38 : decode cX1_add 38 = .ok (.iastore, 1) := by decide +kernel
theorem dX1_add_39 : decode cX1_add 39 = .ok (.aload_n 0, 1) := by decide +kernel
theorem dX1_add_40 : decode cX1_add 40 = .ok (.dup, 1) := by decide +kernel
theorem dX1_add_41 : decode cX1_add 41 = .ok (.getfield 21, 3) := by decide +kernel
theorem dX1_add_44 : decode cX1_add 44 = .ok (.iconst 1, 1) := by decide +kernel
theorem dX1_add_45 : decode cX1_add 45 = .ok (.iadd, 1) := by decide +kernel
theorem dX1_add_46 : decode cX1_add 46 = .ok (.putfield 21, 3) := by decide +kernel
theorem dX1_add_49 : decode cX1_add 49 = .ok (.return_, 1) := by decide +kernel
theorem dX1_copy_0 : decode cX1_copy 0 = .ok (.aload_n 0, 1) := by decide +kernel
theorem dX1_copy_1 : decode cX1_copy 1 = .ok (.iconst 0, 1) := by decide +kernel
theorem dX1_copy_2 : decode cX1_copy 2 = .ok (.putfield 21, 3) := by decide +kernel
theorem dX1_copy_5 : decode cX1_copy 5 = .ok (.iconst 0, 1) := by decide +kernel
theorem dX1_copy_6 : decode cX1_copy 6 = .ok (.istore_n 2, 1) := by decide +kernel
theorem dX1_copy_7 : decode cX1_copy 7 = .ok (.iload_n 2, 1) := by decide +kernel
theorem dX1_copy_8 : decode cX1_copy 8 = .ok (.aload_n 1, 1) := by decide +kernel
theorem dX1_copy_9 : decode cX1_copy 9 = .ok (.getfield 21, 3) := by decide +kernel
theorem dX1_copy_12 : decode cX1_copy 12 = .ok (.if_icmp .ge 31, 3) := by decide +kernel
theorem dX1_copy_15 : decode cX1_copy 15 = .ok (.aload_n 0, 1) := by decide +kernel
theorem dX1_copy_16 : decode cX1_copy 16 = .ok (.aload_n 1, 1) := by decide +kernel
theorem dX1_copy_17 : decode cX1_copy 17 = .ok (.getfield 9, 3) := by decide +kernel
theorem dX1_copy_20 : decode cX1_copy 20 = .ok (.iload_n 2, 1) := by decide +kernel
theorem dX1_copy_21 : decode cX1_copy 21 = .ok (.iaload, 1) := by decide +kernel
theorem dX1_copy_22 : decode cX1_copy 22 = .ok (.aload_n 1, 1) := by decide +kernel
theorem dX1_copy_23 : decode cX1_copy 23 = .ok (.getfield 15, 3) := by decide +kernel
theorem dX1_copy_26 : decode cX1_copy 26 = .ok (.iload_n 2, 1) := by decide +kernel
theorem dX1_copy_27 : decode cX1_copy 27 = .ok (.iaload, 1) := by decide +kernel
theorem dX1_copy_28 : decode cX1_copy 28 = .ok (.aload_n 1, 1) := by decide +kernel
theorem dX1_copy_29 : decode cX1_copy 29 = .ok (.getfield 18, 3) := by decide +kernel
theorem dX1_copy_32 : decode cX1_copy 32 = .ok (.iload_n 2, 1) := by decide +kernel
theorem dX1_copy_33 : decode cX1_copy 33 = .ok (.iaload, 1) := by decide +kernel
theorem dX1_copy_34 : decode cX1_copy 34 = .ok (.invokevirtual 25, 3) := by decide +kernel
theorem dX1_copy_37 : decode cX1_copy 37 = .ok (.iinc 2 1, 3) := by decide +kernel
theorem dX1_copy_40 : decode cX1_copy 40 = .ok (.goto (-33), 3) := by decide +kernel
theorem dX1_copy_43 : decode cX1_copy 43 = .ok (.return_, 1) := by decide +kernel
theorem dX2_init_0 : decode cX2_init 0 = .ok (.aload_n 0, 1) := by decide +kernel
theorem dX2_init_1 : decode cX2_init 1 = .ok (.invokespecial 3, 3) := by decide +kernel
theorem dX2_init_4 : decode cX2_init 4 = .ok (.aload_n 0, 1) := by decide +kernel
theorem dX2_init_5 : decode cX2_init 5 = .ok (.bipush 24, 2) := by decide +kernel
theorem dX2_init_7 : decode cX2_init 7 = .ok (.newarray .int, 2) := by decide +kernel
theorem dX2_init_9 : decode cX2_init 9 = .ok (.putfield 9, 3) := by decide +kernel
theorem dX2_init_12 : decode cX2_init 12 = .ok (.aload_n 0, 1) := by decide +kernel
theorem dX2_init_13 : decode cX2_init 13 = .ok (.bipush 24, 2) := by decide +kernel
theorem dX2_init_15 : decode cX2_init 15 = .ok (.newarray .int, 2) := by decide +kernel
theorem dX2_init_17 : decode cX2_init 17 = .ok (.putfield 15, 3) := by decide +kernel
theorem dX2_init_20 : decode cX2_init 20 = .ok (.aload_n 0, 1) := by decide +kernel
theorem dX2_init_21 : decode cX2_init 21 = .ok (.bipush 24, 2) := by decide +kernel
theorem dX2_init_23 : decode cX2_init 23 = .ok (.newarray .int, 2) := by decide +kernel
theorem dX2_init_25 : decode cX2_init 25 = .ok (.putfield 18, 3) := by decide +kernel
theorem dX2_init_28 : decode cX2_init 28 = .ok (.aload_n 0, 1) := by decide +kernel
theorem dX2_init_29 : decode cX2_init 29 = .ok (.bipush 24, 2) := by decide +kernel
theorem dX2_init_31 : decode cX2_init 31 = .ok (.newarray .int, 2) := by decide +kernel
theorem dX2_init_33 : decode cX2_init 33 = .ok (.putfield 21, 3) := by decide +kernel
theorem dX2_init_36 : decode cX2_init 36 = .ok (.aload_n 0, 1) := by decide +kernel
theorem dX2_init_37 : decode cX2_init 37 = .ok (.bipush 24, 2) := by decide +kernel
theorem dX2_init_39 : decode cX2_init 39 = .ok (.newarray .int, 2) := by decide +kernel
theorem dX2_init_41 : decode cX2_init 41 = .ok (.putfield 24, 3) := by decide +kernel
theorem dX2_init_44 : decode cX2_init 44 = .ok (.aload_n 0, 1) := by decide +kernel
theorem dX2_init_45 : decode cX2_init 45 = .ok (.bipush 24, 2) := by decide +kernel
theorem dX2_init_47 : decode cX2_init 47 = .ok (.newarray .int, 2) := by decide +kernel
theorem dX2_init_49 : decode cX2_init 49 = .ok (.putfield 27, 3) := by decide +kernel
theorem dX2_init_52 : decode cX2_init 52 = .ok (.aload_n 0, 1) := by decide +kernel
theorem dX2_init_53 : decode cX2_init 53 = .ok (.bipush 24, 2) := by decide +kernel
theorem dX2_init_55 : decode cX2_init 55 = .ok (.newarray .boolean, 2) := by decide +kernel
theorem dX2_init_57 : decode cX2_init 57 = .ok (.putfield 30, 3) := by decide +kernel
theorem dX2_init_60 : decode cX2_init 60 = .ok (.return_, 1) := by decide +kernel
theorem dX2_add_0 : decode cX2_add 0 = .ok (.aload_n 0, 1) := by decide +kernel
theorem dX2_add_1 : decode cX2_add 1 = .ok (.getfield 34, 3) := by decide +kernel
theorem dX2_add_4 : decode cX2_add 4 = .ok (.bipush 24, 2) := by decide +kernel
theorem dX2_add_6 : decode cX2_add 6 = .ok (.if_icmp .lt 6, 3) := by decide +kernel
theorem dX2_add_9 : decode cX2_add 9 = .ok (.bipush (-3), 2) := by decide +kernel
theorem dX2_add_11 : decode cX2_add 11 = .ok (.ireturn, 1) := by decide +kernel
theorem dX2_add_12 : decode cX2_add 12 = .ok (.aload_n 0, 1) := by decide +kernel
theorem dX2_add_13 : decode cX2_add 13 = .ok (.getfield 9, 3) := by decide +kernel
theorem dX2_add_16 : decode cX2_add 16 = .ok (.aload_n 0, 1) := by decide +kernel
theorem dX2_add_17 : decode cX2_add 17 = .ok (.getfield 34, 3) := by decide +kernel
theorem dX2_add_20 : decode cX2_add 20 = .ok (.iload_n 1, 1) := by decide +kernel
theorem dX2_add_21 : decode cX2_add 21 = .ok (.iastore, 1) := by decide +kernel
theorem dX2_add_22 : decode cX2_add 22 = .ok (.aload_n 0, 1) := by decide +kernel
theorem dX2_add_23 : decode cX2_add 23 = .ok (.getfield 15, 3) := by decide +kernel
theorem dX2_add_26 : decode cX2_add 26 = .ok (.aload_n 0, 1) := by decide +kernel
theorem dX2_add_27 : decode cX2_add 27 = .ok (.getfield 34, 3) := by decide +kernel
theorem dX2_add_30 : decode cX2_add 30 = .ok (.iload_n 2, 1) := by decide +kernel
theorem dX2_add_31 : decode cX2_add 31 = .ok (.iastore, 1) := by decide +kernel
theorem dX2_add_32 : decode cX2_add 32 = .ok (.aload_n 0, 1) := by decide +kernel
theorem dX2_add_33 : decode cX2_add 33 = .ok (.getfield 18, 3) := by decide +kernel
theorem dX2_add_36 : decode cX2_add 36 = .ok (.aload_n 0, 1) := by decide +kernel
theorem dX2_add_37 : decode cX2_add 37 = .ok (.getfield 34, 3) := by decide +kernel
theorem dX2_add_40 : decode cX2_add 40 = .ok (.iload_n 3, 1) := by decide +kernel
theorem dX2_add_41 : decode cX2_add 41 = .ok (.iastore, 1) := by decide +kernel
theorem dX2_add_42 : decode cX2_add 42 = .ok (.aload_n 0, 1) := by decide +kernel
theorem dX2_add_43 : decode cX2_add 43 = .ok (.getfield 21, 3) := by decide +kernel
theorem dX2_add_46 : decode cX2_add 46 = .ok (.aload_n 0, 1) := by decide +kernel
theorem dX2_add_47 : decode cX2_add 47 = .ok (.getfield 34, 3) := by decide +kernel
theorem dX2_add_50 : decode cX2_add 50 = .ok (.iload 4, 2) := by decide +kernel
theorem dX2_add_52 : decode cX2_add 52 = .ok (.iastore, 1) := by decide +kernel
theorem dX2_add_53 : decode cX2_add 53 = .ok (.aload_n 0, 1) := by decide +kernel
theorem dX2_add_54 : decode cX2_add 54 = .ok (.getfield 24, 3) := by decide +kernel
theorem dX2_add_57 : decode cX2_add 57 = .ok (.aload_n 0, 1) := by decide +kernel
theorem dX2_add_58 : decode cX2_add 58 = .ok (.getfield 34, 3) := by decide +kernel
theorem dX2_add_61 : decode cX2_add 61 = .ok (.iload 5, 2) := by decide +kernel
theorem dX2_add_63 : decode cX2_add 63 = .ok (.iastore, 1) := by decide +kernel
theorem dX2_add_64 : decode cX2_add 64 = .ok (.aload_n 0, 1) := by decide +kernel
theorem dX2_add_65 : decode cX2_add 65 = .ok (.getfield 27, 3) := by decide +kernel
theorem dX2_add_68 : decode cX2_add 68 = .ok (.aload_n 0, 1) := by decide +kernel
theorem dX2_add_69 : decode cX2_add 69 = .ok (.getfield 34, 3) := by decide +kernel
theorem dX2_add_72 : decode cX2_add 72 = .ok (.iload 6, 2) := by decide +kernel
theorem dX2_add_74 : decode cX2_add 74 = .ok (.iastore, 1) := by decide +kernel
theorem dX2_add_75 : decode cX2_add 75 = .ok (.aload_n 0, 1) := by decide +kernel
theorem dX2_add_76 : decode cX2_add 76 = .ok (.dup, 1) := by decide +kernel
theorem dX2_add_77 : decode cX2_add 77 = .ok (.getfield 34, 3) := by decide +kernel
theorem dX2_add_80 : decode cX2_add 80 = .ok (.iconst 1, 1) := by decide +kernel
theorem dX2_add_81 : decode cX2_add 81 = .ok (.iadd, 1) := by decide +kernel
theorem dX2_add_82 : decode cX2_add 82 = .ok (.putfield 34, 3) := by decide +kernel
theorem dX2_add_85 : decode cX2_add 85 = .ok (.aload_n 0, 1) := by decide +kernel
theorem dX2_add_86 : decode cX2_add 86 = .ok (.getfield 34, 3) := by decide +kernel
theorem dX2_add_89 : decode cX2_add 89 = .ok (.iconst 1, 1) := by decide +kernel
theorem dX2_add_90 : decode cX2_add 90 = .ok (.isub, 1) := by decide +kernel
theorem dX2_add_91 : decode cX2_add 91 = .ok (.ireturn, 1) := by decide +kernel
theorem dX3_init_0 : decode cX3_init 0 = .ok (.aload_n 0, 1) := by decide +kernel
theorem dX3_init_1 : decode cX3_init 1 = .ok (.invokespecial 3, 3) := by decide +kernel
theorem dX3_init_4 : decode cX3_init 4 = .ok (.aload_n 0, 1) := by decide +kernel
theorem dX3_init_5 : decode cX3_init 5 = .ok (.sipush 384, 3) := by decide +kernel
theorem dX3_init_8 : decode cX3_init 8 = .ok (.newarray .int, 2) := by decide +kernel
theorem dX3_init_10 : decode cX3_init 10 = .ok (.putfield 9, 3) := by decide +kernel
theorem dX3_init_13 : decode cX3_init 13 = .ok (.aload_n 0, 1) := by decide +kernel
theorem dX3_init_14 : decode cX3_init 14 = .ok (.bipush 64, 2) := by decide +kernel
theorem dX3_init_16 : decode cX3_init 16 = .ok (.newarray .int, 2) := by decide +kernel
theorem dX3_init_18 : decode cX3_init 18 = .ok (.putfield 15, 3) := by decide +kernel
theorem dX3_init_21 : decode cX3_init 21 = .ok (.aload_n 0, 1) := by decide +kernel
theorem dX3_init_22 : decode cX3_init 22 = .ok (.bipush 64, 2) := by decide +kernel
theorem dX3_init_24 : decode cX3_init 24 = .ok (.newarray .int, 2) := by decide +kernel
theorem dX3_init_26 : decode cX3_init 26 = .ok (.putfield 18, 3) := by decide +kernel
theorem dX3_init_29 : decode cX3_init 29 = .ok (.aload_n 0, 1) := by decide +kernel
theorem dX3_init_30 : decode cX3_init 30 = .ok (.bipush 64, 2) := by decide +kernel
theorem dX3_init_32 : decode cX3_init 32 = .ok (.newarray .int, 2) := by decide +kernel
theorem dX3_init_34 : decode cX3_init 34 = .ok (.putfield 21, 3) := by decide +kernel
theorem dX3_init_37 : decode cX3_init 37 = .ok (.aload_n 0, 1) := by decide +kernel
theorem dX3_init_38 : decode cX3_init 38 = .ok (.aload_n 1, 1) := by decide +kernel
theorem dX3_init_39 : decode cX3_init 39 = .ok (.putfield 24, 3) := by decide +kernel
theorem dX3_init_42 : decode cX3_init 42 = .ok (.aload_n 0, 1) := by decide +kernel
theorem dX3_init_43 : decode cX3_init 43 = .ok (.aload_n 2, 1) := by decide +kernel
theorem dX3_init_44 : decode cX3_init 44 = .ok (.putfield 28, 3) := by decide +kernel
theorem dX3_init_47 : decode cX3_init 47 = .ok (.aload_n 0, 1) := by decide +kernel
theorem dX3_init_48 : decode cX3_init 48 = .ok (.new 32, 3) := by decide +kernel
theorem dX3_init_51 : decode cX3_init 51 = .ok (.dup, 1) := by decide +kernel
theorem dX3_init_52 : decode cX3_init 52 = .ok (.aload_n 1, 1) := by decide +kernel
theorem dX3_init_53 : decode cX3_init 53 = .ok (.invokespecial 34, 3) := by decide +kernel
theorem dX3_init_56 : decode cX3_init 56 = .ok (.putfield 37, 3) := by decide +kernel
theorem dX3_init_59 : decode cX3_init 59 = .ok (.return_, 1) := by decide +kernel
theorem dX3_run_0 : decode cX3_run 0 = .ok (.aload_n 0, 1) := by decide +kernel
theorem dX3_run_1 : decode cX3_run 1 = .ok (.iload_n 1, 1) := by decide +kernel
theorem dX3_run_2 : decode cX3_run 2 = .ok (.putfield 41, 3) := by decide +kernel
theorem dX3_run_5 : decode cX3_run 5 = .ok (.aload_n 0, 1) := by decide +kernel
theorem dX3_run_6 : decode cX3_run 6 = .ok (.iload_n 3, 1) := by decide +kernel
theorem dX3_run_7 : decode cX3_run 7 = .ok (.putfield 45, 3) := by decide +kernel
theorem dX3_run_10 : decode cX3_run 10 = .ok (.iload_n 2, 1) := by decide +kernel
theorem dX3_run_11 : decode cX3_run 11 = .ok (.ifCond .lt 14, 3) := by decide +kernel
theorem dX3_run_14 : decode cX3_run 14 = .ok (.iload_n 2, 1) := by decide +kernel
theorem dX3_run_15 : decode cX3_run 15 = .ok (.aload_n 0, 1) := by decide +kernel
theorem dX3_run_16 : decode cX3_run 16 = .ok (.getfield 28, 3) := by decide +kernel
theorem dX3_run_19 : decode cX3_run 19 = .ok (.getfield 48, 3) := by decide +kernel
theorem dX3_run_22 : decode cX3_run 22 = .ok (.if_icmp .lt 4, 3) := by decide +kernel
theorem dX3_run_25 : decode cX3_run 25 = .ok (.return_, 1) := by decide +kernel
theorem dX3_run_26 : decode cX3_run 26 = .ok (.iload 4, 2) := by decide +kernel
theorem dX3_run_28 : decode cX3_run 28 = .ok (.iconst 0, 1) := by decide +kernel
theorem dX3_run_29 : decode cX3_run 29 = .ok (.invokestatic 53, 3) := by decide +kernel
theorem dX3_run_32 : decode cX3_run 32 = .ok (.istore 6, 2) := by decide +kernel
theorem dX3_run_34 : decode cX3_run 34 = .ok (.iload 5, 2) := by decide +kernel
theorem dX3_run_36 : decode cX3_run 36 = .ok (.bipush 63, 2) := by decide +kernel
theorem dX3_run_38 : decode cX3_run 38 = .ok (.invokestatic 59, 3) := by decide +kernel
theorem dX3_run_41 : decode cX3_run 41 = .ok (.istore 7, 2) := by decide +kernel
theorem dX3_run_43 : decode cX3_run 43 = .ok (.aload_n 0, 1) := by decide +kernel
theorem dX3_run_44 : decode cX3_run 44 = .ok (.getfield 28, 3) := by decide +kernel
theorem dX3_run_47 : decode cX3_run 47 = .ok (.getfield 62, 3) := by decide +kernel
theorem dX3_run_50 : decode cX3_run 50 = .ok (.iload_n 2, 1) := by decide +kernel
theorem dX3_run_51 : decode cX3_run 51 = .ok (.iaload, 1) := by decide +kernel
theorem dX3_run_52 : decode cX3_run 52 = .ok (.iconst 4, 1) := by decide +kernel
theorem dX3_run_53 : decode cX3_run 53 = .ok (.if_icmp .ne 51, 3) := by decide +kernel
theorem dX3_run_56 : decode cX3_run 56 = .ok (.aload_n 0, 1) := by decide +kernel
theorem dX3_run_57 : decode cX3_run 57 = .ok (.iconst 0, 1) := by decide +kernel
theorem dX3_run_58 : decode cX3_run 58 = .ok (.iload_n 2, 1) := by decide +kernel
theorem dX3_run_59 : decode cX3_run 59 = .ok (.iconst 0, 1) := by decide +kernel
theorem dX3_run_60 : decode cX3_run 60 = .ok (.iload 7, 2) := by decide +kernel
theorem dX3_run_62 : decode cX3_run 62 = .ok (.invokevirtual 65, 3) := by decide +kernel
theorem dX3_run_65 : decode cX3_run 65 = .ok (.iload 6, 2) := by decide +kernel
theorem dX3_run_67 : decode cX3_run 67 = .ok (.istore 8, 2) := by decide +kernel
theorem dX3_run_69 : decode cX3_run 69 = .ok (.iload 8, 2) := by decide +kernel
theorem dX3_run_71 : decode cX3_run 71 = .ok (.iload 7, 2) := by decide +kernel
theorem dX3_run_73 : decode cX3_run 73 = .ok (.if_icmp .gt 28, 3) := by decide +kernel
theorem dX3_run_76 : decode cX3_run 76 = .ok (.aload_n 0, 1) := by decide +kernel
theorem dX3_run_77 : decode cX3_run 77 = .ok (.getfield 9, 3) := by decide +kernel
theorem dX3_run_80 : decode cX3_run 80 = .ok (.iload_n 2, 1) := by decide +kernel
theorem dX3_run_81 : decode cX3_run 81 = .ok (.bipush 64, 2) := by decide +kernel
theorem dX3_run_83 : decode cX3_run 83 = .ok (.imul, 1) := by decide +kernel
theorem dX3_run_84 : decode cX3_run 84 = .ok (.iload 8, 2) := by decide +kernel
theorem dX3_run_86 : decode cX3_run 86 = .ok (.iadd, 1) := by decide +kernel
theorem dX3_run_87 : decode cX3_run 87 = .ok (.aload_n 0, 1) := by decide +kernel
theorem dX3_run_88 : decode cX3_run 88 = .ok (.iload_n 2, 1) := by decide +kernel
theorem dX3_run_89 : decode cX3_run 89 = .ok (.iload 8, 2) := by decide +kernel
theorem dX3_run_91 : decode cX3_run 91 = .ok (.invokevirtual 69, 3) := by decide +kernel
theorem dX3_run_94 : decode cX3_run 94 = .ok (.iastore, 1) := by decide +kernel
theorem dX3_run_95 : decode cX3_run 95 = .ok (.iinc 8 1, 3) := by decide +kernel
theorem dX3_run_98 : decode cX3_run 98 = .ok (.goto (-29), 3) := by decide +kernel
theorem dX3_run_101 : decode cX3_run 101 = .ok (.goto 15, 3) := by decide +kernel
theorem dX3_run_104 : decode cX3_run 104 = .ok (.aload_n 0, 1) := by decide +kernel
theorem dX3_run_105 : decode cX3_run 105 = .ok (.iload_n 2, 1) := by decide +kernel
theorem dX3_run_106 : decode cX3_run 106 = .ok (.iload_n 2, 1) := by decide +kernel
theorem dX3_run_107 : decode cX3_run 107 = .ok (.iconst 1, 1) := by decide +kernel
theorem dX3_run_108 : decode cX3_run 108 = .ok (.iadd, 1) := by decide +kernel
theorem dX3_run_109 : decode cX3_run 109 = .ok (.iload 6, 2) := by decide +kernel
theorem dX3_run_111 : decode cX3_run 111 = .ok (.iload 7, 2) := by decide +kernel
theorem dX3_run_113 : decode cX3_run 113 = .ok (.invokevirtual 65, 3) := by decide +kernel
theorem dX3_run_116 : decode cX3_run 116 = .ok (.return_, 1) := by decide +kernel
theorem dX3_playPlain_0 : decode cX3_playPlain 0 = .ok (.iload_n 3, 1) := by decide +kernel
theorem dX3_playPlain_1 : decode cX3_playPlain 1 = .ok (.istore 5, 2) := by decide +kernel
theorem dX3_playPlain_3 : decode cX3_playPlain 3 = .ok (.iload 5, 2) := by decide +kernel
theorem dX3_playPlain_5 : decode cX3_playPlain 5 = .ok (.iload 4, 2) := by decide +kernel
theorem dX3_playPlain_7 : decode cX3_playPlain 7 = .ok (.if_icmp .gt 95, 3) := by decide +kernel
theorem dX3_playPlain_10 : decode cX3_playPlain 10 = .ok (.aload_n 0, 1) := by decide +kernel
theorem dX3_playPlain_11 : decode cX3_playPlain 11 = .ok (.getfield 37, 3) := by decide +kernel
theorem dX3_playPlain_14 : decode cX3_playPlain 14 = .ok (.aload_n 0, 1) := by decide +kernel
theorem dX3_playPlain_15 : decode cX3_playPlain 15 = .ok (.getfield 41, 3) := by decide +kernel
theorem dX3_playPlain_18 : decode cX3_playPlain 18 = .ok (.iload 5, 2) := by decide +kernel
theorem dX3_playPlain_20 : decode cX3_playPlain 20 = .ok (.invokevirtual 72, 3) := by decide +kernel
theorem dX3_playPlain_23 : decode cX3_playPlain 23 = .ok (.iload_n 1, 1) := by decide +kernel
theorem dX3_playPlain_24 : decode cX3_playPlain 24 = .ok (.istore 6, 2) := by decide +kernel
theorem dX3_playPlain_26 : decode cX3_playPlain 26 = .ok (.iload 6, 2) := by decide +kernel
theorem dX3_playPlain_28 : decode cX3_playPlain 28 = .ok (.iload_n 2, 1) := by decide +kernel
theorem dX3_playPlain_29 : decode cX3_playPlain 29 = .ok (.if_icmp .ge 67, 3) := by decide +kernel
theorem dX3_playPlain_32 : decode cX3_playPlain 32 = .ok (.aload_n 0, 1) := by decide +kernel
theorem dX3_playPlain_33 : decode cX3_playPlain 33 = .ok (.getfield 37, 3) := by decide +kernel
theorem dX3_playPlain_36 : decode cX3_playPlain 36 = .ok (.aload_n 0, 1) := by decide +kernel
theorem dX3_playPlain_37 : decode cX3_playPlain 37 = .ok (.getfield 28, 3) := by decide +kernel
theorem dX3_playPlain_40 : decode cX3_playPlain 40 = .ok (.getfield 62, 3) := by decide +kernel
theorem dX3_playPlain_43 : decode cX3_playPlain 43 = .ok (.iload 6, 2) := by decide +kernel
theorem dX3_playPlain_45 : decode cX3_playPlain 45 = .ok (.iaload, 1) := by decide +kernel
theorem dX3_playPlain_46 : decode cX3_playPlain 46 = .ok (.aload_n 0, 1) := by decide +kernel
theorem dX3_playPlain_47 : decode cX3_playPlain 47 = .ok (.getfield 28, 3) := by decide +kernel
theorem dX3_playPlain_50 : decode cX3_playPlain 50 = .ok (.getfield 76, 3) := by decide +kernel
theorem dX3_playPlain_53 : decode cX3_playPlain 53 = .ok (.iload 6, 2) := by decide +kernel
theorem dX3_playPlain_55 : decode cX3_playPlain 55 = .ok (.iaload, 1) := by decide +kernel
theorem dX3_playPlain_56 : decode cX3_playPlain 56 = .ok (.aload_n 0, 1) := by decide +kernel
theorem dX3_playPlain_57 : decode cX3_playPlain 57 = .ok (.getfield 28, 3) := by decide +kernel
theorem dX3_playPlain_60 : decode cX3_playPlain 60 = .ok (.getfield 79, 3) := by decide +kernel
theorem dX3_playPlain_63 : decode cX3_playPlain 63 = .ok (.iload 6, 2) := by decide +kernel
theorem dX3_playPlain_65 : decode cX3_playPlain 65 = .ok (.iaload, 1) := by decide +kernel
theorem dX3_playPlain_66 : decode cX3_playPlain 66 = .ok (.aload_n 0, 1) := by decide +kernel
theorem dX3_playPlain_67 : decode cX3_playPlain 67 = .ok (.getfield 45, 3) := by decide +kernel
theorem dX3_playPlain_70 : decode cX3_playPlain 70 = .ok (.invokevirtual 82, 3) := by decide +kernel
theorem dX3_playPlain_73 : decode cX3_playPlain 73 = .ok (.istore 7, 2) := by decide +kernel
theorem dX3_playPlain_75 : decode cX3_playPlain 75 = .ok (.aload_n 0, 1) := by decide +kernel
theorem dX3_playPlain_76 : decode cX3_playPlain 76 = .ok (.getfield 9, 3) := by decide +kernel
theorem dX3_playPlain_79 : decode cX3_playPlain 79 = .ok (.iload 6, 2) := by decide +kernel
theorem dX3_playPlain_81 : decode cX3_playPlain 81 = .ok (.bipush 64, 2) := by decide +kernel
theorem dX3_playPlain_83 : decode cX3_playPlain 83 = .ok (.imul, 1) := by decide +kernel
theorem dX3_playPlain_84 : decode cX3_playPlain 84 = .ok (.iload 5, 2) := by decide +kernel
theorem dX3_playPlain_86 : decode cX3_playPlain 86 = .ok (.iadd, 1) := by decide +kernel
theorem dX3_playPlain_87 : decode cX3_playPlain 87 = .ok (.iload 7, 2) := by decide +kernel
theorem dX3_playPlain_89 : decode cX3_playPlain 89 = .ok (.iastore, 1) := by decide +kernel
theorem dX3_playPlain_90 : decode cX3_playPlain 90 = .ok (.iinc 6 1, 3) := by decide +kernel
theorem dX3_playPlain_93 : decode cX3_playPlain 93 = .ok (.goto (-67), 3) := by decide +kernel
theorem dX3_playPlain_96 : decode cX3_playPlain 96 = .ok (.iinc 5 1, 3) := by decide +kernel
theorem dX3_playPlain_99 : decode cX3_playPlain 99 = .ok (.goto (-96), 3) := by decide +kernel
theorem dX3_playPlain_102 : decode cX3_playPlain 102 = .ok (.return_, 1) := by decide +kernel
theorem dX3_join_0 : decode cX3_join 0 = .ok (.iconst 0, 1) := by decide +kernel
theorem dX3_join_1 : decode cX3_join 1 = .ok (.istore_n 3, 1) := by decide +kernel
theorem dX3_join_2 : decode cX3_join 2 = .ok (.iconst 0, 1) := by decide +kernel
theorem dX3_join_3 : decode cX3_join 3 = .ok (.istore 4, 2) := by decide +kernel
theorem dX3_join_5 : decode cX3_join 5 = .ok (.iconst 0, 1) := by decide +kernel
theorem dX3_join_6 : decode cX3_join 6 = .ok (.istore 5, 2) := by decide +kernel
theorem dX3_join_8 : decode cX3_join 8 = .ok (.iload 5, 2) := by decide +kernel
theorem dX3_join_10 : decode cX3_join 10 = .ok (.iload_n 1, 1) := by decide +kernel
theorem dX3_join_11 : decode cX3_join 11 = .ok (.if_icmp .ge 77, 3) := by decide +kernel
theorem dX3_join_14 : decode cX3_join 14 = .ok (.aload_n 0, 1) := by decide +kernel
theorem dX3_join_15 : decode cX3_join 15 = .ok (.getfield 9, 3) := by decide +kernel
theorem dX3_join_18 : decode cX3_join 18 = .ok (.iload 5, 2) := by decide +kernel
theorem dX3_join_20 : decode cX3_join 20 = .ok (.bipush 64, 2) := by decide +kernel
theorem dX3_join_22 : decode cX3_join 22 = .ok (.imul, 1) := by decide +kernel
theorem dX3_join_23 : decode cX3_join 23 = .ok (.iload_n 2, 1) := by decide +kernel
theorem dX3_join_24 : decode cX3_join 24 = .ok (.iadd, 1) := by decide +kernel
theorem dX3_join_25 : decode cX3_join 25 = .ok (.iaload, 1) := by decide +kernel
theorem dX3_join_26 : decode cX3_join 26 = .ok (.istore 6, 2) := by decide +kernel
theorem dX3_join_28 : decode cX3_join 28 = .ok (.aload_n 0, 1) := by decide +kernel
theorem dX3_join_29 : decode cX3_join 29 = .ok (.getfield 28, 3) := by decide +kernel
theorem dX3_join_32 : decode cX3_join 32 = .ok (.getfield 62, 3) := by decide +kernel
theorem dX3_join_35 : decode cX3_join 35 = .ok (.iload 5, 2) := by decide +kernel
theorem dX3_join_37 : decode cX3_join 37 = .ok (.iaload, 1) := by decide +kernel
theorem dX3_join_38 : decode cX3_join 38 = .ok (.iconst 4, 1) := by decide +kernel
theorem dX3_join_39 : decode cX3_join 39 = .ok (.if_icmp .eq 43, 3) := by decide +kernel
theorem dX3_join_42 : decode cX3_join 42 = .ok (.iload 6, 2) := by decide +kernel
theorem dX3_join_44 : decode cX3_join 44 = .ok (.bipush (-4), 2) := by decide +kernel
theorem dX3_join_46 : decode cX3_join 46 = .ok (.if_icmp .eq 36, 3) := by decide +kernel
theorem dX3_join_49 : decode cX3_join 49 = .ok (.aload_n 0, 1) := by decide +kernel
theorem dX3_join_50 : decode cX3_join 50 = .ok (.iload 5, 2) := by decide +kernel
theorem dX3_join_52 : decode cX3_join 52 = .ok (.aload_n 0, 1) := by decide +kernel
theorem dX3_join_53 : decode cX3_join 53 = .ok (.getfield 28, 3) := by decide +kernel
theorem dX3_join_56 : decode cX3_join 56 = .ok (.getfield 76, 3) := by decide +kernel
theorem dX3_join_59 : decode cX3_join 59 = .ok (.iload_n 1, 1) := by decide +kernel
theorem dX3_join_60 : decode cX3_join 60 = .ok (.iaload, 1) := by decide +kernel
theorem dX3_join_61 : decode cX3_join 61 = .ok (.iload_n 2, 1) := by decide +kernel
theorem dX3_join_62 : decode cX3_join 62 = .ok (.invokevirtual 86, 3) := by decide +kernel
theorem dX3_join_65 : decode cX3_join 65 = .ok (.istore 7, 2) := by decide +kernel
theorem dX3_join_67 : decode cX3_join 67 = .ok (.iload_n 3, 1) := by decide +kernel
theorem dX3_join_68 : decode cX3_join 68 = .ok (.iload 7, 2) := by decide +kernel
theorem dX3_join_70 : decode cX3_join 70 = .ok (.iload 6, 2) := by decide +kernel
theorem dX3_join_72 : decode cX3_join 72 = .ok (.imul, 1) := by decide +kernel
theorem dX3_join_73 : decode cX3_join 73 = .ok (.iadd, 1) := by decide +kernel
theorem dX3_join_74 : decode cX3_join 74 = .ok (.istore_n 3, 1) := by decide +kernel
theorem dX3_join_75 : decode cX3_join 75 = .ok (.iload 4, 2) := by decide +kernel
theorem dX3_join_77 : decode cX3_join 77 = .ok (.iload 7, 2) := by decide +kernel
theorem dX3_join_79 : decode cX3_join 79 = .ok (.iadd, 1) := by decide +kernel
theorem dX3_join_80 : decode cX3_join 80 = .ok (.istore 4, 2) := by decide +kernel
theorem dX3_join_82 : decode cX3_join 82 = .ok (.iinc 5 1, 3) := by decide +kernel
theorem dX3_join_85 : decode cX3_join 85 = .ok (.goto (-77), 3) := by decide +kernel
theorem dX3_join_88 : decode cX3_join 88 = .ok (.iload 4, 2) := by decide +kernel
theorem dX3_join_90 : decode cX3_join 90 = .ok (.ifCond .ne 8, 3) := by decide +kernel
theorem dX3_join_93 : decode cX3_join 93 = .ok (.bipush (-4), 2) := by decide +kernel
theorem dX3_join_95 : decode cX3_join 95 = .ok (.goto 7, 3) := by decide +kernel
theorem dX3_join_98 : decode cX3_join 98 = .ok (.iload_n 3, 1) := by decide +kernel
theorem dX3_join_99 : decode cX3_join 99 = .ok (.iload 4, 2) := by decide +kernel
theorem dX3_join_101 : decode cX3_join 101 = .ok (.idiv, 1) := by decide +kernel
theorem dX3_join_102 : decode cX3_join 102 = .ok (.ireturn, 1) := by decide +kernel
theorem dX3_weightOf_0 : decode cX3_weightOf 0 = .ok (.iconst 0, 1) := by decide +kernel
theorem dX3_weightOf_1 : decode cX3_weightOf 1 = .ok (.istore 4, 2) := by decide +kernel
theorem dX3_weightOf_3 : decode cX3_weightOf 3 = .ok (.iconst 0, 1) := by decide +kernel
theorem dX3_weightOf_4 : decode cX3_weightOf 4 = .ok (.istore 5, 2) := by decide +kernel
theorem dX3_weightOf_6 : decode cX3_weightOf 6 = .ok (.iload_n 3, 1) := by decide +kernel
theorem dX3_weightOf_7 : decode cX3_weightOf 7 = .ok (.istore 6, 2) := by decide +kernel
theorem dX3_weightOf_9 : decode cX3_weightOf 9 = .ok (.iload 6, 2) := by decide +kernel
theorem dX3_weightOf_11 : decode cX3_weightOf 11 = .ok (.aload_n 0, 1) := by decide +kernel
theorem dX3_weightOf_12 : decode cX3_weightOf 12 = .ok (.getfield 45, 3) := by decide +kernel
theorem dX3_weightOf_15 : decode cX3_weightOf 15 = .ok (.if_icmp .lt 80, 3) := by decide +kernel
theorem dX3_weightOf_18 : decode cX3_weightOf 18 = .ok (.iload 5, 2) := by decide +kernel
theorem dX3_weightOf_20 : decode cX3_weightOf 20 = .ok (.iload_n 2, 1) := by decide +kernel
theorem dX3_weightOf_21 : decode cX3_weightOf 21 = .ok (.if_icmp .ge 74, 3) := by decide +kernel
theorem dX3_weightOf_24 : decode cX3_weightOf 24 = .ok (.aload_n 0, 1) := by decide +kernel
theorem dX3_weightOf_25 : decode cX3_weightOf 25 = .ok (.iload_n 1, 1) := by decide +kernel
theorem dX3_weightOf_26 : decode cX3_weightOf 26 = .ok (.iload 6, 2) := by decide +kernel
theorem dX3_weightOf_28 : decode cX3_weightOf 28 = .ok (.aload_n 0, 1) := by decide +kernel
theorem dX3_weightOf_29 : decode cX3_weightOf 29 = .ok (.getfield 45, 3) := by decide +kernel
theorem dX3_weightOf_32 : decode cX3_weightOf 32 = .ok (.isub, 1) := by decide +kernel
theorem dX3_weightOf_33 : decode cX3_weightOf 33 = .ok (.invokevirtual 90, 3) := by decide +kernel
theorem dX3_weightOf_36 : decode cX3_weightOf 36 = .ok (.istore 7, 2) := by decide +kernel
theorem dX3_weightOf_38 : decode cX3_weightOf 38 = .ok (.iload 7, 2) := by decide +kernel
theorem dX3_weightOf_40 : decode cX3_weightOf 40 = .ok (.bipush (-4), 2) := by decide +kernel
theorem dX3_weightOf_42 : decode cX3_weightOf 42 = .ok (.if_icmp .ne 8, 3) := by decide +kernel
theorem dX3_weightOf_45 : decode cX3_weightOf 45 = .ok (.bipush (-4), 2) := by decide +kernel
theorem dX3_weightOf_47 : decode cX3_weightOf 47 = .ok (.goto 17, 3) := by decide +kernel
theorem dX3_weightOf_50 : decode cX3_weightOf 50 = .ok (.aload_n 0, 1) := by decide +kernel
theorem dX3_weightOf_51 : decode cX3_weightOf 51 = .ok (.getfield 24, 3) := by decide +kernel
theorem dX3_weightOf_54 : decode cX3_weightOf 54 = .ok (.aload_n 0, 1) := by decide +kernel
theorem dX3_weightOf_55 : decode cX3_weightOf 55 = .ok (.getfield 41, 3) := by decide +kernel
theorem dX3_weightOf_58 : decode cX3_weightOf 58 = .ok (.iload 6, 2) := by decide +kernel
theorem dX3_weightOf_60 : decode cX3_weightOf 60 = .ok (.iload_n 3, 1) := by decide +kernel
theorem dX3_weightOf_61 : decode cX3_weightOf 61 = .ok (.invokevirtual 93, 3) := by decide +kernel
theorem dX3_weightOf_64 : decode cX3_weightOf 64 = .ok (.istore 8, 2) := by decide +kernel
theorem dX3_weightOf_66 : decode cX3_weightOf 66 = .ok (.iload 8, 2) := by decide +kernel
theorem dX3_weightOf_68 : decode cX3_weightOf 68 = .ok (.bipush (-4), 2) := by decide +kernel
theorem dX3_weightOf_70 : decode cX3_weightOf 70 = .ok (.if_icmp .eq 19, 3) := by decide +kernel
theorem dX3_weightOf_73 : decode cX3_weightOf 73 = .ok (.iload 4, 2) := by decide +kernel
theorem dX3_weightOf_75 : decode cX3_weightOf 75 = .ok (.iload 7, 2) := by decide +kernel
theorem dX3_weightOf_77 : decode cX3_weightOf 77 = .ok (.iload 8, 2) := by decide +kernel
theorem dX3_weightOf_79 : decode cX3_weightOf 79 = .ok (.isub, 1) := by decide +kernel
theorem dX3_weightOf_80 : decode cX3_weightOf 80 = .ok (.invokestatic 98, 3) := by decide +kernel
theorem dX3_weightOf_83 : decode cX3_weightOf 83 = .ok (.iadd, 1) := by decide +kernel
theorem dX3_weightOf_84 : decode cX3_weightOf 84 = .ok (.istore 4, 2) := by decide +kernel
theorem dX3_weightOf_86 : decode cX3_weightOf 86 = .ok (.iinc 5 1, 3) := by decide +kernel
theorem dX3_weightOf_89 : decode cX3_weightOf 89 = .ok (.iinc 6 (-1), 3) := by decide +kernel
theorem dX3_weightOf_92 : decode cX3_weightOf 92 = .ok (.goto (-83), 3) := by decide +kernel
theorem dX3_weightOf_95 : decode cX3_weightOf 95 = .ok (.sipush 1000, 3) := by decide +kernel
theorem dX3_weightOf_98 : decode cX3_weightOf 98 = .ok (.iconst 1, 1) := by decide +kernel
theorem dX3_weightOf_99 : decode cX3_weightOf 99 = .ok (.iload 5, 2) := by decide +kernel
theorem dX3_weightOf_101 : decode cX3_weightOf 101 = .ok (.ifCond .ne 9, 3) := by decide +kernel
theorem dX3_weightOf_104 : decode cX3_weightOf 104 = .ok (.sipush 1000, 3) := by decide +kernel
theorem dX3_weightOf_107 : decode cX3_weightOf 107 = .ok (.goto 8, 3) := by decide +kernel
theorem dX3_weightOf_110 : decode cX3_weightOf 110 = .ok (.iload 4, 2) := by decide +kernel
theorem dX3_weightOf_112 : decode cX3_weightOf 112 = .ok (.iload 5, 2) := by decide +kernel
theorem dX3_weightOf_114 : decode cX3_weightOf 114 = .ok (.idiv, 1) := by decide +kernel
theorem dX3_weightOf_115 : decode cX3_weightOf 115 = .ok (.iadd, 1) := by decide +kernel
theorem dX3_weightOf_116 : decode cX3_weightOf 116 = .ok (.idiv, 1) := by decide +kernel
theorem dX3_weightOf_117 : decode cX3_weightOf 117 = .ok (.ireturn, 1) := by decide +kernel
theorem dX3_toldBy_0 : decode cX3_toldBy 0 = .ok (.iload_n 1, 1) := by decide +kernel
theorem dX3_toldBy_1 : decode cX3_toldBy 1 = .ok (.ifCond .lt 23, 3) := by decide +kernel
theorem dX3_toldBy_4 : decode cX3_toldBy 4 = .ok (.iload_n 1, 1) := by decide +kernel
theorem dX3_toldBy_5 : decode cX3_toldBy 5 = .ok (.bipush 6, 2) := by decide +kernel
theorem dX3_toldBy_7 : decode cX3_toldBy 7 = .ok (.if_icmp .ge 17, 3) := by decide +kernel
theorem dX3_toldBy_10 : decode cX3_toldBy 10 = .ok (.iload_n 2, 1) := by decide +kernel
theorem dX3_toldBy_11 : decode cX3_toldBy 11 = .ok (.ifCond .lt 13, 3) := by decide +kernel
theorem dX3_toldBy_14 : decode cX3_toldBy 14 = .ok (.iload_n 2, 1) := by decide +kernel
theorem dX3_toldBy_15 : decode cX3_toldBy 15 = .ok (.bipush 64, 2) := by decide +kernel
theorem dX3_toldBy_17 : decode cX3_toldBy 17 = .ok (.if_icmp .ge 7, 3) := by decide +kernel
theorem dX3_toldBy_20 : decode cX3_toldBy 20 = .ok (.iconst 1, 1) := by decide +kernel
theorem dX3_toldBy_21 : decode cX3_toldBy 21 = .ok (.goto 4, 3) := by decide +kernel
theorem dX3_toldBy_24 : decode cX3_toldBy 24 = .ok (.iconst 0, 1) := by decide +kernel
theorem dX3_toldBy_25 : decode cX3_toldBy 25 = .ok (.istore_n 3, 1) := by decide +kernel
theorem dX3_toldBy_26 : decode cX3_toldBy 26 = .ok (.iload_n 3, 1) := by decide +kernel
theorem dX3_toldBy_27 : decode cX3_toldBy 27 = .ok (.ifCond .eq 17, 3) := by decide +kernel
theorem dX3_toldBy_30 : decode cX3_toldBy 30 = .ok (.aload_n 0, 1) := by decide +kernel
theorem dX3_toldBy_31 : decode cX3_toldBy 31 = .ok (.getfield 9, 3) := by decide +kernel
theorem dX3_toldBy_34 : decode cX3_toldBy 34 = .ok (.iload_n 1, 1) := by decide +kernel
theorem dX3_toldBy_35 : decode cX3_toldBy 35 = .ok (.bipush 64, 2) := by decide +kernel
theorem dX3_toldBy_37 : decode cX3_toldBy 37 = .ok (.imul, 1) := by decide +kernel
theorem dX3_toldBy_38 : decode cX3_toldBy 38 = .ok (.iload_n 2, 1) := by decide +kernel
theorem dX3_toldBy_39 : decode cX3_toldBy 39 = .ok (.iadd, 1) := by decide +kernel
theorem dX3_toldBy_40 : decode cX3_toldBy 40 = .ok (.iaload, 1) := by decide +kernel
theorem dX3_toldBy_41 : decode cX3_toldBy 41 = .ok (.goto 5, 3) := by decide +kernel
theorem dX3_toldBy_44 : decode cX3_toldBy 44 = .ok (.bipush (-4), 2) := by decide +kernel
theorem dX3_toldBy_46 : decode cX3_toldBy 46 = .ok (.ireturn, 1) := by decide +kernel
theorem dX3_compare_0 : decode cX3_compare 0 = .ok (.aload_n 0, 1) := by decide +kernel
theorem dX3_compare_1 : decode cX3_compare 1 = .ok (.iload_n 1, 1) := by decide +kernel
theorem dX3_compare_2 : decode cX3_compare 2 = .ok (.iload_n 2, 1) := by decide +kernel
theorem dX3_compare_3 : decode cX3_compare 3 = .ok (.iload_n 3, 1) := by decide +kernel
theorem dX3_compare_4 : decode cX3_compare 4 = .ok (.iload 4, 2) := by decide +kernel
theorem dX3_compare_6 : decode cX3_compare 6 = .ok (.iload_n 3, 1) := by decide +kernel
theorem dX3_compare_7 : decode cX3_compare 7 = .ok (.isub, 1) := by decide +kernel
theorem dX3_compare_8 : decode cX3_compare 8 = .ok (.iload 5, 2) := by decide +kernel
theorem dX3_compare_10 : decode cX3_compare 10 = .ok (.aload_n 0, 1) := by decide +kernel
theorem dX3_compare_11 : decode cX3_compare 11 = .ok (.getfield 24, 3) := by decide +kernel
theorem dX3_compare_14 : decode cX3_compare 14 = .ok (.getfield 102, 3) := by decide +kernel
theorem dX3_compare_17 : decode cX3_compare 17 = .ok (.invokestatic 59, 3) := by decide +kernel
theorem dX3_compare_20 : decode cX3_compare 20 = .ok (.iload_n 3, 1) := by decide +kernel
theorem dX3_compare_21 : decode cX3_compare 21 = .ok (.isub, 1) := by decide +kernel
theorem dX3_compare_22 : decode cX3_compare 22 = .ok (.invokevirtual 105, 3) := by decide +kernel
theorem dX3_compare_25 : decode cX3_compare 25 = .ok (.aload_n 0, 1) := by decide +kernel
theorem dX3_compare_26 : decode cX3_compare 26 = .ok (.getfield 15, 3) := by decide +kernel
theorem dX3_compare_29 : decode cX3_compare 29 = .ok (.ldc 109, 2) := by decide +kernel
theorem dX3_compare_31 : decode cX3_compare 31 = .ok (.invokestatic 110, 3) := by decide +kernel
theorem dX3_compare_34 : decode cX3_compare 34 = .ok (.aload_n 0, 1) := by decide +kernel
theorem dX3_compare_35 : decode cX3_compare 35 = .ok (.iconst 0, 1) := by decide +kernel
theorem dX3_compare_36 : decode cX3_compare 36 = .ok (.putfield 116, 3) := by decide +kernel
theorem dX3_compare_39 : decode cX3_compare 39 = .ok (.aload_n 0, 1) := by decide +kernel
theorem dX3_compare_40 : decode cX3_compare 40 = .ok (.iconst 0, 1) := by decide +kernel
theorem dX3_compare_41 : decode cX3_compare 41 = .ok (.putfield 119, 3) := by decide +kernel
theorem dX3_compare_44 : decode cX3_compare 44 = .ok (.iload 4, 2) := by decide +kernel
theorem dX3_compare_46 : decode cX3_compare 46 = .ok (.aload_n 0, 1) := by decide +kernel
theorem dX3_compare_47 : decode cX3_compare 47 = .ok (.getfield 45, 3) := by decide +kernel
theorem dX3_compare_50 : decode cX3_compare 50 = .ok (.invokestatic 53, 3) := by decide +kernel
theorem dX3_compare_53 : decode cX3_compare 53 = .ok (.istore 6, 2) := by decide +kernel
theorem dX3_compare_55 : decode cX3_compare 55 = .ok (.iload 6, 2) := by decide +kernel
theorem dX3_compare_57 : decode cX3_compare 57 = .ok (.iload 5, 2) := by decide +kernel
theorem dX3_compare_59 : decode cX3_compare 59 = .ok (.if_icmp .gt 110, 3) := by decide +kernel
theorem dX3_compare_62 : decode cX3_compare 62 = .ok (.iload 6, 2) := by decide +kernel
theorem dX3_compare_64 : decode cX3_compare 64 = .ok (.aload_n 0, 1) := by decide +kernel
theorem dX3_compare_65 : decode cX3_compare 65 = .ok (.getfield 24, 3) := by decide +kernel
theorem dX3_compare_68 : decode cX3_compare 68 = .ok (.getfield 102, 3) := by decide +kernel
theorem dX3_compare_71 : decode cX3_compare 71 = .ok (.if_icmp .gt 98, 3) := by decide +kernel
theorem dX3_compare_74 : decode cX3_compare 74 = .ok (.aload_n 0, 1) := by decide +kernel
theorem dX3_compare_75 : decode cX3_compare 75 = .ok (.iload_n 2, 1) := by decide +kernel
theorem dX3_compare_76 : decode cX3_compare 76 = .ok (.iload 6, 2) := by decide +kernel
theorem dX3_compare_78 : decode cX3_compare 78 = .ok (.aload_n 0, 1) := by decide +kernel
theorem dX3_compare_79 : decode cX3_compare 79 = .ok (.getfield 45, 3) := by decide +kernel
theorem dX3_compare_82 : decode cX3_compare 82 = .ok (.isub, 1) := by decide +kernel
theorem dX3_compare_83 : decode cX3_compare 83 = .ok (.invokevirtual 90, 3) := by decide +kernel
theorem dX3_compare_86 : decode cX3_compare 86 = .ok (.istore 7, 2) := by decide +kernel
theorem dX3_compare_88 : decode cX3_compare 88 = .ok (.aload_n 0, 1) := by decide +kernel
theorem dX3_compare_89 : decode cX3_compare 89 = .ok (.getfield 24, 3) := by decide +kernel
theorem dX3_compare_92 : decode cX3_compare 92 = .ok (.aload_n 0, 1) := by decide +kernel
theorem dX3_compare_93 : decode cX3_compare 93 = .ok (.getfield 41, 3) := by decide +kernel
theorem dX3_compare_96 : decode cX3_compare 96 = .ok (.iload 6, 2) := by decide +kernel
theorem dX3_compare_98 : decode cX3_compare 98 = .ok (.aload_n 0, 1) := by decide +kernel
theorem dX3_compare_99 : decode cX3_compare 99 = .ok (.getfield 24, 3) := by decide +kernel
theorem dX3_compare_102 : decode cX3_compare 102 = .ok (.getfield 102, 3) := by decide +kernel
theorem dX3_compare_105 : decode cX3_compare 105 = .ok (.invokevirtual 93, 3) := by decide +kernel
theorem dX3_compare_108 : decode cX3_compare 108 = .ok (.istore 8, 2) := by decide +kernel
theorem dX3_compare_110 : decode cX3_compare 110 = .ok (.iload 7, 2) := by decide +kernel
theorem dX3_compare_112 : decode cX3_compare 112 = .ok (.bipush (-4), 2) := by decide +kernel
theorem dX3_compare_114 : decode cX3_compare 114 = .ok (.if_icmp .eq 49, 3) := by decide +kernel
theorem dX3_compare_117 : decode cX3_compare 117 = .ok (.iload 8, 2) := by decide +kernel
theorem dX3_compare_119 : decode cX3_compare 119 = .ok (.bipush (-4), 2) := by decide +kernel
theorem dX3_compare_121 : decode cX3_compare 121 = .ok (.if_icmp .eq 42, 3) := by decide +kernel
theorem dX3_compare_124 : decode cX3_compare 124 = .ok (.aload_n 0, 1) := by decide +kernel
theorem dX3_compare_125 : decode cX3_compare 125 = .ok (.getfield 15, 3) := by decide +kernel
theorem dX3_compare_128 : decode cX3_compare 128 = .ok (.iload 6, 2) := by decide +kernel
theorem dX3_compare_130 : decode cX3_compare 130 = .ok (.iload 8, 2) := by decide +kernel
theorem dX3_compare_132 : decode cX3_compare 132 = .ok (.iload 7, 2) := by decide +kernel
theorem dX3_compare_134 : decode cX3_compare 134 = .ok (.isub, 1) := by decide +kernel
theorem dX3_compare_135 : decode cX3_compare 135 = .ok (.iastore, 1) := by decide +kernel
theorem dX3_compare_136 : decode cX3_compare 136 = .ok (.aload_n 0, 1) := by decide +kernel
theorem dX3_compare_137 : decode cX3_compare 137 = .ok (.dup, 1) := by decide +kernel
theorem dX3_compare_138 : decode cX3_compare 138 = .ok (.getfield 116, 3) := by decide +kernel
theorem dX3_compare_141 : decode cX3_compare 141 = .ok (.iconst 1, 1) := by decide +kernel
theorem dX3_compare_142 : decode cX3_compare 142 = .ok (.iadd, 1) := by decide +kernel
theorem dX3_compare_143 : decode cX3_compare 143 = .ok (.putfield 116, 3) := by decide +kernel
theorem dX3_compare_146 : decode cX3_compare 146 = .ok (.aload_n 0, 1) := by decide +kernel
theorem dX3_compare_147 : decode cX3_compare 147 = .ok (.dup, 1) := by decide +kernel
theorem dX3_compare_148 : decode cX3_compare 148 = .ok (.getfield 119, 3) := by decide +kernel
theorem dX3_compare_151 : decode cX3_compare 151 = .ok (.iload 8, 2) := by decide +kernel
theorem dX3_compare_153 : decode cX3_compare 153 = .ok (.iload 7, 2) := by decide +kernel
theorem dX3_compare_155 : decode cX3_compare 155 = .ok (.isub, 1) := by decide +kernel
theorem dX3_compare_156 : decode cX3_compare 156 = .ok (.invokestatic 98, 3) := by decide +kernel
theorem dX3_compare_159 : decode cX3_compare 159 = .ok (.iadd, 1) := by decide +kernel
theorem dX3_compare_160 : decode cX3_compare 160 = .ok (.putfield 119, 3) := by decide +kernel
theorem dX3_compare_163 : decode cX3_compare 163 = .ok (.iinc 6 1, 3) := by decide +kernel
theorem dX3_compare_166 : decode cX3_compare 166 = .ok (.goto (-111), 3) := by decide +kernel
theorem dX3_compare_169 : decode cX3_compare 169 = .ok (.return_, 1) := by decide +kernel
theorem dX3_missOf_0 : decode cX3_missOf 0 = .ok (.iload_n 1, 1) := by decide +kernel
theorem dX3_missOf_1 : decode cX3_missOf 1 = .ok (.invokestatic 122, 3) := by decide +kernel
theorem dX3_missOf_4 : decode cX3_missOf 4 = .ok (.ifCond .eq 14, 3) := by decide +kernel
theorem dX3_missOf_7 : decode cX3_missOf 7 = .ok (.aload_n 0, 1) := by decide +kernel
theorem dX3_missOf_8 : decode cX3_missOf 8 = .ok (.getfield 15, 3) := by decide +kernel
theorem dX3_missOf_11 : decode cX3_missOf 11 = .ok (.iload_n 1, 1) := by decide +kernel
theorem dX3_missOf_12 : decode cX3_missOf 12 = .ok (.iaload, 1) := by decide +kernel
theorem dX3_missOf_13 : decode cX3_missOf 13 = .ok (.ldc 109, 2) := by decide +kernel
theorem dX3_missOf_15 : decode cX3_missOf 15 = .ok (.if_icmp .ne 6, 3) := by decide +kernel
theorem dX3_missOf_18 : decode cX3_missOf 18 = .ok (.bipush (-4), 2) := by decide +kernel
theorem dX3_missOf_20 : decode cX3_missOf 20 = .ok (.ireturn, 1) := by decide +kernel
theorem dX3_missOf_21 : decode cX3_missOf 21 = .ok (.aload_n 0, 1) := by decide +kernel
theorem dX3_missOf_22 : decode cX3_missOf 22 = .ok (.getfield 15, 3) := by decide +kernel
theorem dX3_missOf_25 : decode cX3_missOf 25 = .ok (.iload_n 1, 1) := by decide +kernel
theorem dX3_missOf_26 : decode cX3_missOf 26 = .ok (.iaload, 1) := by decide +kernel
theorem dX3_missOf_27 : decode cX3_missOf 27 = .ok (.invokestatic 98, 3) := by decide +kernel
theorem dX3_missOf_30 : decode cX3_missOf 30 = .ok (.ireturn, 1) := by decide +kernel
theorem dX3_worstDay_0 : decode cX3_worstDay 0 = .ok (.bipush (-4), 2) := by decide +kernel
theorem dX3_worstDay_2 : decode cX3_worstDay 2 = .ok (.istore_n 3, 1) := by decide +kernel
theorem dX3_worstDay_3 : decode cX3_worstDay 3 = .ok (.iload_n 1, 1) := by decide +kernel
theorem dX3_worstDay_4 : decode cX3_worstDay 4 = .ok (.istore 4, 2) := by decide +kernel
theorem dX3_worstDay_6 : decode cX3_worstDay 6 = .ok (.iload 4, 2) := by decide +kernel
theorem dX3_worstDay_8 : decode cX3_worstDay 8 = .ok (.iload_n 2, 1) := by decide +kernel
theorem dX3_worstDay_9 : decode cX3_worstDay 9 = .ok (.if_icmp .gt 26, 3) := by decide +kernel
theorem dX3_worstDay_12 : decode cX3_worstDay 12 = .ok (.aload_n 0, 1) := by decide +kernel
theorem dX3_worstDay_13 : decode cX3_worstDay 13 = .ok (.iload 4, 2) := by decide +kernel
theorem dX3_worstDay_15 : decode cX3_worstDay 15 = .ok (.invokevirtual 126, 3) := by decide +kernel
theorem dX3_worstDay_18 : decode cX3_worstDay 18 = .ok (.aload_n 0, 1) := by decide +kernel
theorem dX3_worstDay_19 : decode cX3_worstDay 19 = .ok (.iload_n 3, 1) := by decide +kernel
theorem dX3_worstDay_20 : decode cX3_worstDay 20 = .ok (.invokevirtual 126, 3) := by decide +kernel
theorem dX3_worstDay_23 : decode cX3_worstDay 23 = .ok (.if_icmp .le 6, 3) := by decide +kernel
theorem dX3_worstDay_26 : decode cX3_worstDay 26 = .ok (.iload 4, 2) := by decide +kernel
theorem dX3_worstDay_28 : decode cX3_worstDay 28 = .ok (.istore_n 3, 1) := by decide +kernel
theorem dX3_worstDay_29 : decode cX3_worstDay 29 = .ok (.iinc 4 1, 3) := by decide +kernel
theorem dX3_worstDay_32 : decode cX3_worstDay 32 = .ok (.goto (-26), 3) := by decide +kernel
theorem dX3_worstDay_35 : decode cX3_worstDay 35 = .ok (.iload_n 3, 1) := by decide +kernel
theorem dX3_worstDay_36 : decode cX3_worstDay 36 = .ok (.ireturn, 1) := by decide +kernel
theorem dX3_sortMiss_0 : decode cX3_sortMiss 0 = .ok (.aload_n 0, 1) := by decide +kernel
theorem dX3_sortMiss_1 : decode cX3_sortMiss 1 = .ok (.iload_n 1, 1) := by decide +kernel
theorem dX3_sortMiss_2 : decode cX3_sortMiss 2 = .ok (.invokevirtual 126, 3) := by decide +kernel
theorem dX3_sortMiss_5 : decode cX3_sortMiss 5 = .ok (.istore_n 2, 1) := by decide +kernel
theorem dX3_sortMiss_6 : decode cX3_sortMiss 6 = .ok (.iload_n 2, 1) := by decide +kernel
theorem dX3_sortMiss_7 : decode cX3_sortMiss 7 = .ok (.bipush (-4), 2) := by decide +kernel
theorem dX3_sortMiss_9 : decode cX3_sortMiss 9 = .ok (.if_icmp .eq 8, 3) := by decide +kernel
theorem dX3_sortMiss_12 : decode cX3_sortMiss 12 = .ok (.aload_n 0, 1) := by decide +kernel
theorem dX3_sortMiss_13 : decode cX3_sortMiss 13 = .ok (.iload_n 2, 1) := by decide +kernel
theorem dX3_sortMiss_14 : decode cX3_sortMiss 14 = .ok (.invokevirtual 129, 3) := by decide +kernel
theorem dX3_sortMiss_17 : decode cX3_sortMiss 17 = .ok (.return_, 1) := by decide +kernel
theorem dX3_sortIn_0 : decode cX3_sortIn 0 = .ok (.aload_n 0, 1) := by decide +kernel
theorem dX3_sortIn_1 : decode cX3_sortIn 1 = .ok (.getfield 133, 3) := by decide +kernel
theorem dX3_sortIn_4 : decode cX3_sortIn 4 = .ok (.bipush 64, 2) := by decide +kernel
theorem dX3_sortIn_6 : decode cX3_sortIn 6 = .ok (.if_icmp .lt 4, 3) := by decide +kernel
theorem dX3_sortIn_9 : decode cX3_sortIn 9 = .ok (.return_, 1) := by decide +kernel
theorem dX3_sortIn_10 : decode cX3_sortIn 10 = .ok (.aload_n 0, 1) := by decide +kernel
theorem dX3_sortIn_11 : decode cX3_sortIn 11 = .ok (.getfield 133, 3) := by decide +kernel
theorem dX3_sortIn_14 : decode cX3_sortIn 14 = .ok (.istore_n 2, 1) := by decide +kernel
theorem dX3_sortIn_15 : decode cX3_sortIn 15 = .ok (.iload_n 2, 1) := by decide +kernel
theorem dX3_sortIn_16 : decode cX3_sortIn 16 = .ok (.ifCond .le 35, 3) := by decide +kernel
theorem dX3_sortIn_19 : decode cX3_sortIn 19 = .ok (.aload_n 0, 1) := by decide +kernel
theorem dX3_sortIn_20 : decode cX3_sortIn 20 = .ok (.getfield 18, 3) := by decide +kernel
theorem dX3_sortIn_23 : decode cX3_sortIn 23 = .ok (.iload_n 2, 1) := by decide +kernel
theorem dX3_sortIn_24 : decode cX3_sortIn 24 = .ok (.iconst 1, 1) := by decide +kernel
theorem dX3_sortIn_25 : decode cX3_sortIn 25 = .ok (.isub, 1) := by decide +kernel
theorem dX3_sortIn_26 : decode cX3_sortIn 26 = .ok (.iaload, 1) := by decide +kernel
theorem dX3_sortIn_27 : decode cX3_sortIn 27 = .ok (.iload_n 1, 1) := by decide +kernel
theorem dX3_sortIn_28 : decode cX3_sortIn 28 = .ok (.if_icmp .le 23, 3) := by decide +kernel
theorem dX3_sortIn_31 : decode cX3_sortIn 31 = .ok (.aload_n 0, 1) := by decide +kernel
theorem dX3_sortIn_32 : decode cX3_sortIn 32 = .ok (.getfield 18, 3) := by decide +kernel
theorem dX3_sortIn_35 : decode cX3_sortIn 35 = .ok (.iload_n 2, 1) := by decide +kernel
theorem dX3_sortIn_36 : decode cX3_sortIn 36 = .ok (.aload_n 0, 1) := by decide +kernel
theorem dX3_sortIn_37 : decode cX3_sortIn 37 = .ok (.getfield 18, 3) := by decide +kernel
theorem dX3_sortIn_40 : decode cX3_sortIn 40 = .ok (.iload_n 2, 1) := by decide +kernel
theorem dX3_sortIn_41 : decode cX3_sortIn 41 = .ok (.iconst 1, 1) := by decide +kernel
theorem dX3_sortIn_42 : decode cX3_sortIn 42 = .ok (.isub, 1) := by decide +kernel
theorem dX3_sortIn_43 : decode cX3_sortIn 43 = .ok (.iaload, 1) := by decide +kernel
theorem dX3_sortIn_44 : decode cX3_sortIn 44 = .ok (.iastore, 1) := by decide +kernel
theorem dX3_sortIn_45 : decode cX3_sortIn 45 = .ok (.iinc 2 (-1), 3) := by decide +kernel
theorem dX3_sortIn_48 : decode cX3_sortIn 48 = .ok (.goto (-33), 3) := by decide +kernel
theorem dX3_sortIn_51 : decode cX3_sortIn 51 = .ok (.aload_n 0, 1) := by decide +kernel
theorem dX3_sortIn_52 : decode cX3_sortIn 52 = .ok (.getfield 18, 3) := by decide +kernel
theorem dX3_sortIn_55 : decode cX3_sortIn 55 = .ok (.iload_n 2, 1) := by decide +kernel
theorem dX3_sortIn_56 : decode cX3_sortIn 56 = .ok (.iload_n 1, 1) := by decide +kernel
theorem dX3_sortIn_57 : decode cX3_sortIn 57 = .ok (.iastore, 1) := by decide +kernel
theorem dX3_sortIn_58 : decode cX3_sortIn 58 = .ok (.aload_n 0, 1) := by decide +kernel
theorem dX3_sortIn_59 : decode cX3_sortIn 59 = .ok (.dup, 1) := by decide +kernel
theorem dX3_sortIn_60 : decode cX3_sortIn 60 = .ok (.getfield 133, 3) := by decide +kernel
theorem dX3_sortIn_63 : decode cX3_sortIn 63 = .ok (.iconst 1, 1) := by decide +kernel
theorem dX3_sortIn_64 : decode cX3_sortIn 64 = .ok (.iadd, 1) := by decide +kernel
theorem dX3_sortIn_65 : decode cX3_sortIn 65 = .ok (.putfield 133, 3) := by decide +kernel
theorem dX3_sortIn_68 : decode cX3_sortIn 68 = .ok (.return_, 1) := by decide +kernel
theorem dX3_leastOver_0 : decode cX3_leastOver 0 = .ok (.iload_n 2, 1) := by decide +kernel
theorem dX3_leastOver_1 : decode cX3_leastOver 1 = .ok (.ifCond .gt 6, 3) := by decide +kernel
theorem dX3_leastOver_4 : decode cX3_leastOver 4 = .ok (.ldc 109, 2) := by decide +kernel
theorem dX3_leastOver_6 : decode cX3_leastOver 6 = .ok (.ireturn, 1) := by decide +kernel
theorem dX3_leastOver_7 : decode cX3_leastOver 7 = .ok (.iload_n 1, 1) := by decide +kernel
theorem dX3_leastOver_8 : decode cX3_leastOver 8 = .ok (.aload_n 0, 1) := by decide +kernel
theorem dX3_leastOver_9 : decode cX3_leastOver 9 = .ok (.getfield 133, 3) := by decide +kernel
theorem dX3_leastOver_12 : decode cX3_leastOver 12 = .ok (.imul, 1) := by decide +kernel
theorem dX3_leastOver_13 : decode cX3_leastOver 13 = .ok (.iload_n 2, 1) := by decide +kernel
theorem dX3_leastOver_14 : decode cX3_leastOver 14 = .ok (.iadd, 1) := by decide +kernel
theorem dX3_leastOver_15 : decode cX3_leastOver 15 = .ok (.iconst 1, 1) := by decide +kernel
theorem dX3_leastOver_16 : decode cX3_leastOver 16 = .ok (.isub, 1) := by decide +kernel
theorem dX3_leastOver_17 : decode cX3_leastOver 17 = .ok (.iload_n 2, 1) := by decide +kernel
theorem dX3_leastOver_18 : decode cX3_leastOver 18 = .ok (.idiv, 1) := by decide +kernel
theorem dX3_leastOver_19 : decode cX3_leastOver 19 = .ok (.istore_n 3, 1) := by decide +kernel
theorem dX3_leastOver_20 : decode cX3_leastOver 20 = .ok (.iload_n 3, 1) := by decide +kernel
theorem dX3_leastOver_21 : decode cX3_leastOver 21 = .ok (.iconst 1, 1) := by decide +kernel
theorem dX3_leastOver_22 : decode cX3_leastOver 22 = .ok (.if_icmp .lt 11, 3) := by decide +kernel
theorem dX3_leastOver_25 : decode cX3_leastOver 25 = .ok (.iload_n 3, 1) := by decide +kernel
theorem dX3_leastOver_26 : decode cX3_leastOver 26 = .ok (.aload_n 0, 1) := by decide +kernel
theorem dX3_leastOver_27 : decode cX3_leastOver 27 = .ok (.getfield 133, 3) := by decide +kernel
theorem dX3_leastOver_30 : decode cX3_leastOver 30 = .ok (.if_icmp .le 8, 3) := by decide +kernel
theorem dX3_leastOver_33 : decode cX3_leastOver 33 = .ok (.ldc 109, 2) := by decide +kernel
theorem dX3_leastOver_35 : decode cX3_leastOver 35 = .ok (.goto 11, 3) := by decide +kernel
theorem dX3_leastOver_38 : decode cX3_leastOver 38 = .ok (.aload_n 0, 1) := by decide +kernel
theorem dX3_leastOver_39 : decode cX3_leastOver 39 = .ok (.getfield 18, 3) := by decide +kernel
theorem dX3_leastOver_42 : decode cX3_leastOver 42 = .ok (.iload_n 3, 1) := by decide +kernel
theorem dX3_leastOver_43 : decode cX3_leastOver 43 = .ok (.iconst 1, 1) := by decide +kernel
theorem dX3_leastOver_44 : decode cX3_leastOver 44 = .ok (.isub, 1) := by decide +kernel
theorem dX3_leastOver_45 : decode cX3_leastOver 45 = .ok (.iaload, 1) := by decide +kernel
theorem dX3_leastOver_46 : decode cX3_leastOver 46 = .ok (.ireturn, 1) := by decide +kernel
theorem dX3_spanOf_0 : decode cX3_spanOf 0 = .ok (.aload_n 0, 1) := by decide +kernel
theorem dX3_spanOf_1 : decode cX3_spanOf 1 = .ok (.iload_n 1, 1) := by decide +kernel
theorem dX3_spanOf_2 : decode cX3_spanOf 2 = .ok (.bipush 100, 2) := by decide +kernel
theorem dX3_spanOf_4 : decode cX3_spanOf 4 = .ok (.invokevirtual 136, 3) := by decide +kernel
theorem dX3_spanOf_7 : decode cX3_spanOf 7 = .ok (.istore_n 2, 1) := by decide +kernel
theorem dX3_spanOf_8 : decode cX3_spanOf 8 = .ok (.iload_n 2, 1) := by decide +kernel
theorem dX3_spanOf_9 : decode cX3_spanOf 9 = .ok (.ldc 109, 2) := by decide +kernel
theorem dX3_spanOf_11 : decode cX3_spanOf 11 = .ok (.if_icmp .ne 8, 3) := by decide +kernel
theorem dX3_spanOf_14 : decode cX3_spanOf 14 = .ok (.bipush (-4), 2) := by decide +kernel
theorem dX3_spanOf_16 : decode cX3_spanOf 16 = .ok (.goto 4, 3) := by decide +kernel
theorem dX3_spanOf_19 : decode cX3_spanOf 19 = .ok (.iload_n 2, 1) := by decide +kernel
theorem dX3_spanOf_20 : decode cX3_spanOf 20 = .ok (.ireturn, 1) := by decide +kernel
theorem dX3_leastCostly_0 : decode cX3_leastCostly 0 = .ok (.aload_n 0, 1) := by decide +kernel
theorem dX3_leastCostly_1 : decode cX3_leastCostly 1 = .ok (.iconst 0, 1) := by decide +kernel
theorem dX3_leastCostly_2 : decode cX3_leastCostly 2 = .ok (.putfield 133, 3) := by decide +kernel
theorem dX3_leastCostly_5 : decode cX3_leastCostly 5 = .ok (.iload_n 2, 1) := by decide +kernel
theorem dX3_leastCostly_6 : decode cX3_leastCostly 6 = .ok (.istore 6, 2) := by decide +kernel
theorem dX3_leastCostly_8 : decode cX3_leastCostly 8 = .ok (.iload 6, 2) := by decide +kernel
theorem dX3_leastCostly_10 : decode cX3_leastCostly 10 = .ok (.iload_n 3, 1) := by decide +kernel
theorem dX3_leastCostly_11 : decode cX3_leastCostly 11 = .ok (.if_icmp .gt 32, 3) := by decide +kernel
theorem dX3_leastCostly_14 : decode cX3_leastCostly 14 = .ok (.aload_n 0, 1) := by decide +kernel
theorem dX3_leastCostly_15 : decode cX3_leastCostly 15 = .ok (.getfield 15, 3) := by decide +kernel
theorem dX3_leastCostly_18 : decode cX3_leastCostly 18 = .ok (.iload 6, 2) := by decide +kernel
theorem dX3_leastCostly_20 : decode cX3_leastCostly 20 = .ok (.iaload, 1) := by decide +kernel
theorem dX3_leastCostly_21 : decode cX3_leastCostly 21 = .ok (.ldc 109, 2) := by decide +kernel
theorem dX3_leastCostly_23 : decode cX3_leastCostly 23 = .ok (.if_icmp .eq 14, 3) := by decide +kernel
theorem dX3_leastCostly_26 : decode cX3_leastCostly 26 = .ok (.aload_n 0, 1) := by decide +kernel
theorem dX3_leastCostly_27 : decode cX3_leastCostly 27 = .ok (.aload_n 0, 1) := by decide +kernel
theorem dX3_leastCostly_28 : decode cX3_leastCostly 28 = .ok (.getfield 15, 3) := by decide +kernel
theorem dX3_leastCostly_31 : decode cX3_leastCostly 31 = .ok (.iload 6, 2) := by decide +kernel
theorem dX3_leastCostly_33 : decode cX3_leastCostly 33 = .ok (.iaload, 1) := by decide +kernel
theorem dX3_leastCostly_34 : decode cX3_leastCostly 34 = .ok (.invokevirtual 129, 3) := by decide +kernel
theorem dX3_leastCostly_37 : decode cX3_leastCostly 37 = .ok (.iinc 6 1, 3) := by decide +kernel
theorem dX3_leastCostly_40 : decode cX3_leastCostly 40 = .ok (.goto (-32), 3) := by decide +kernel
theorem dX3_leastCostly_43 : decode cX3_leastCostly 43 = .ok (.aload_n 0, 1) := by decide +kernel
theorem dX3_leastCostly_44 : decode cX3_leastCostly 44 = .ok (.iload 5, 2) := by decide +kernel
theorem dX3_leastCostly_46 : decode cX3_leastCostly 46 = .ok (.iload 4, 2) := by decide +kernel
theorem dX3_leastCostly_48 : decode cX3_leastCostly 48 = .ok (.iload 5, 2) := by decide +kernel
theorem dX3_leastCostly_50 : decode cX3_leastCostly 50 = .ok (.iadd, 1) := by decide +kernel
theorem dX3_leastCostly_51 : decode cX3_leastCostly 51 = .ok (.invokevirtual 136, 3) := by decide +kernel
theorem dX3_leastCostly_54 : decode cX3_leastCostly 54 = .ok (.istore 6, 2) := by decide +kernel
theorem dX3_leastCostly_56 : decode cX3_leastCostly 56 = .ok (.iconst 0, 1) := by decide +kernel
theorem dX3_leastCostly_57 : decode cX3_leastCostly 57 = .ok (.sipush 999, 3) := by decide +kernel
theorem dX3_leastCostly_60 : decode cX3_leastCostly 60 = .ok (.iload_n 1, 1) := by decide +kernel
theorem dX3_leastCostly_61 : decode cX3_leastCostly 61 = .ok (.iload 6, 2) := by decide +kernel
theorem dX3_leastCostly_63 : decode cX3_leastCostly 63 = .ok (.iadd, 1) := by decide +kernel
theorem dX3_leastCostly_64 : decode cX3_leastCostly 64 = .ok (.invokestatic 59, 3) := by decide +kernel
theorem dX3_leastCostly_67 : decode cX3_leastCostly 67 = .ok (.invokestatic 53, 3) := by decide +kernel
theorem dX3_leastCostly_70 : decode cX3_leastCostly 70 = .ok (.ireturn, 1) := by decide +kernel
theorem dX3_costOf_0 : decode cX3_costOf 0 = .ok (.iconst 0, 1) := by decide +kernel
theorem dX3_costOf_1 : decode cX3_costOf 1 = .ok (.istore 6, 2) := by decide +kernel
theorem dX3_costOf_3 : decode cX3_costOf 3 = .ok (.iload_n 2, 1) := by decide +kernel
theorem dX3_costOf_4 : decode cX3_costOf 4 = .ok (.istore 7, 2) := by decide +kernel
theorem dX3_costOf_6 : decode cX3_costOf 6 = .ok (.iload 7, 2) := by decide +kernel
theorem dX3_costOf_8 : decode cX3_costOf 8 = .ok (.iload_n 3, 1) := by decide +kernel
theorem dX3_costOf_9 : decode cX3_costOf 9 = .ok (.if_icmp .gt 56, 3) := by decide +kernel
theorem dX3_costOf_12 : decode cX3_costOf 12 = .ok (.aload_n 0, 1) := by decide +kernel
theorem dX3_costOf_13 : decode cX3_costOf 13 = .ok (.getfield 15, 3) := by decide +kernel
theorem dX3_costOf_16 : decode cX3_costOf 16 = .ok (.iload 7, 2) := by decide +kernel
theorem dX3_costOf_18 : decode cX3_costOf 18 = .ok (.iaload, 1) := by decide +kernel
theorem dX3_costOf_19 : decode cX3_costOf 19 = .ok (.ldc 109, 2) := by decide +kernel
theorem dX3_costOf_21 : decode cX3_costOf 21 = .ok (.if_icmp .eq 38, 3) := by decide +kernel
theorem dX3_costOf_24 : decode cX3_costOf 24 = .ok (.iload_n 1, 1) := by decide +kernel
theorem dX3_costOf_25 : decode cX3_costOf 25 = .ok (.aload_n 0, 1) := by decide +kernel
theorem dX3_costOf_26 : decode cX3_costOf 26 = .ok (.getfield 15, 3) := by decide +kernel
theorem dX3_costOf_29 : decode cX3_costOf 29 = .ok (.iload 7, 2) := by decide +kernel
theorem dX3_costOf_31 : decode cX3_costOf 31 = .ok (.iaload, 1) := by decide +kernel
theorem dX3_costOf_32 : decode cX3_costOf 32 = .ok (.isub, 1) := by decide +kernel
theorem dX3_costOf_33 : decode cX3_costOf 33 = .ok (.istore 8, 2) := by decide +kernel
theorem dX3_costOf_35 : decode cX3_costOf 35 = .ok (.iload 6, 2) := by decide +kernel
theorem dX3_costOf_37 : decode cX3_costOf 37 = .ok (.iload 8, 2) := by decide +kernel
theorem dX3_costOf_39 : decode cX3_costOf 39 = .ok (.ifCond .le 11, 3) := by decide +kernel
theorem dX3_costOf_42 : decode cX3_costOf 42 = .ok (.iload 4, 2) := by decide +kernel
theorem dX3_costOf_44 : decode cX3_costOf 44 = .ok (.iload 8, 2) := by decide +kernel
theorem dX3_costOf_46 : decode cX3_costOf 46 = .ok (.imul, 1) := by decide +kernel
theorem dX3_costOf_47 : decode cX3_costOf 47 = .ok (.goto 9, 3) := by decide +kernel
theorem dX3_costOf_50 : decode cX3_costOf 50 = .ok (.iload 5, 2) := by decide +kernel
theorem dX3_costOf_52 : decode cX3_costOf 52 = .ok (.iload 8, 2) := by decide +kernel
theorem dX3_costOf_54 : decode cX3_costOf 54 = .ok (.ineg, 1) := by decide +kernel
theorem dX3_costOf_55 : decode cX3_costOf 55 = .ok (.imul, 1) := by decide +kernel
theorem dX3_costOf_56 : decode cX3_costOf 56 = .ok (.iadd, 1) := by decide +kernel
theorem dX3_costOf_57 : decode cX3_costOf 57 = .ok (.istore 6, 2) := by decide +kernel
theorem dX3_costOf_59 : decode cX3_costOf 59 = .ok (.iinc 7 1, 3) := by decide +kernel
theorem dX3_costOf_62 : decode cX3_costOf 62 = .ok (.goto (-56), 3) := by decide +kernel
theorem dX3_costOf_65 : decode cX3_costOf 65 = .ok (.iload 6, 2) := by decide +kernel
theorem dX3_costOf_67 : decode cX3_costOf 67 = .ok (.ireturn, 1) := by decide +kernel
theorem dX3_gather_0 : decode cX3_gather 0 = .ok (.iconst 0, 1) := by decide +kernel
theorem dX3_gather_1 : decode cX3_gather 1 = .ok (.istore_n 3, 1) := by decide +kernel
theorem dX3_gather_2 : decode cX3_gather 2 = .ok (.aload_n 0, 1) := by decide +kernel
theorem dX3_gather_3 : decode cX3_gather 3 = .ok (.iconst 0, 1) := by decide +kernel
theorem dX3_gather_4 : decode cX3_gather 4 = .ok (.putfield 139, 3) := by decide +kernel
theorem dX3_gather_7 : decode cX3_gather 7 = .ok (.aload_n 0, 1) := by decide +kernel
theorem dX3_gather_8 : decode cX3_gather 8 = .ok (.iconst 0, 1) := by decide +kernel
theorem dX3_gather_9 : decode cX3_gather 9 = .ok (.putfield 142, 3) := by decide +kernel
theorem dX3_gather_12 : decode cX3_gather 12 = .ok (.iload_n 1, 1) := by decide +kernel
theorem dX3_gather_13 : decode cX3_gather 13 = .ok (.istore 4, 2) := by decide +kernel
theorem dX3_gather_15 : decode cX3_gather 15 = .ok (.iload 4, 2) := by decide +kernel
theorem dX3_gather_17 : decode cX3_gather 17 = .ok (.iload_n 2, 1) := by decide +kernel
theorem dX3_gather_18 : decode cX3_gather 18 = .ok (.if_icmp .gt 97, 3) := by decide +kernel
theorem dX3_gather_21 : decode cX3_gather 21 = .ok (.aload_n 0, 1) := by decide +kernel
theorem dX3_gather_22 : decode cX3_gather 22 = .ok (.getfield 15, 3) := by decide +kernel
theorem dX3_gather_25 : decode cX3_gather 25 = .ok (.iload 4, 2) := by decide +kernel
theorem dX3_gather_27 : decode cX3_gather 27 = .ok (.iaload, 1) := by decide +kernel
theorem dX3_gather_28 : decode cX3_gather 28 = .ok (.ldc 109, 2) := by decide +kernel
theorem dX3_gather_30 : decode cX3_gather 30 = .ok (.if_icmp .eq 79, 3) := by decide +kernel
theorem dX3_gather_33 : decode cX3_gather 33 = .ok (.aload_n 0, 1) := by decide +kernel
theorem dX3_gather_34 : decode cX3_gather 34 = .ok (.getfield 21, 3) := by decide +kernel
theorem dX3_gather_37 : decode cX3_gather 37 = .ok (.iload_n 3, 1) := by decide +kernel
theorem dX3_gather_38 : decode cX3_gather 38 = .ok (.aload_n 0, 1) := by decide +kernel
theorem dX3_gather_39 : decode cX3_gather 39 = .ok (.getfield 15, 3) := by decide +kernel
theorem dX3_gather_42 : decode cX3_gather 42 = .ok (.iload 4, 2) := by decide +kernel
theorem dX3_gather_44 : decode cX3_gather 44 = .ok (.iaload, 1) := by decide +kernel
theorem dX3_gather_45 : decode cX3_gather 45 = .ok (.iastore, 1) := by decide +kernel
theorem dX3_gather_46 : decode cX3_gather 46 = .ok (.iinc 3 1, 3) := by decide +kernel
theorem dX3_gather_49 : decode cX3_gather 49 = .ok (.aload_n 0, 1) := by decide +kernel
theorem dX3_gather_50 : decode cX3_gather 50 = .ok (.dup, 1) := by decide +kernel
theorem dX3_gather_51 : decode cX3_gather 51 = .ok (.getfield 139, 3) := by decide +kernel
theorem dX3_gather_54 : decode cX3_gather 54 = .ok (.aload_n 0, 1) := by decide +kernel
theorem dX3_gather_55 : decode cX3_gather 55 = .ok (.getfield 24, 3) := by decide +kernel
theorem dX3_gather_58 : decode cX3_gather 58 = .ok (.getfield 145, 3) := by decide +kernel
theorem dX3_gather_61 : decode cX3_gather 61 = .ok (.iload 4, 2) := by decide +kernel
theorem dX3_gather_63 : decode cX3_gather 63 = .ok (.baload, 1) := by decide +kernel
theorem dX3_gather_64 : decode cX3_gather 64 = .ok (.ifCond .eq 7, 3) := by decide +kernel
theorem dX3_gather_67 : decode cX3_gather 67 = .ok (.iconst 1, 1) := by decide +kernel
theorem dX3_gather_68 : decode cX3_gather 68 = .ok (.goto 4, 3) := by decide +kernel
theorem dX3_gather_71 : decode cX3_gather 71 = .ok (.iconst 0, 1) := by decide +kernel
theorem dX3_gather_72 : decode cX3_gather 72 = .ok (.iadd, 1) := by decide +kernel
theorem dX3_gather_73 : decode cX3_gather 73 = .ok (.putfield 139, 3) := by decide +kernel
theorem dX3_gather_76 : decode cX3_gather 76 = .ok (.aload_n 0, 1) := by decide +kernel
theorem dX3_gather_77 : decode cX3_gather 77 = .ok (.dup, 1) := by decide +kernel
theorem dX3_gather_78 : decode cX3_gather 78 = .ok (.getfield 142, 3) := by decide +kernel
theorem dX3_gather_81 : decode cX3_gather 81 = .ok (.aload_n 0, 1) := by decide +kernel
theorem dX3_gather_82 : decode cX3_gather 82 = .ok (.getfield 24, 3) := by decide +kernel
theorem dX3_gather_85 : decode cX3_gather 85 = .ok (.getfield 145, 3) := by decide +kernel
theorem dX3_gather_88 : decode cX3_gather 88 = .ok (.iload 4, 2) := by decide +kernel
theorem dX3_gather_90 : decode cX3_gather 90 = .ok (.baload, 1) := by decide +kernel
theorem dX3_gather_91 : decode cX3_gather 91 = .ok (.ifCond .eq 13, 3) := by decide +kernel
theorem dX3_gather_94 : decode cX3_gather 94 = .ok (.aload_n 0, 1) := by decide +kernel
theorem dX3_gather_95 : decode cX3_gather 95 = .ok (.getfield 15, 3) := by decide +kernel
theorem dX3_gather_98 : decode cX3_gather 98 = .ok (.iload 4, 2) := by decide +kernel
theorem dX3_gather_100 : decode cX3_gather 100 = .ok (.iaload, 1) := by decide +kernel
theorem dX3_gather_101 : decode cX3_gather 101 = .ok (.goto 4, 3) := by decide +kernel
theorem dX3_gather_104 : decode cX3_gather 104 = .ok (.iconst 0, 1) := by decide +kernel
theorem dX3_gather_105 : decode cX3_gather 105 = .ok (.iadd, 1) := by decide +kernel
theorem dX3_gather_106 : decode cX3_gather 106 = .ok (.putfield 142, 3) := by decide +kernel
theorem dX3_gather_109 : decode cX3_gather 109 = .ok (.iinc 4 1, 3) := by decide +kernel
theorem dX3_gather_112 : decode cX3_gather 112 = .ok (.goto (-97), 3) := by decide +kernel
theorem dX3_gather_115 : decode cX3_gather 115 = .ok (.return_, 1) := by decide +kernel
theorem dX3_waysFrom_0 : decode cX3_waysFrom 0 = .ok (.iload_n 3, 1) := by decide +kernel
theorem dX3_waysFrom_1 : decode cX3_waysFrom 1 = .ok (.ifCond .ne 14, 3) := by decide +kernel
theorem dX3_waysFrom_4 : decode cX3_waysFrom 4 = .ok (.iload 4, 2) := by decide +kernel
theorem dX3_waysFrom_6 : decode cX3_waysFrom 6 = .ok (.ifCond .gt 7, 3) := by decide +kernel
theorem dX3_waysFrom_9 : decode cX3_waysFrom 9 = .ok (.iconst 1, 1) := by decide +kernel
theorem dX3_waysFrom_10 : decode cX3_waysFrom 10 = .ok (.goto 4, 3) := by decide +kernel
theorem dX3_waysFrom_13 : decode cX3_waysFrom 13 = .ok (.iconst 0, 1) := by decide +kernel
theorem dX3_waysFrom_14 : decode cX3_waysFrom 14 = .ok (.ireturn, 1) := by decide +kernel
theorem dX3_waysFrom_15 : decode cX3_waysFrom 15 = .ok (.iload_n 2, 1) := by decide +kernel
theorem dX3_waysFrom_16 : decode cX3_waysFrom 16 = .ok (.ifCond .lt 22, 3) := by decide +kernel
theorem dX3_waysFrom_19 : decode cX3_waysFrom 19 = .ok (.iload_n 2, 1) := by decide +kernel
theorem dX3_waysFrom_20 : decode cX3_waysFrom 20 = .ok (.bipush 16, 2) := by decide +kernel
theorem dX3_waysFrom_22 : decode cX3_waysFrom 22 = .ok (.if_icmp .ge 16, 3) := by decide +kernel
theorem dX3_waysFrom_25 : decode cX3_waysFrom 25 = .ok (.iload_n 2, 1) := by decide +kernel
theorem dX3_waysFrom_26 : decode cX3_waysFrom 26 = .ok (.aload_n 0, 1) := by decide +kernel
theorem dX3_waysFrom_27 : decode cX3_waysFrom 27 = .ok (.arraylength, 1) := by decide +kernel
theorem dX3_waysFrom_28 : decode cX3_waysFrom 28 = .ok (.if_icmp .ge 10, 3) := by decide +kernel
theorem dX3_waysFrom_31 : decode cX3_waysFrom 31 = .ok (.iload_n 1, 1) := by decide +kernel
theorem dX3_waysFrom_32 : decode cX3_waysFrom 32 = .ok (.iload_n 2, 1) := by decide +kernel
theorem dX3_waysFrom_33 : decode cX3_waysFrom 33 = .ok (.isub, 1) := by decide +kernel
theorem dX3_waysFrom_34 : decode cX3_waysFrom 34 = .ok (.iload_n 3, 1) := by decide +kernel
theorem dX3_waysFrom_35 : decode cX3_waysFrom 35 = .ok (.if_icmp .ge 5, 3) := by decide +kernel
theorem dX3_waysFrom_38 : decode cX3_waysFrom 38 = .ok (.iconst 0, 1) := by decide +kernel
theorem dX3_waysFrom_39 : decode cX3_waysFrom 39 = .ok (.ireturn, 1) := by decide +kernel
theorem dX3_waysFrom_40 : decode cX3_waysFrom 40 = .ok (.aload_n 0, 1) := by decide +kernel
theorem dX3_waysFrom_41 : decode cX3_waysFrom 41 = .ok (.iload_n 1, 1) := by decide +kernel
theorem dX3_waysFrom_42 : decode cX3_waysFrom 42 = .ok (.iload_n 2, 1) := by decide +kernel
theorem dX3_waysFrom_43 : decode cX3_waysFrom 43 = .ok (.iconst 1, 1) := by decide +kernel
theorem dX3_waysFrom_44 : decode cX3_waysFrom 44 = .ok (.iadd, 1) := by decide +kernel
theorem dX3_waysFrom_45 : decode cX3_waysFrom 45 = .ok (.iload_n 3, 1) := by decide +kernel
theorem dX3_waysFrom_46 : decode cX3_waysFrom 46 = .ok (.iconst 1, 1) := by decide +kernel
theorem dX3_waysFrom_47 : decode cX3_waysFrom 47 = .ok (.isub, 1) := by decide +kernel
theorem dX3_waysFrom_48 : decode cX3_waysFrom 48 = .ok (.iload 4, 2) := by decide +kernel
theorem dX3_waysFrom_50 : decode cX3_waysFrom 50 = .ok (.aload_n 0, 1) := by decide +kernel
theorem dX3_waysFrom_51 : decode cX3_waysFrom 51 = .ok (.iload_n 2, 1) := by decide +kernel
theorem dX3_waysFrom_52 : decode cX3_waysFrom 52 = .ok (.iaload, 1) := by decide +kernel
theorem dX3_waysFrom_53 : decode cX3_waysFrom 53 = .ok (.isub, 1) := by decide +kernel
theorem dX3_waysFrom_54 : decode cX3_waysFrom 54 = .ok (.invokestatic 149, 3) := by decide +kernel
theorem dX3_waysFrom_57 : decode cX3_waysFrom 57 = .ok (.aload_n 0, 1) := by decide +kernel
theorem dX3_waysFrom_58 : decode cX3_waysFrom 58 = .ok (.iload_n 1, 1) := by decide +kernel
theorem dX3_waysFrom_59 : decode cX3_waysFrom 59 = .ok (.iload_n 2, 1) := by decide +kernel
theorem dX3_waysFrom_60 : decode cX3_waysFrom 60 = .ok (.iconst 1, 1) := by decide +kernel
theorem dX3_waysFrom_61 : decode cX3_waysFrom 61 = .ok (.iadd, 1) := by decide +kernel
theorem dX3_waysFrom_62 : decode cX3_waysFrom 62 = .ok (.iload_n 3, 1) := by decide +kernel
theorem dX3_waysFrom_63 : decode cX3_waysFrom 63 = .ok (.iload 4, 2) := by decide +kernel
theorem dX3_waysFrom_65 : decode cX3_waysFrom 65 = .ok (.invokestatic 149, 3) := by decide +kernel
theorem dX3_waysFrom_68 : decode cX3_waysFrom 68 = .ok (.iadd, 1) := by decide +kernel
theorem dX3_waysFrom_69 : decode cX3_waysFrom 69 = .ok (.ireturn, 1) := by decide +kernel
theorem dX4_init_0 : decode cX4_init 0 = .ok (.aload_n 0, 1) := by decide +kernel
theorem dX4_init_1 : decode cX4_init 1 = .ok (.invokespecial 3, 3) := by decide +kernel
theorem dX4_init_4 : decode cX4_init 4 = .ok (.aload_n 0, 1) := by decide +kernel
theorem dX4_init_5 : decode cX4_init 5 = .ok (.sipush 256, 3) := by decide +kernel
theorem dX4_init_8 : decode cX4_init 8 = .ok (.newarray .int, 2) := by decide +kernel
theorem dX4_init_10 : decode cX4_init 10 = .ok (.putfield 9, 3) := by decide +kernel
theorem dX4_init_13 : decode cX4_init 13 = .ok (.aload_n 0, 1) := by decide +kernel
theorem dX4_init_14 : decode cX4_init 14 = .ok (.sipush 200, 3) := by decide +kernel
theorem dX4_init_17 : decode cX4_init 17 = .ok (.newarray .int, 2) := by decide +kernel
theorem dX4_init_19 : decode cX4_init 19 = .ok (.putfield 15, 3) := by decide +kernel
theorem dX4_init_22 : decode cX4_init 22 = .ok (.aload_n 0, 1) := by decide +kernel
theorem dX4_init_23 : decode cX4_init 23 = .ok (.sipush 200, 3) := by decide +kernel
theorem dX4_init_26 : decode cX4_init 26 = .ok (.newarray .int, 2) := by decide +kernel
theorem dX4_init_28 : decode cX4_init 28 = .ok (.putfield 18, 3) := by decide +kernel
theorem dX4_init_31 : decode cX4_init 31 = .ok (.aload_n 0, 1) := by decide +kernel
theorem dX4_init_32 : decode cX4_init 32 = .ok (.sipush 200, 3) := by decide +kernel
theorem dX4_init_35 : decode cX4_init 35 = .ok (.newarray .int, 2) := by decide +kernel
theorem dX4_init_37 : decode cX4_init 37 = .ok (.putfield 21, 3) := by decide +kernel
theorem dX4_init_40 : decode cX4_init 40 = .ok (.aload_n 0, 1) := by decide +kernel
theorem dX4_init_41 : decode cX4_init 41 = .ok (.bipush 64, 2) := by decide +kernel
theorem dX4_init_43 : decode cX4_init 43 = .ok (.newarray .boolean, 2) := by decide +kernel
theorem dX4_init_45 : decode cX4_init 45 = .ok (.putfield 24, 3) := by decide +kernel
theorem dX4_init_48 : decode cX4_init 48 = .ok (.aload_n 0, 1) := by decide +kernel
theorem dX4_init_49 : decode cX4_init 49 = .ok (.bipush 64, 2) := by decide +kernel
theorem dX4_init_51 : decode cX4_init 51 = .ok (.newarray .boolean, 2) := by decide +kernel
theorem dX4_init_53 : decode cX4_init 53 = .ok (.putfield 28, 3) := by decide +kernel
theorem dX4_init_56 : decode cX4_init 56 = .ok (.return_, 1) := by decide +kernel
theorem dX4_valueOn_0 : decode cX4_valueOn 0 = .ok (.iload_n 1, 1) := by decide +kernel
theorem dX4_valueOn_1 : decode cX4_valueOn 1 = .ok (.invokestatic 31, 3) := by decide +kernel
theorem dX4_valueOn_4 : decode cX4_valueOn 4 = .ok (.ifCond .eq 10, 3) := by decide +kernel
theorem dX4_valueOn_7 : decode cX4_valueOn 7 = .ok (.iload_n 2, 1) := by decide +kernel
theorem dX4_valueOn_8 : decode cX4_valueOn 8 = .ok (.invokestatic 35, 3) := by decide +kernel
theorem dX4_valueOn_11 : decode cX4_valueOn 11 = .ok (.ifCond .ne 6, 3) := by decide +kernel
theorem dX4_valueOn_14 : decode cX4_valueOn 14 = .ok (.bipush (-4), 2) := by decide +kernel
theorem dX4_valueOn_16 : decode cX4_valueOn 16 = .ok (.ireturn, 1) := by decide +kernel
theorem dX4_valueOn_17 : decode cX4_valueOn 17 = .ok (.aload_n 0, 1) := by decide +kernel
theorem dX4_valueOn_18 : decode cX4_valueOn 18 = .ok (.getfield 9, 3) := by decide +kernel
theorem dX4_valueOn_21 : decode cX4_valueOn 21 = .ok (.iload_n 1, 1) := by decide +kernel
theorem dX4_valueOn_22 : decode cX4_valueOn 22 = .ok (.bipush 64, 2) := by decide +kernel
theorem dX4_valueOn_24 : decode cX4_valueOn 24 = .ok (.imul, 1) := by decide +kernel
theorem dX4_valueOn_25 : decode cX4_valueOn 25 = .ok (.iload_n 2, 1) := by decide +kernel
theorem dX4_valueOn_26 : decode cX4_valueOn 26 = .ok (.iadd, 1) := by decide +kernel
theorem dX4_valueOn_27 : decode cX4_valueOn 27 = .ok (.iaload, 1) := by decide +kernel
theorem dX4_valueOn_28 : decode cX4_valueOn 28 = .ok (.istore 4, 2) := by decide +kernel
theorem dX4_valueOn_30 : decode cX4_valueOn 30 = .ok (.aload_n 0, 1) := by decide +kernel
theorem dX4_valueOn_31 : decode cX4_valueOn 31 = .ok (.getfield 38, 3) := by decide +kernel
theorem dX4_valueOn_34 : decode cX4_valueOn 34 = .ok (.istore 5, 2) := by decide +kernel
theorem dX4_valueOn_36 : decode cX4_valueOn 36 = .ok (.iload 4, 2) := by decide +kernel
theorem dX4_valueOn_38 : decode cX4_valueOn 38 = .ok (.ifCond .le 48, 3) := by decide +kernel
theorem dX4_valueOn_41 : decode cX4_valueOn 41 = .ok (.iload 5, 2) := by decide +kernel
theorem dX4_valueOn_43 : decode cX4_valueOn 43 = .ok (.ifCond .le 43, 3) := by decide +kernel
theorem dX4_valueOn_46 : decode cX4_valueOn 46 = .ok (.aload_n 0, 1) := by decide +kernel
theorem dX4_valueOn_47 : decode cX4_valueOn 47 = .ok (.getfield 18, 3) := by decide +kernel
theorem dX4_valueOn_50 : decode cX4_valueOn 50 = .ok (.iload 4, 2) := by decide +kernel
theorem dX4_valueOn_52 : decode cX4_valueOn 52 = .ok (.iconst 1, 1) := by decide +kernel
theorem dX4_valueOn_53 : decode cX4_valueOn 53 = .ok (.isub, 1) := by decide +kernel
theorem dX4_valueOn_54 : decode cX4_valueOn 54 = .ok (.iaload, 1) := by decide +kernel
theorem dX4_valueOn_55 : decode cX4_valueOn 55 = .ok (.iload_n 3, 1) := by decide +kernel
theorem dX4_valueOn_56 : decode cX4_valueOn 56 = .ok (.if_icmp .gt 13, 3) := by decide +kernel
theorem dX4_valueOn_59 : decode cX4_valueOn 59 = .ok (.aload_n 0, 1) := by decide +kernel
theorem dX4_valueOn_60 : decode cX4_valueOn 60 = .ok (.getfield 21, 3) := by decide +kernel
theorem dX4_valueOn_63 : decode cX4_valueOn 63 = .ok (.iload 4, 2) := by decide +kernel
theorem dX4_valueOn_65 : decode cX4_valueOn 65 = .ok (.iconst 1, 1) := by decide +kernel
theorem dX4_valueOn_66 : decode cX4_valueOn 66 = .ok (.isub, 1) := by decide +kernel
theorem dX4_valueOn_67 : decode cX4_valueOn 67 = .ok (.iaload, 1) := by decide +kernel
theorem dX4_valueOn_68 : decode cX4_valueOn 68 = .ok (.ireturn, 1) := by decide +kernel
theorem dX4_valueOn_69 : decode cX4_valueOn 69 = .ok (.aload_n 0, 1) := by decide +kernel
theorem dX4_valueOn_70 : decode cX4_valueOn 70 = .ok (.getfield 15, 3) := by decide +kernel
theorem dX4_valueOn_73 : decode cX4_valueOn 73 = .ok (.iload 4, 2) := by decide +kernel
theorem dX4_valueOn_75 : decode cX4_valueOn 75 = .ok (.iconst 1, 1) := by decide +kernel
theorem dX4_valueOn_76 : decode cX4_valueOn 76 = .ok (.isub, 1) := by decide +kernel
theorem dX4_valueOn_77 : decode cX4_valueOn 77 = .ok (.iaload, 1) := by decide +kernel
theorem dX4_valueOn_78 : decode cX4_valueOn 78 = .ok (.istore 4, 2) := by decide +kernel
theorem dX4_valueOn_80 : decode cX4_valueOn 80 = .ok (.iinc 5 (-1), 3) := by decide +kernel
theorem dX4_valueOn_83 : decode cX4_valueOn 83 = .ok (.goto (-47), 3) := by decide +kernel
theorem dX4_valueOn_86 : decode cX4_valueOn 86 = .ok (.bipush (-4), 2) := by decide +kernel
theorem dX4_valueOn_88 : decode cX4_valueOn 88 = .ok (.ireturn, 1) := by decide +kernel
theorem dX4_tell_0 : decode cX4_tell 0 = .ok (.iload_n 1, 1) := by decide +kernel
theorem dX4_tell_1 : decode cX4_tell 1 = .ok (.invokestatic 31, 3) := by decide +kernel
theorem dX4_tell_4 : decode cX4_tell 4 = .ok (.ifCond .eq 20, 3) := by decide +kernel
theorem dX4_tell_7 : decode cX4_tell 7 = .ok (.iload_n 2, 1) := by decide +kernel
theorem dX4_tell_8 : decode cX4_tell 8 = .ok (.invokestatic 35, 3) := by decide +kernel
theorem dX4_tell_11 : decode cX4_tell 11 = .ok (.ifCond .eq 13, 3) := by decide +kernel
theorem dX4_tell_14 : decode cX4_tell 14 = .ok (.aload_n 0, 1) := by decide +kernel
theorem dX4_tell_15 : decode cX4_tell 15 = .ok (.getfield 38, 3) := by decide +kernel
theorem dX4_tell_18 : decode cX4_tell 18 = .ok (.sipush 200, 3) := by decide +kernel
theorem dX4_tell_21 : decode cX4_tell 21 = .ok (.if_icmp .lt 4, 3) := by decide +kernel
theorem dX4_tell_24 : decode cX4_tell 24 = .ok (.return_, 1) := by decide +kernel
theorem dX4_tell_25 : decode cX4_tell 25 = .ok (.iload_n 1, 1) := by decide +kernel
theorem dX4_tell_26 : decode cX4_tell 26 = .ok (.bipush 64, 2) := by decide +kernel
theorem dX4_tell_28 : decode cX4_tell 28 = .ok (.imul, 1) := by decide +kernel
theorem dX4_tell_29 : decode cX4_tell 29 = .ok (.iload_n 2, 1) := by decide +kernel
theorem dX4_tell_30 : decode cX4_tell 30 = .ok (.iadd, 1) := by decide +kernel
theorem dX4_tell_31 : decode cX4_tell 31 = .ok (.istore 4, 2) := by decide +kernel
theorem dX4_tell_33 : decode cX4_tell 33 = .ok (.aload_n 0, 1) := by decide +kernel
theorem dX4_tell_34 : decode cX4_tell 34 = .ok (.getfield 15, 3) := by decide +kernel
theorem dX4_tell_37 : decode cX4_tell 37 = .ok (.aload_n 0, 1) := by decide +kernel
theorem dX4_tell_38 : decode cX4_tell 38 = .ok (.getfield 38, 3) := by decide +kernel
theorem dX4_tell_41 : decode cX4_tell 41 = .ok (.aload_n 0, 1) := by decide +kernel
theorem dX4_tell_42 : decode cX4_tell 42 = .ok (.getfield 9, 3) := by decide +kernel
theorem dX4_tell_45 : decode cX4_tell 45 = .ok (.iload 4, 2) := by decide +kernel
theorem dX4_tell_47 : decode cX4_tell 47 = .ok (.iaload, 1) := by decide +kernel
theorem dX4_tell_48 : decode cX4_tell 48 = .ok (.iastore, 1) := by decide +kernel
theorem dX4_tell_49 : decode cX4_tell 49 = .ok (.aload_n 0, 1) := by decide +kernel
theorem dX4_tell_50 : decode cX4_tell 50 = .ok (.getfield 18, 3) := by decide +kernel
theorem dX4_tell_53 : decode cX4_tell 53 = .ok (.aload_n 0, 1) := by decide +kernel
theorem dX4_tell_54 : decode cX4_tell 54 = .ok (.getfield 38, 3) := by decide +kernel
theorem dX4_tell_57 : decode cX4_tell 57 = .ok (.aload_n 0, 1) := by decide +kernel
theorem dX4_tell_58 : decode cX4_tell 58 = .ok (.getfield 42, 3) := by decide +kernel
theorem dX4_tell_61 : decode cX4_tell 61 = .ok (.iastore, 1) := by decide +kernel
theorem dX4_tell_62 : decode cX4_tell 62 = .ok (.aload_n 0, 1) := by decide +kernel
theorem dX4_tell_63 : decode cX4_tell 63 = .ok (.getfield 21, 3) := by decide +kernel
theorem dX4_tell_66 : decode cX4_tell 66 = .ok (.aload_n 0, 1) := by decide +kernel
theorem dX4_tell_67 : decode cX4_tell 67 = .ok (.getfield 38, 3) := by decide +kernel
theorem dX4_tell_70 : decode cX4_tell 70 = .ok (.iload_n 3, 1) := by decide +kernel
theorem dX4_tell_71 : decode cX4_tell 71 = .ok (.iastore, 1) := by decide +kernel
theorem dX4_tell_72 : decode cX4_tell 72 = .ok (.aload_n 0, 1) := by decide +kernel
theorem dX4_tell_73 : decode cX4_tell 73 = .ok (.dup, 1) := by decide +kernel
theorem dX4_tell_74 : decode cX4_tell 74 = .ok (.getfield 38, 3) := by decide +kernel
theorem dX4_tell_77 : decode cX4_tell 77 = .ok (.iconst 1, 1) := by decide +kernel
theorem dX4_tell_78 : decode cX4_tell 78 = .ok (.iadd, 1) := by decide +kernel
theorem dX4_tell_79 : decode cX4_tell 79 = .ok (.putfield 38, 3) := by decide +kernel
theorem dX4_tell_82 : decode cX4_tell 82 = .ok (.aload_n 0, 1) := by decide +kernel
theorem dX4_tell_83 : decode cX4_tell 83 = .ok (.getfield 9, 3) := by decide +kernel
theorem dX4_tell_86 : decode cX4_tell 86 = .ok (.iload 4, 2) := by decide +kernel
theorem dX4_tell_88 : decode cX4_tell 88 = .ok (.aload_n 0, 1) := by decide +kernel
theorem dX4_tell_89 : decode cX4_tell 89 = .ok (.getfield 38, 3) := by decide +kernel
theorem dX4_tell_92 : decode cX4_tell 92 = .ok (.iastore, 1) := by decide +kernel
theorem dX4_tell_93 : decode cX4_tell 93 = .ok (.return_, 1) := by decide +kernel
theorem dX4_isFeast_0 : decode cX4_isFeast 0 = .ok (.iload_n 1, 1) := by decide +kernel
theorem dX4_isFeast_1 : decode cX4_isFeast 1 = .ok (.ifCond .lt 22, 3) := by decide +kernel
theorem dX4_isFeast_4 : decode cX4_isFeast 4 = .ok (.iload_n 1, 1) := by decide +kernel
theorem dX4_isFeast_5 : decode cX4_isFeast 5 = .ok (.bipush 64, 2) := by decide +kernel
theorem dX4_isFeast_7 : decode cX4_isFeast 7 = .ok (.if_icmp .ge 16, 3) := by decide +kernel
theorem dX4_isFeast_10 : decode cX4_isFeast 10 = .ok (.aload_n 0, 1) := by decide +kernel
theorem dX4_isFeast_11 : decode cX4_isFeast 11 = .ok (.getfield 24, 3) := by decide +kernel
theorem dX4_isFeast_14 : decode cX4_isFeast 14 = .ok (.iload_n 1, 1) := by decide +kernel
theorem dX4_isFeast_15 : decode cX4_isFeast 15 = .ok (.baload, 1) := by decide +kernel
theorem dX4_isFeast_16 : decode cX4_isFeast 16 = .ok (.ifCond .eq 7, 3) := by decide +kernel
theorem dX4_isFeast_19 : decode cX4_isFeast 19 = .ok (.iconst 1, 1) := by decide +kernel
theorem dX4_isFeast_20 : decode cX4_isFeast 20 = .ok (.goto 4, 3) := by decide +kernel
theorem dX4_isFeast_23 : decode cX4_isFeast 23 = .ok (.iconst 0, 1) := by decide +kernel
theorem dX4_isFeast_24 : decode cX4_isFeast 24 = .ok (.ireturn, 1) := by decide +kernel
theorem dX4_gaps_0 : decode cX4_gaps 0 = .ok (.iconst 0, 1) := by decide +kernel
theorem dX4_gaps_1 : decode cX4_gaps 1 = .ok (.istore_n 1, 1) := by decide +kernel
theorem dX4_gaps_2 : decode cX4_gaps 2 = .ok (.iconst 0, 1) := by decide +kernel
theorem dX4_gaps_3 : decode cX4_gaps 3 = .ok (.istore_n 2, 1) := by decide +kernel
theorem dX4_gaps_4 : decode cX4_gaps 4 = .ok (.iload_n 2, 1) := by decide +kernel
theorem dX4_gaps_5 : decode cX4_gaps 5 = .ok (.iconst 4, 1) := by decide +kernel
theorem dX4_gaps_6 : decode cX4_gaps 6 = .ok (.if_icmp .ge 48, 3) := by decide +kernel
theorem dX4_gaps_9 : decode cX4_gaps 9 = .ok (.iconst 0, 1) := by decide +kernel
theorem dX4_gaps_10 : decode cX4_gaps 10 = .ok (.istore_n 3, 1) := by decide +kernel
theorem dX4_gaps_11 : decode cX4_gaps 11 = .ok (.iload_n 3, 1) := by decide +kernel
theorem dX4_gaps_12 : decode cX4_gaps 12 = .ok (.aload_n 0, 1) := by decide +kernel
theorem dX4_gaps_13 : decode cX4_gaps 13 = .ok (.getfield 42, 3) := by decide +kernel
theorem dX4_gaps_16 : decode cX4_gaps 16 = .ok (.if_icmp .gt 32, 3) := by decide +kernel
theorem dX4_gaps_19 : decode cX4_gaps 19 = .ok (.iload_n 1, 1) := by decide +kernel
theorem dX4_gaps_20 : decode cX4_gaps 20 = .ok (.aload_n 0, 1) := by decide +kernel
theorem dX4_gaps_21 : decode cX4_gaps 21 = .ok (.iload_n 2, 1) := by decide +kernel
theorem dX4_gaps_22 : decode cX4_gaps 22 = .ok (.iload_n 3, 1) := by decide +kernel
theorem dX4_gaps_23 : decode cX4_gaps 23 = .ok (.aload_n 0, 1) := by decide +kernel
theorem dX4_gaps_24 : decode cX4_gaps 24 = .ok (.getfield 42, 3) := by decide +kernel
theorem dX4_gaps_27 : decode cX4_gaps 27 = .ok (.invokevirtual 45, 3) := by decide +kernel
theorem dX4_gaps_30 : decode cX4_gaps 30 = .ok (.bipush (-4), 2) := by decide +kernel
theorem dX4_gaps_32 : decode cX4_gaps 32 = .ok (.if_icmp .ne 7, 3) := by decide +kernel
theorem dX4_gaps_35 : decode cX4_gaps 35 = .ok (.iconst 1, 1) := by decide +kernel
theorem dX4_gaps_36 : decode cX4_gaps 36 = .ok (.goto 4, 3) := by decide +kernel
theorem dX4_gaps_39 : decode cX4_gaps 39 = .ok (.iconst 0, 1) := by decide +kernel
theorem dX4_gaps_40 : decode cX4_gaps 40 = .ok (.iadd, 1) := by decide +kernel
theorem dX4_gaps_41 : decode cX4_gaps 41 = .ok (.istore_n 1, 1) := by decide +kernel
theorem dX4_gaps_42 : decode cX4_gaps 42 = .ok (.iinc 3 1, 3) := by decide +kernel
theorem dX4_gaps_45 : decode cX4_gaps 45 = .ok (.goto (-34), 3) := by decide +kernel
theorem dX4_gaps_48 : decode cX4_gaps 48 = .ok (.iinc 2 1, 3) := by decide +kernel
theorem dX4_gaps_51 : decode cX4_gaps 51 = .ok (.goto (-47), 3) := by decide +kernel
theorem dX4_gaps_54 : decode cX4_gaps 54 = .ok (.iload_n 1, 1) := by decide +kernel
theorem dX4_gaps_55 : decode cX4_gaps 55 = .ok (.ireturn, 1) := by decide +kernel
theorem dX4_changeOf_0 : decode cX4_changeOf 0 = .ok (.lconst 0, 1) := by decide +kernel
theorem dX4_changeOf_1 : decode cX4_changeOf 1 = .ok (.lstore 4, 2) := by decide +kernel
theorem dX4_changeOf_3 : decode cX4_changeOf 3 = .ok (.lconst 0, 1) := by decide +kernel
theorem dX4_changeOf_4 : decode cX4_changeOf 4 = .ok (.lstore 6, 2) := by decide +kernel
theorem dX4_changeOf_6 : decode cX4_changeOf 6 = .ok (.iload_n 2, 1) := by decide +kernel
theorem dX4_changeOf_7 : decode cX4_changeOf 7 = .ok (.istore 8, 2) := by decide +kernel
theorem dX4_changeOf_9 : decode cX4_changeOf 9 = .ok (.iload 8, 2) := by decide +kernel
theorem dX4_changeOf_11 : decode cX4_changeOf 11 = .ok (.iload_n 3, 1) := by decide +kernel
theorem dX4_changeOf_12 : decode cX4_changeOf 12 = .ok (.if_icmp .gt 58, 3) := by decide +kernel
theorem dX4_changeOf_15 : decode cX4_changeOf 15 = .ok (.aload_n 0, 1) := by decide +kernel
theorem dX4_changeOf_16 : decode cX4_changeOf 16 = .ok (.iload_n 1, 1) := by decide +kernel
theorem dX4_changeOf_17 : decode cX4_changeOf 17 = .ok (.iload 8, 2) := by decide +kernel
theorem dX4_changeOf_19 : decode cX4_changeOf 19 = .ok (.aload_n 0, 1) := by decide +kernel
theorem dX4_changeOf_20 : decode cX4_changeOf 20 = .ok (.getfield 42, 3) := by decide +kernel
theorem dX4_changeOf_23 : decode cX4_changeOf 23 = .ok (.invokevirtual 45, 3) := by decide +kernel
theorem dX4_changeOf_26 : decode cX4_changeOf 26 = .ok (.istore 9, 2) := by decide +kernel
theorem dX4_changeOf_28 : decode cX4_changeOf 28 = .ok (.lload 4, 2) := by decide +kernel
theorem dX4_changeOf_30 : decode cX4_changeOf 30 = .ok (.iload 9, 2) := by decide +kernel
theorem dX4_changeOf_32 : decode cX4_changeOf 32 = .ok (.bipush (-4), 2) := by decide +kernel
theorem dX4_changeOf_34 : decode cX4_changeOf 34 = .ok (.if_icmp .ne 7, 3) := by decide +kernel
theorem dX4_changeOf_37 : decode cX4_changeOf 37 = .ok (.lconst 0, 1) := by decide +kernel
theorem dX4_changeOf_38 : decode cX4_changeOf 38 = .ok (.goto 6, 3) := by decide +kernel
theorem dX4_changeOf_41 : decode cX4_changeOf 41 = .ok (.iload 9, 2) := by decide +kernel
theorem dX4_changeOf_43 : decode cX4_changeOf 43 = .ok (.i2l, 1) := by decide +kernel
theorem dX4_changeOf_44 : decode cX4_changeOf 44 = .ok (.ladd, 1) := by decide +kernel
theorem dX4_changeOf_45 : decode cX4_changeOf 45 = .ok (.lstore 4, 2) := by decide +kernel
theorem dX4_changeOf_47 : decode cX4_changeOf 47 = .ok (.lload 6, 2) := by decide +kernel
theorem dX4_changeOf_49 : decode cX4_changeOf 49 = .ok (.iload 9, 2) := by decide +kernel
theorem dX4_changeOf_51 : decode cX4_changeOf 51 = .ok (.bipush (-4), 2) := by decide +kernel
theorem dX4_changeOf_53 : decode cX4_changeOf 53 = .ok (.if_icmp .ne 7, 3) := by decide +kernel
theorem dX4_changeOf_56 : decode cX4_changeOf 56 = .ok (.lconst 0, 1) := by decide +kernel
theorem dX4_changeOf_57 : decode cX4_changeOf 57 = .ok (.goto 4, 3) := by decide +kernel
theorem dX4_changeOf_60 : decode cX4_changeOf 60 = .ok (.lconst 1, 1) := by decide +kernel
theorem dX4_changeOf_61 : decode cX4_changeOf 61 = .ok (.ladd, 1) := by decide +kernel
theorem dX4_changeOf_62 : decode cX4_changeOf 62 = .ok (.lstore 6, 2) := by decide +kernel
theorem dX4_changeOf_64 : decode cX4_changeOf 64 = .ok (.iinc 8 1, 3) := by decide +kernel
theorem dX4_changeOf_67 : decode cX4_changeOf 67 = .ok (.goto (-58), 3) := by decide +kernel
theorem dX4_changeOf_70 : decode cX4_changeOf 70 = .ok (.bipush (-4), 2) := by decide +kernel
theorem dX4_changeOf_72 : decode cX4_changeOf 72 = .ok (.istore 8, 2) := by decide +kernel
theorem dX4_changeOf_74 : decode cX4_changeOf 74 = .ok (.lconst 0, 1) := by decide +kernel
theorem dX4_changeOf_75 : decode cX4_changeOf 75 = .ok (.lstore 9, 2) := by decide +kernel
theorem dX4_changeOf_77 : decode cX4_changeOf 77 = .ok (.lconst 1, 1) := by decide +kernel
theorem dX4_changeOf_78 : decode cX4_changeOf 78 = .ok (.lstore 11, 2) := by decide +kernel
theorem dX4_changeOf_80 : decode cX4_changeOf 80 = .ok (.lconst 0, 1) := by decide +kernel
theorem dX4_changeOf_81 : decode cX4_changeOf 81 = .ok (.lstore 13, 2) := by decide +kernel
theorem dX4_changeOf_83 : decode cX4_changeOf 83 = .ok (.lconst 0, 1) := by decide +kernel
theorem dX4_changeOf_84 : decode cX4_changeOf 84 = .ok (.lstore 15, 2) := by decide +kernel
theorem dX4_changeOf_86 : decode cX4_changeOf 86 = .ok (.iload_n 2, 1) := by decide +kernel
theorem dX4_changeOf_87 : decode cX4_changeOf 87 = .ok (.iconst 1, 1) := by decide +kernel
theorem dX4_changeOf_88 : decode cX4_changeOf 88 = .ok (.iadd, 1) := by decide +kernel
theorem dX4_changeOf_89 : decode cX4_changeOf 89 = .ok (.istore 17, 2) := by decide +kernel
theorem dX4_changeOf_91 : decode cX4_changeOf 91 = .ok (.iload 17, 2) := by decide +kernel
theorem dX4_changeOf_93 : decode cX4_changeOf 93 = .ok (.iload_n 3, 1) := by decide +kernel
theorem dX4_changeOf_94 : decode cX4_changeOf 94 = .ok (.if_icmp .gt 123, 3) := by decide +kernel
theorem dX4_changeOf_97 : decode cX4_changeOf 97 = .ok (.aload_n 0, 1) := by decide +kernel
theorem dX4_changeOf_98 : decode cX4_changeOf 98 = .ok (.iload_n 1, 1) := by decide +kernel
theorem dX4_changeOf_99 : decode cX4_changeOf 99 = .ok (.iload 17, 2) := by decide +kernel
theorem dX4_changeOf_101 : decode cX4_changeOf 101 = .ok (.iconst 1, 1) := by decide +kernel
theorem dX4_changeOf_102 : decode cX4_changeOf 102 = .ok (.isub, 1) := by decide +kernel
theorem dX4_changeOf_103 : decode cX4_changeOf 103 = .ok (.aload_n 0, 1) := by decide +kernel
theorem dX4_changeOf_104 : decode cX4_changeOf 104 = .ok (.getfield 42, 3) := by decide +kernel
theorem dX4_changeOf_107 : decode cX4_changeOf 107 = .ok (.invokevirtual 45, 3) := by decide +kernel
theorem dX4_changeOf_110 : decode cX4_changeOf 110 = .ok (.istore 18, 2) := by decide +kernel
theorem dX4_changeOf_112 : decode cX4_changeOf 112 = .ok (.iload 18, 2) := by decide +kernel
theorem dX4_changeOf_114 : decode cX4_changeOf 114 = .ok (.bipush (-4), 2) := by decide +kernel
theorem dX4_changeOf_116 : decode cX4_changeOf 116 = .ok (.if_icmp .eq 31, 3) := by decide +kernel
theorem dX4_changeOf_119 : decode cX4_changeOf 119 = .ok (.lload 13, 2) := by decide +kernel
theorem dX4_changeOf_121 : decode cX4_changeOf 121 = .ok (.iload 18, 2) := by decide +kernel
theorem dX4_changeOf_123 : decode cX4_changeOf 123 = .ok (.i2l, 1) := by decide +kernel
theorem dX4_changeOf_124 : decode cX4_changeOf 124 = .ok (.ladd, 1) := by decide +kernel
theorem dX4_changeOf_125 : decode cX4_changeOf 125 = .ok (.lstore 13, 2) := by decide +kernel
theorem dX4_changeOf_127 : decode cX4_changeOf 127 = .ok (.lload 4, 2) := by decide +kernel
theorem dX4_changeOf_129 : decode cX4_changeOf 129 = .ok (.iload 18, 2) := by decide +kernel
theorem dX4_changeOf_131 : decode cX4_changeOf 131 = .ok (.i2l, 1) := by decide +kernel
theorem dX4_changeOf_132 : decode cX4_changeOf 132 = .ok (.lsub, 1) := by decide +kernel
theorem dX4_changeOf_133 : decode cX4_changeOf 133 = .ok (.lstore 4, 2) := by decide +kernel
theorem dX4_changeOf_135 : decode cX4_changeOf 135 = .ok (.lload 15, 2) := by decide +kernel
theorem dX4_changeOf_137 : decode cX4_changeOf 137 = .ok (.lconst 1, 1) := by decide +kernel
theorem dX4_changeOf_138 : decode cX4_changeOf 138 = .ok (.ladd, 1) := by decide +kernel
theorem dX4_changeOf_139 : decode cX4_changeOf 139 = .ok (.lstore 15, 2) := by decide +kernel
theorem dX4_changeOf_141 : decode cX4_changeOf 141 = .ok (.lload 6, 2) := by decide +kernel
theorem dX4_changeOf_143 : decode cX4_changeOf 143 = .ok (.lconst 1, 1) := by decide +kernel
theorem dX4_changeOf_144 : decode cX4_changeOf 144 = .ok (.lsub, 1) := by decide +kernel
theorem dX4_changeOf_145 : decode cX4_changeOf 145 = .ok (.lstore 6, 2) := by decide +kernel
theorem dX4_changeOf_147 : decode cX4_changeOf 147 = .ok (.lload 13, 2) := by decide +kernel
theorem dX4_changeOf_149 : decode cX4_changeOf 149 = .ok (.lload 13, 2) := by decide +kernel
theorem dX4_changeOf_151 : decode cX4_changeOf 151 = .ok (.lmul, 1) := by decide +kernel
theorem dX4_changeOf_152 : decode cX4_changeOf 152 = .ok (.lload 6, 2) := by decide +kernel
theorem dX4_changeOf_154 : decode cX4_changeOf 154 = .ok (.lmul, 1) := by decide +kernel
theorem dX4_changeOf_155 : decode cX4_changeOf 155 = .ok (.lload 4, 2) := by decide +kernel
theorem dX4_changeOf_157 : decode cX4_changeOf 157 = .ok (.lload 4, 2) := by decide +kernel
theorem dX4_changeOf_159 : decode cX4_changeOf 159 = .ok (.lmul, 1) := by decide +kernel
theorem dX4_changeOf_160 : decode cX4_changeOf 160 = .ok (.lload 15, 2) := by decide +kernel
theorem dX4_changeOf_162 : decode cX4_changeOf 162 = .ok (.lmul, 1) := by decide +kernel
theorem dX4_changeOf_163 : decode cX4_changeOf 163 = .ok (.ladd, 1) := by decide +kernel
theorem dX4_changeOf_164 : decode cX4_changeOf 164 = .ok (.lstore 19, 2) := by decide +kernel
theorem dX4_changeOf_166 : decode cX4_changeOf 166 = .ok (.lload 15, 2) := by decide +kernel
theorem dX4_changeOf_168 : decode cX4_changeOf 168 = .ok (.lload 6, 2) := by decide +kernel
theorem dX4_changeOf_170 : decode cX4_changeOf 170 = .ok (.lmul, 1) := by decide +kernel
theorem dX4_changeOf_171 : decode cX4_changeOf 171 = .ok (.lstore 21, 2) := by decide +kernel
theorem dX4_changeOf_173 : decode cX4_changeOf 173 = .ok (.lload 21, 2) := by decide +kernel
theorem dX4_changeOf_175 : decode cX4_changeOf 175 = .ok (.lconst 0, 1) := by decide +kernel
theorem dX4_changeOf_176 : decode cX4_changeOf 176 = .ok (.lcmp, 1) := by decide +kernel
theorem dX4_changeOf_177 : decode cX4_changeOf 177 = .ok (.ifCond .le 34, 3) := by decide +kernel
theorem dX4_changeOf_180 : decode cX4_changeOf 180 = .ok (.iload 8, 2) := by decide +kernel
theorem dX4_changeOf_182 : decode cX4_changeOf 182 = .ok (.ifCond .lt 17, 3) := by decide +kernel
theorem dX4_changeOf_185 : decode cX4_changeOf 185 = .ok (.lload 19, 2) := by decide +kernel
theorem dX4_changeOf_187 : decode cX4_changeOf 187 = .ok (.lload 11, 2) := by decide +kernel
theorem dX4_changeOf_189 : decode cX4_changeOf 189 = .ok (.lmul, 1) := by decide +kernel
theorem dX4_changeOf_190 : decode cX4_changeOf 190 = .ok (.lload 9, 2) := by decide +kernel
theorem dX4_changeOf_192 : decode cX4_changeOf 192 = .ok (.lload 21, 2) := by decide +kernel
theorem dX4_changeOf_194 : decode cX4_changeOf 194 = .ok (.lmul, 1) := by decide +kernel
theorem dX4_changeOf_195 : decode cX4_changeOf 195 = .ok (.lcmp, 1) := by decide +kernel
theorem dX4_changeOf_196 : decode cX4_changeOf 196 = .ok (.ifCond .le 15, 3) := by decide +kernel
theorem dX4_changeOf_199 : decode cX4_changeOf 199 = .ok (.iload 17, 2) := by decide +kernel
theorem dX4_changeOf_201 : decode cX4_changeOf 201 = .ok (.istore 8, 2) := by decide +kernel
theorem dX4_changeOf_203 : decode cX4_changeOf 203 = .ok (.lload 19, 2) := by decide +kernel
theorem dX4_changeOf_205 : decode cX4_changeOf 205 = .ok (.lstore 9, 2) := by decide +kernel
theorem dX4_changeOf_207 : decode cX4_changeOf 207 = .ok (.lload 21, 2) := by decide +kernel
theorem dX4_changeOf_209 : decode cX4_changeOf 209 = .ok (.lstore 11, 2) := by decide +kernel
theorem dX4_changeOf_211 : decode cX4_changeOf 211 = .ok (.iinc 17 1, 3) := by decide +kernel
theorem dX4_changeOf_214 : decode cX4_changeOf 214 = .ok (.goto (-123), 3) := by decide +kernel
theorem dX4_changeOf_217 : decode cX4_changeOf 217 = .ok (.iload 8, 2) := by decide +kernel
theorem dX4_changeOf_219 : decode cX4_changeOf 219 = .ok (.ireturn, 1) := by decide +kernel
theorem dX5_init_0 : decode cX5_init 0 = .ok (.aload_n 0, 1) := by decide +kernel
theorem dX5_init_1 : decode cX5_init 1 = .ok (.invokespecial 3, 3) := by decide +kernel
theorem dX5_init_4 : decode cX5_init 4 = .ok (.aload_n 0, 1) := by decide +kernel
theorem dX5_init_5 : decode cX5_init 5 = .ok (.iconst 4, 1) := by decide +kernel
theorem dX5_init_6 : decode cX5_init 6 = .ok (.newarray .int, 2) := by decide +kernel
theorem dX5_init_8 : decode cX5_init 8 = .ok (.dup, 1) := by decide +kernel
theorem dX5_init_9 : decode cX5_init 9 = .ok (.iconst 0, 1) := by decide +kernel
theorem dX5_init_10 : decode cX5_init 10 = .ok (.iconst (-1), 1) := by decide +kernel
theorem dX5_init_11 : decode cX5_init 11 = .ok (.iastore, 1) := by decide +kernel
theorem dX5_init_12 : decode cX5_init 12 = .ok (.dup, 1) := by decide +kernel
theorem dX5_init_13 : decode cX5_init 13 = .ok (.iconst 1, 1) := by decide +kernel
theorem dX5_init_14 : decode cX5_init 14 = .ok (.iconst (-1), 1) := by decide +kernel
theorem dX5_init_15 : decode cX5_init 15 = .ok (.iastore, 1) := by decide +kernel
theorem dX5_init_16 : decode cX5_init 16 = .ok (.dup, 1) := by decide +kernel
theorem dX5_init_17 : decode cX5_init 17 = .ok (.iconst 2, 1) := by decide +kernel
theorem dX5_init_18 : decode cX5_init 18 = .ok (.iconst (-1), 1) := by decide +kernel
theorem dX5_init_19 : decode cX5_init 19 = .ok (.iastore, 1) := by decide +kernel
theorem dX5_init_20 : decode cX5_init 20 = .ok (.dup, 1) := by decide +kernel
theorem dX5_init_21 : decode cX5_init 21 = .ok (.iconst 3, 1) := by decide +kernel
theorem dX5_init_22 : decode cX5_init 22 = .ok (.iconst (-1), 1) := by decide +kernel
theorem dX5_init_23 : decode cX5_init 23 = .ok (.iastore, 1) := by decide +kernel
theorem dX5_init_24 : decode cX5_init 24 = .ok (.putfield 9, 3) := by decide +kernel
theorem dX5_init_27 : decode cX5_init 27 = .ok (.aload_n 0, 1) := by decide +kernel
theorem dX5_init_28 : decode cX5_init 28 = .ok (.iconst 4, 1) := by decide +kernel
theorem dX5_init_29 : decode cX5_init 29 = .ok (.newarray .int, 2) := by decide +kernel
theorem dX5_init_31 : decode cX5_init 31 = .ok (.putfield 15, 3) := by decide +kernel
theorem dX5_init_34 : decode cX5_init 34 = .ok (.aload_n 0, 1) := by decide +kernel
theorem dX5_init_35 : decode cX5_init 35 = .ok (.sipush 256, 3) := by decide +kernel
theorem dX5_init_38 : decode cX5_init 38 = .ok (.newarray .int, 2) := by decide +kernel
theorem dX5_init_40 : decode cX5_init 40 = .ok (.putfield 18, 3) := by decide +kernel
theorem dX5_init_43 : decode cX5_init 43 = .ok (.return_, 1) := by decide +kernel
theorem dX5_renew_0 : decode cX5_renew 0 = .ok (.aload_n 0, 1) := by decide +kernel
theorem dX5_renew_1 : decode cX5_renew 1 = .ok (.getfield 9, 3) := by decide +kernel
theorem dX5_renew_4 : decode cX5_renew 4 = .ok (.iload_n 1, 1) := by decide +kernel
theorem dX5_renew_5 : decode cX5_renew 5 = .ok (.iload_n 2, 1) := by decide +kernel
theorem dX5_renew_6 : decode cX5_renew 6 = .ok (.iastore, 1) := by decide +kernel
theorem dX5_renew_7 : decode cX5_renew 7 = .ok (.aload_n 0, 1) := by decide +kernel
theorem dX5_renew_8 : decode cX5_renew 8 = .ok (.getfield 15, 3) := by decide +kernel
theorem dX5_renew_11 : decode cX5_renew 11 = .ok (.iload_n 1, 1) := by decide +kernel
theorem dX5_renew_12 : decode cX5_renew 12 = .ok (.iload_n 3, 1) := by decide +kernel
theorem dX5_renew_13 : decode cX5_renew 13 = .ok (.iastore, 1) := by decide +kernel
theorem dX5_renew_14 : decode cX5_renew 14 = .ok (.iconst 0, 1) := by decide +kernel
theorem dX5_renew_15 : decode cX5_renew 15 = .ok (.istore 4, 2) := by decide +kernel
theorem dX5_renew_17 : decode cX5_renew 17 = .ok (.iload 4, 2) := by decide +kernel
theorem dX5_renew_19 : decode cX5_renew 19 = .ok (.iload_n 3, 1) := by decide +kernel
theorem dX5_renew_20 : decode cX5_renew 20 = .ok (.if_icmp .ge 22, 3) := by decide +kernel
theorem dX5_renew_23 : decode cX5_renew 23 = .ok (.aload_n 0, 1) := by decide +kernel
theorem dX5_renew_24 : decode cX5_renew 24 = .ok (.getfield 18, 3) := by decide +kernel
theorem dX5_renew_27 : decode cX5_renew 27 = .ok (.iload_n 1, 1) := by decide +kernel
theorem dX5_renew_28 : decode cX5_renew 28 = .ok (.bipush 64, 2) := by decide +kernel
theorem dX5_renew_30 : decode cX5_renew 30 = .ok (.imul, 1) := by decide +kernel
theorem dX5_renew_31 : decode cX5_renew 31 = .ok (.iload 4, 2) := by decide +kernel
theorem dX5_renew_33 : decode cX5_renew 33 = .ok (.iadd, 1) := by decide +kernel
theorem dX5_renew_34 : decode cX5_renew 34 = .ok (.iconst 0, 1) := by decide +kernel
theorem dX5_renew_35 : decode cX5_renew 35 = .ok (.iastore, 1) := by decide +kernel
theorem dX5_renew_36 : decode cX5_renew 36 = .ok (.iinc 4 1, 3) := by decide +kernel
theorem dX5_renew_39 : decode cX5_renew 39 = .ok (.goto (-22), 3) := by decide +kernel
theorem dX5_renew_42 : decode cX5_renew 42 = .ok (.return_, 1) := by decide +kernel
theorem dX5_faultAt_0 : decode cX5_faultAt 0 = .ok (.aload_n 0, 1) := by decide +kernel
theorem dX5_faultAt_1 : decode cX5_faultAt 1 = .ok (.getfield 9, 3) := by decide +kernel
theorem dX5_faultAt_4 : decode cX5_faultAt 4 = .ok (.iload_n 1, 1) := by decide +kernel
theorem dX5_faultAt_5 : decode cX5_faultAt 5 = .ok (.iaload, 1) := by decide +kernel
theorem dX5_faultAt_6 : decode cX5_faultAt 6 = .ok (.ifCond .ge 5, 3) := by decide +kernel
theorem dX5_faultAt_9 : decode cX5_faultAt 9 = .ok (.iconst 1, 1) := by decide +kernel
theorem dX5_faultAt_10 : decode cX5_faultAt 10 = .ok (.ireturn, 1) := by decide +kernel
theorem dX5_faultAt_11 : decode cX5_faultAt 11 = .ok (.aload_n 0, 1) := by decide +kernel
theorem dX5_faultAt_12 : decode cX5_faultAt 12 = .ok (.getfield 9, 3) := by decide +kernel
theorem dX5_faultAt_15 : decode cX5_faultAt 15 = .ok (.iload_n 1, 1) := by decide +kernel
theorem dX5_faultAt_16 : decode cX5_faultAt 16 = .ok (.iaload, 1) := by decide +kernel
theorem dX5_faultAt_17 : decode cX5_faultAt 17 = .ok (.iload_n 2, 1) := by decide +kernel
theorem dX5_faultAt_18 : decode cX5_faultAt 18 = .ok (.if_icmp .eq 5, 3) := by decide +kernel
theorem dX5_faultAt_21 : decode cX5_faultAt 21 = .ok (.iconst 3, 1) := by decide +kernel
theorem dX5_faultAt_22 : decode cX5_faultAt 22 = .ok (.ireturn, 1) := by decide +kernel
theorem dX5_faultAt_23 : decode cX5_faultAt 23 = .ok (.iload_n 3, 1) := by decide +kernel
theorem dX5_faultAt_24 : decode cX5_faultAt 24 = .ok (.ifCond .lt 13, 3) := by decide +kernel
theorem dX5_faultAt_27 : decode cX5_faultAt 27 = .ok (.iload_n 3, 1) := by decide +kernel
theorem dX5_faultAt_28 : decode cX5_faultAt 28 = .ok (.aload_n 0, 1) := by decide +kernel
theorem dX5_faultAt_29 : decode cX5_faultAt 29 = .ok (.getfield 15, 3) := by decide +kernel
theorem dX5_faultAt_32 : decode cX5_faultAt 32 = .ok (.iload_n 1, 1) := by decide +kernel
theorem dX5_faultAt_33 : decode cX5_faultAt 33 = .ok (.iaload, 1) := by decide +kernel
theorem dX5_faultAt_34 : decode cX5_faultAt 34 = .ok (.if_icmp .lt 7, 3) := by decide +kernel
theorem dX5_faultAt_37 : decode cX5_faultAt 37 = .ok (.iconst 2, 1) := by decide +kernel
theorem dX5_faultAt_38 : decode cX5_faultAt 38 = .ok (.goto 4, 3) := by decide +kernel
theorem dX5_faultAt_41 : decode cX5_faultAt 41 = .ok (.iconst 0, 1) := by decide +kernel
theorem dX5_faultAt_42 : decode cX5_faultAt 42 = .ok (.ireturn, 1) := by decide +kernel
theorem dX5_put_0 : decode cX5_put 0 = .ok (.aload_n 0, 1) := by decide +kernel
theorem dX5_put_1 : decode cX5_put 1 = .ok (.getfield 18, 3) := by decide +kernel
theorem dX5_put_4 : decode cX5_put 4 = .ok (.iload_n 1, 1) := by decide +kernel
theorem dX5_put_5 : decode cX5_put 5 = .ok (.bipush 64, 2) := by decide +kernel
theorem dX5_put_7 : decode cX5_put 7 = .ok (.imul, 1) := by decide +kernel
theorem dX5_put_8 : decode cX5_put 8 = .ok (.iload_n 2, 1) := by decide +kernel
theorem dX5_put_9 : decode cX5_put 9 = .ok (.iadd, 1) := by decide +kernel
theorem dX5_put_10 : decode cX5_put 10 = .ok (.aload_n 0, 1) := by decide +kernel
theorem dX5_put_11 : decode cX5_put 11 = .ok (.getfield 9, 3) := by decide +kernel
theorem dX5_put_14 : decode cX5_put 14 = .ok (.iload_n 1, 1) := by decide +kernel
theorem dX5_put_15 : decode cX5_put 15 = .ok (.iaload, 1) := by decide +kernel
theorem dX5_put_16 : decode cX5_put 16 = .ok (.ifCond .ne 8, 3) := by decide +kernel
theorem dX5_put_19 : decode cX5_put 19 = .ok (.iload_n 3, 1) := by decide +kernel
theorem dX5_put_20 : decode cX5_put 20 = .ok (.i2b, 1) := by decide +kernel
theorem dX5_put_21 : decode cX5_put 21 = .ok (.goto 19, 3) := by decide +kernel
theorem dX5_put_24 : decode cX5_put 24 = .ok (.aload_n 0, 1) := by decide +kernel
theorem dX5_put_25 : decode cX5_put 25 = .ok (.getfield 9, 3) := by decide +kernel
theorem dX5_put_28 : decode cX5_put 28 = .ok (.iload_n 1, 1) := by decide +kernel
theorem dX5_put_29 : decode cX5_put 29 = .ok (.iaload, 1) := by decide +kernel
theorem dX5_put_30 : decode cX5_put 30 = .ok (.iconst 1, 1) := by decide +kernel
theorem dX5_put_31 : decode cX5_put 31 = .ok (.if_icmp .ne 8, 3) := by decide +kernel
theorem dX5_put_34 : decode cX5_put 34 = .ok (.iload_n 3, 1) := by decide +kernel
theorem dX5_put_35 : decode cX5_put 35 = .ok (.i2s, 1) := by decide +kernel
theorem dX5_put_36 : decode cX5_put 36 = .ok (.goto 4, 3) := by decide +kernel
theorem dX5_put_39 : decode cX5_put 39 = .ok (.iload_n 3, 1) := by decide +kernel
theorem dX5_put_40 : decode cX5_put 40 = .ok (.iastore, 1) := by decide +kernel
theorem dX5_put_41 : decode cX5_put 41 = .ok (.return_, 1) := by decide +kernel
theorem dX5_cell_0 : decode cX5_cell 0 = .ok (.aload_n 0, 1) := by decide +kernel
theorem dX5_cell_1 : decode cX5_cell 1 = .ok (.getfield 18, 3) := by decide +kernel
theorem dX5_cell_4 : decode cX5_cell 4 = .ok (.iload_n 1, 1) := by decide +kernel
theorem dX5_cell_5 : decode cX5_cell 5 = .ok (.bipush 64, 2) := by decide +kernel
theorem dX5_cell_7 : decode cX5_cell 7 = .ok (.imul, 1) := by decide +kernel
theorem dX5_cell_8 : decode cX5_cell 8 = .ok (.iload_n 2, 1) := by decide +kernel
theorem dX5_cell_9 : decode cX5_cell 9 = .ok (.iadd, 1) := by decide +kernel
theorem dX5_cell_10 : decode cX5_cell 10 = .ok (.iaload, 1) := by decide +kernel
theorem dX5_cell_11 : decode cX5_cell 11 = .ok (.ireturn, 1) := by decide +kernel
theorem dX6_init_0 : decode cX6_init 0 = .ok (.aload_n 0, 1) := by decide +kernel
theorem dX6_init_1 : decode cX6_init 1 = .ok (.invokespecial 3, 3) := by decide +kernel
theorem dX6_init_4 : decode cX6_init 4 = .ok (.aload_n 0, 1) := by decide +kernel
theorem dX6_init_5 : decode cX6_init 5 = .ok (.bipush 120, 2) := by decide +kernel
theorem dX6_init_7 : decode cX6_init 7 = .ok (.newarray .int, 2) := by decide +kernel
theorem dX6_init_9 : decode cX6_init 9 = .ok (.putfield 9, 3) := by decide +kernel
theorem dX6_init_12 : decode cX6_init 12 = .ok (.aload_n 0, 1) := by decide +kernel
theorem dX6_init_13 : decode cX6_init 13 = .ok (.new 15, 3) := by decide +kernel
theorem dX6_init_16 : decode cX6_init 16 = .ok (.dup, 1) := by decide +kernel
theorem dX6_init_17 : decode cX6_init 17 = .ok (.invokespecial 17, 3) := by decide +kernel
theorem dX6_init_20 : decode cX6_init 20 = .ok (.putfield 18, 3) := by decide +kernel
theorem dX6_init_23 : decode cX6_init 23 = .ok (.return_, 1) := by decide +kernel
theorem dX6_push_0 : decode cX6_push 0 = .ok (.aload_n 0, 1) := by decide +kernel
theorem dX6_push_1 : decode cX6_push 1 = .ok (.getfield 22, 3) := by decide +kernel
theorem dX6_push_4 : decode cX6_push 4 = .ok (.bipush 8, 2) := by decide +kernel
theorem dX6_push_6 : decode cX6_push 6 = .ok (.iadd, 1) := by decide +kernel
theorem dX6_push_7 : decode cX6_push 7 = .ok (.bipush 120, 2) := by decide +kernel
theorem dX6_push_9 : decode cX6_push 9 = .ok (.if_icmp .le 6, 3) := by decide +kernel
theorem dX6_push_12 : decode cX6_push 12 = .ok (.bipush (-3), 2) := by decide +kernel
theorem dX6_push_14 : decode cX6_push 14 = .ok (.ireturn, 1) := by decide +kernel
theorem dX6_push_15 : decode cX6_push 15 = .ok (.bipush 56, 2) := by decide +kernel
theorem dX6_push_17 : decode cX6_push 17 = .ok (.istore_n 3, 1) := by decide +kernel
theorem dX6_push_18 : decode cX6_push 18 = .ok (.iload_n 3, 1) := by decide +kernel
theorem dX6_push_19 : decode cX6_push 19 = .ok (.ifCond .lt 36, 3) := by decide +kernel
theorem dX6_push_22 : decode cX6_push 22 = .ok (.aload_n 0, 1) := by decide +kernel
theorem dX6_push_23 : decode cX6_push 23 = .ok (.getfield 9, 3) := by decide +kernel
theorem dX6_push_26 : decode cX6_push 26 = .ok (.aload_n 0, 1) := by decide +kernel
theorem dX6_push_27 : decode cX6_push 27 = .ok (.getfield 22, 3) := by decide +kernel
theorem dX6_push_30 : decode cX6_push 30 = .ok (.lload_n 1, 1) := by decide +kernel
theorem dX6_push_31 : decode cX6_push 31 = .ok (.iload_n 3, 1) := by decide +kernel
theorem dX6_push_32 : decode cX6_push 32 = .ok (.lushr, 1) := by decide +kernel
theorem dX6_push_33 : decode cX6_push 33 = .ok (.l2i, 1) := by decide +kernel
theorem dX6_push_34 : decode cX6_push 34 = .ok (.sipush 255, 3) := by decide +kernel
theorem dX6_push_37 : decode cX6_push 37 = .ok (.iand, 1) := by decide +kernel
theorem dX6_push_38 : decode cX6_push 38 = .ok (.iastore, 1) := by decide +kernel
theorem dX6_push_39 : decode cX6_push 39 = .ok (.aload_n 0, 1) := by decide +kernel
theorem dX6_push_40 : decode cX6_push 40 = .ok (.dup, 1) := by decide +kernel
theorem dX6_push_41 : decode cX6_push 41 = .ok (.getfield 22, 3) := by decide +kernel
theorem dX6_push_44 : decode cX6_push 44 = .ok (.iconst 1, 1) := by decide +kernel
theorem dX6_push_45 : decode cX6_push 45 = .ok (.iadd, 1) := by decide +kernel
theorem dX6_push_46 : decode cX6_push 46 = .ok (.putfield 22, 3) := by decide +kernel
theorem dX6_push_49 : decode cX6_push 49 = .ok (.iinc 3 (-8), 3) := by decide +kernel
theorem dX6_push_52 : decode cX6_push 52 = .ok (.goto (-34), 3) := by decide +kernel
theorem dX6_push_55 : decode cX6_push 55 = .ok (.aload_n 0, 1) := by decide +kernel
theorem dX6_push_56 : decode cX6_push 56 = .ok (.getfield 22, 3) := by decide +kernel
theorem dX6_push_59 : decode cX6_push 59 = .ok (.ireturn, 1) := by decide +kernel
theorem dX6_readAll_0 : decode cX6_readAll 0 = .ok (.aload_n 0, 1) := by decide +kernel
theorem dX6_readAll_1 : decode cX6_readAll 1 = .ok (.getfield 18, 3) := by decide +kernel
theorem dX6_readAll_4 : decode cX6_readAll 4 = .ok (.iconst 0, 1) := by decide +kernel
theorem dX6_readAll_5 : decode cX6_readAll 5 = .ok (.putfield 26, 3) := by decide +kernel
theorem dX6_readAll_8 : decode cX6_readAll 8 = .ok (.aload_n 0, 1) := by decide +kernel
theorem dX6_readAll_9 : decode cX6_readAll 9 = .ok (.iconst 0, 1) := by decide +kernel
theorem dX6_readAll_10 : decode cX6_readAll 10 = .ok (.putfield 29, 3) := by decide +kernel
theorem dX6_readAll_13 : decode cX6_readAll 13 = .ok (.aload_n 0, 1) := by decide +kernel
theorem dX6_readAll_14 : decode cX6_readAll 14 = .ok (.iconst 0, 1) := by decide +kernel
theorem dX6_readAll_15 : decode cX6_readAll 15 = .ok (.putfield 32, 3) := by decide +kernel
theorem dX6_readAll_18 : decode cX6_readAll 18 = .ok (.aload_n 0, 1) := by decide +kernel
theorem dX6_readAll_19 : decode cX6_readAll 19 = .ok (.invokevirtual 35, 3) := by decide +kernel
theorem dX6_readAll_22 : decode cX6_readAll 22 = .ok (.bipush 120, 2) := by decide +kernel
theorem dX6_readAll_24 : decode cX6_readAll 24 = .ok (.istore_n 1, 1) := by decide +kernel
theorem dX6_readAll_25 : decode cX6_readAll 25 = .ok (.iload_n 1, 1) := by decide +kernel
theorem dX6_readAll_26 : decode cX6_readAll 26 = .ok (.ifCond .le 27, 3) := by decide +kernel
theorem dX6_readAll_29 : decode cX6_readAll 29 = .ok (.aload_n 0, 1) := by decide +kernel
theorem dX6_readAll_30 : decode cX6_readAll 30 = .ok (.getfield 29, 3) := by decide +kernel
theorem dX6_readAll_33 : decode cX6_readAll 33 = .ok (.ifCond .ne 20, 3) := by decide +kernel
theorem dX6_readAll_36 : decode cX6_readAll 36 = .ok (.aload_n 0, 1) := by decide +kernel
theorem dX6_readAll_37 : decode cX6_readAll 37 = .ok (.getfield 38, 3) := by decide +kernel
theorem dX6_readAll_40 : decode cX6_readAll 40 = .ok (.ifCond .eq 13, 3) := by decide +kernel
theorem dX6_readAll_43 : decode cX6_readAll 43 = .ok (.aload_n 0, 1) := by decide +kernel
theorem dX6_readAll_44 : decode cX6_readAll 44 = .ok (.invokevirtual 41, 3) := by decide +kernel
theorem dX6_readAll_47 : decode cX6_readAll 47 = .ok (.iinc 1 (-1), 3) := by decide +kernel
theorem dX6_readAll_50 : decode cX6_readAll 50 = .ok (.goto (-25), 3) := by decide +kernel
theorem dX6_readAll_53 : decode cX6_readAll 53 = .ok (.return_, 1) := by decide +kernel
theorem dX6_readLine_0 : decode cX6_readLine 0 = .ok (.aload_n 0, 1) := by decide +kernel
theorem dX6_readLine_1 : decode cX6_readLine 1 = .ok (.getfield 38, 3) := by decide +kernel
theorem dX6_readLine_4 : decode cX6_readLine 4 = .ok (.iconst 1, 1) := by decide +kernel
theorem dX6_readLine_5 : decode cX6_readLine 5 = .ok (.if_icmp .ne 10, 3) := by decide +kernel
theorem dX6_readLine_8 : decode cX6_readLine 8 = .ok (.aload_n 0, 1) := by decide +kernel
theorem dX6_readLine_9 : decode cX6_readLine 9 = .ok (.invokevirtual 44, 3) := by decide +kernel
theorem dX6_readLine_12 : decode cX6_readLine 12 = .ok (.goto 5, 3) := by decide +kernel
theorem dX6_readLine_15 : decode cX6_readLine 15 = .ok (.bipush (-4), 2) := by decide +kernel
theorem dX6_readLine_17 : decode cX6_readLine 17 = .ok (.istore_n 1, 1) := by decide +kernel
theorem dX6_readLine_18 : decode cX6_readLine 18 = .ok (.iload_n 1, 1) := by decide +kernel
theorem dX6_readLine_19 : decode cX6_readLine 19 = .ok (.ifCond .ge 11, 3) := by decide +kernel
theorem dX6_readLine_22 : decode cX6_readLine 22 = .ok (.aload_n 0, 1) := by decide +kernel
theorem dX6_readLine_23 : decode cX6_readLine 23 = .ok (.iconst 2, 1) := by decide +kernel
theorem dX6_readLine_24 : decode cX6_readLine 24 = .ok (.putfield 29, 3) := by decide +kernel
theorem dX6_readLine_27 : decode cX6_readLine 27 = .ok (.goto 93, 3) := by decide +kernel
theorem dX6_readLine_30 : decode cX6_readLine 30 = .ok (.aload_n 0, 1) := by decide +kernel
theorem dX6_readLine_31 : decode cX6_readLine 31 = .ok (.getfield 18, 3) := by decide +kernel
theorem dX6_readLine_34 : decode cX6_readLine 34 = .ok (.getfield 26, 3) := by decide +kernel
theorem dX6_readLine_37 : decode cX6_readLine 37 = .ok (.bipush 6, 2) := by decide +kernel
theorem dX6_readLine_39 : decode cX6_readLine 39 = .ok (.if_icmp .ne 11, 3) := by decide +kernel
theorem dX6_readLine_42 : decode cX6_readLine 42 = .ok (.aload_n 0, 1) := by decide +kernel
theorem dX6_readLine_43 : decode cX6_readLine 43 = .ok (.iconst 4, 1) := by decide +kernel
theorem dX6_readLine_44 : decode cX6_readLine 44 = .ok (.putfield 29, 3) := by decide +kernel
theorem dX6_readLine_47 : decode cX6_readLine 47 = .ok (.goto 73, 3) := by decide +kernel
theorem dX6_readLine_50 : decode cX6_readLine 50 = .ok (.iload_n 1, 1) := by decide +kernel
theorem dX6_readLine_51 : decode cX6_readLine 51 = .ok (.iconst 4, 1) := by decide +kernel
theorem dX6_readLine_52 : decode cX6_readLine 52 = .ok (.if_icmp .ne 21, 3) := by decide +kernel
theorem dX6_readLine_55 : decode cX6_readLine 55 = .ok (.aload_n 0, 1) := by decide +kernel
theorem dX6_readLine_56 : decode cX6_readLine 56 = .ok (.getfield 18, 3) := by decide +kernel
theorem dX6_readLine_59 : decode cX6_readLine 59 = .ok (.getfield 26, 3) := by decide +kernel
theorem dX6_readLine_62 : decode cX6_readLine 62 = .ok (.ifCond .ne 11, 3) := by decide +kernel
theorem dX6_readLine_65 : decode cX6_readLine 65 = .ok (.aload_n 0, 1) := by decide +kernel
theorem dX6_readLine_66 : decode cX6_readLine 66 = .ok (.iconst 5, 1) := by decide +kernel
theorem dX6_readLine_67 : decode cX6_readLine 67 = .ok (.putfield 29, 3) := by decide +kernel
theorem dX6_readLine_70 : decode cX6_readLine 70 = .ok (.goto 50, 3) := by decide +kernel
theorem dX6_readLine_73 : decode cX6_readLine 73 = .ok (.aload_n 0, 1) := by decide +kernel
theorem dX6_readLine_74 : decode cX6_readLine 74 = .ok (.iload_n 1, 1) := by decide +kernel
theorem dX6_readLine_75 : decode cX6_readLine 75 = .ok (.invokevirtual 48, 3) := by decide +kernel
theorem dX6_readLine_78 : decode cX6_readLine 78 = .ok (.istore_n 2, 1) := by decide +kernel
theorem dX6_readLine_79 : decode cX6_readLine 79 = .ok (.iload_n 1, 1) := by decide +kernel
theorem dX6_readLine_80 : decode cX6_readLine 80 = .ok (.iconst 2, 1) := by decide +kernel
theorem dX6_readLine_81 : decode cX6_readLine 81 = .ok (.if_icmp .ne 11, 3) := by decide +kernel
theorem dX6_readLine_84 : decode cX6_readLine 84 = .ok (.aload_n 0, 1) := by decide +kernel
theorem dX6_readLine_85 : decode cX6_readLine 85 = .ok (.iload_n 1, 1) := by decide +kernel
theorem dX6_readLine_86 : decode cX6_readLine 86 = .ok (.invokevirtual 48, 3) := by decide +kernel
theorem dX6_readLine_89 : decode cX6_readLine 89 = .ok (.goto 4, 3) := by decide +kernel
theorem dX6_readLine_92 : decode cX6_readLine 92 = .ok (.iconst 0, 1) := by decide +kernel
theorem dX6_readLine_93 : decode cX6_readLine 93 = .ok (.istore_n 3, 1) := by decide +kernel
theorem dX6_readLine_94 : decode cX6_readLine 94 = .ok (.aload_n 0, 1) := by decide +kernel
theorem dX6_readLine_95 : decode cX6_readLine 95 = .ok (.iconst 3, 1) := by decide +kernel
theorem dX6_readLine_96 : decode cX6_readLine 96 = .ok (.invokevirtual 52, 3) := by decide +kernel
theorem dX6_readLine_99 : decode cX6_readLine 99 = .ok (.aload_n 0, 1) := by decide +kernel
theorem dX6_readLine_100 : decode cX6_readLine 100 = .ok (.getfield 29, 3) := by decide +kernel
theorem dX6_readLine_103 : decode cX6_readLine 103 = .ok (.ifCond .ne 17, 3) := by decide +kernel
theorem dX6_readLine_106 : decode cX6_readLine 106 = .ok (.aload_n 0, 1) := by decide +kernel
theorem dX6_readLine_107 : decode cX6_readLine 107 = .ok (.getfield 18, 3) := by decide +kernel
theorem dX6_readLine_110 : decode cX6_readLine 110 = .ok (.iload_n 1, 1) := by decide +kernel
theorem dX6_readLine_111 : decode cX6_readLine 111 = .ok (.iload_n 2, 1) := by decide +kernel
theorem dX6_readLine_112 : decode cX6_readLine 112 = .ok (.iload_n 3, 1) := by decide +kernel
theorem dX6_readLine_113 : decode cX6_readLine 113 = .ok (.invokevirtual 56, 3) := by decide +kernel
theorem dX6_readLine_116 : decode cX6_readLine 116 = .ok (.aload_n 0, 1) := by decide +kernel
theorem dX6_readLine_117 : decode cX6_readLine 117 = .ok (.invokevirtual 35, 3) := by decide +kernel
theorem dX6_readLine_120 : decode cX6_readLine 120 = .ok (.return_, 1) := by decide +kernel
theorem dX6_readNumber_0 : decode cX6_readNumber 0 = .ok (.aload_n 0, 1) := by decide +kernel
theorem dX6_readNumber_1 : decode cX6_readNumber 1 = .ok (.iconst 2, 1) := by decide +kernel
theorem dX6_readNumber_2 : decode cX6_readNumber 2 = .ok (.invokevirtual 52, 3) := by decide +kernel
theorem dX6_readNumber_5 : decode cX6_readNumber 5 = .ok (.aload_n 0, 1) := by decide +kernel
theorem dX6_readNumber_6 : decode cX6_readNumber 6 = .ok (.getfield 29, 3) := by decide +kernel
theorem dX6_readNumber_9 : decode cX6_readNumber 9 = .ok (.ifCond .eq 5, 3) := by decide +kernel
theorem dX6_readNumber_12 : decode cX6_readNumber 12 = .ok (.iconst 0, 1) := by decide +kernel
theorem dX6_readNumber_13 : decode cX6_readNumber 13 = .ok (.ireturn, 1) := by decide +kernel
theorem dX6_readNumber_14 : decode cX6_readNumber 14 = .ok (.iconst 0, 1) := by decide +kernel
theorem dX6_readNumber_15 : decode cX6_readNumber 15 = .ok (.istore_n 2, 1) := by decide +kernel
theorem dX6_readNumber_16 : decode cX6_readNumber 16 = .ok (.aload_n 0, 1) := by decide +kernel
theorem dX6_readNumber_17 : decode cX6_readNumber 17 = .ok (.getfield 60, 3) := by decide +kernel
theorem dX6_readNumber_20 : decode cX6_readNumber 20 = .ok (.istore_n 3, 1) := by decide +kernel
theorem dX6_readNumber_21 : decode cX6_readNumber 21 = .ok (.iload_n 3, 1) := by decide +kernel
theorem dX6_readNumber_22 : decode cX6_readNumber 22 = .ok (.aload_n 0, 1) := by decide +kernel
theorem dX6_readNumber_23 : decode cX6_readNumber 23 = .ok (.getfield 32, 3) := by decide +kernel
theorem dX6_readNumber_26 : decode cX6_readNumber 26 = .ok (.if_icmp .ge 24, 3) := by decide +kernel
theorem dX6_readNumber_29 : decode cX6_readNumber 29 = .ok (.iload_n 2, 1) := by decide +kernel
theorem dX6_readNumber_30 : decode cX6_readNumber 30 = .ok (.bipush 10, 2) := by decide +kernel
theorem dX6_readNumber_32 : decode cX6_readNumber 32 = .ok (.imul, 1) := by decide +kernel
theorem dX6_readNumber_33 : decode cX6_readNumber 33 = .ok (.aload_n 0, 1) := by decide +kernel
theorem dX6_readNumber_34 : decode cX6_readNumber 34 = .ok (.getfield 9, 3) := by decide +kernel
theorem dX6_readNumber_37 : decode cX6_readNumber 37 = .ok (.iload_n 3, 1) := by decide +kernel
theorem dX6_readNumber_38 : decode cX6_readNumber 38 = .ok (.iaload, 1) := by decide +kernel
theorem dX6_readNumber_39 : decode cX6_readNumber 39 = .ok (.iadd, 1) := by decide +kernel
theorem dX6_readNumber_40 : decode cX6_readNumber 40 = .ok (.bipush 48, 2) := by decide +kernel
theorem dX6_readNumber_42 : decode cX6_readNumber 42 = .ok (.isub, 1) := by decide +kernel
theorem dX6_readNumber_43 : decode cX6_readNumber 43 = .ok (.istore_n 2, 1) := by decide +kernel
theorem dX6_readNumber_44 : decode cX6_readNumber 44 = .ok (.iinc 3 1, 3) := by decide +kernel
theorem dX6_readNumber_47 : decode cX6_readNumber 47 = .ok (.goto (-26), 3) := by decide +kernel
theorem dX6_readNumber_50 : decode cX6_readNumber 50 = .ok (.iload_n 2, 1) := by decide +kernel
theorem dX6_readNumber_51 : decode cX6_readNumber 51 = .ok (.getstatic 63, 3) := by decide +kernel
theorem dX6_readNumber_54 : decode cX6_readNumber 54 = .ok (.iload_n 1, 1) := by decide +kernel
theorem dX6_readNumber_55 : decode cX6_readNumber 55 = .ok (.iaload, 1) := by decide +kernel
theorem dX6_readNumber_56 : decode cX6_readNumber 56 = .ok (.if_icmp .lt 12, 3) := by decide +kernel
theorem dX6_readNumber_59 : decode cX6_readNumber 59 = .ok (.iload_n 2, 1) := by decide +kernel
theorem dX6_readNumber_60 : decode cX6_readNumber 60 = .ok (.getstatic 66, 3) := by decide +kernel
theorem dX6_readNumber_63 : decode cX6_readNumber 63 = .ok (.iload_n 1, 1) := by decide +kernel
theorem dX6_readNumber_64 : decode cX6_readNumber 64 = .ok (.iaload, 1) := by decide +kernel
theorem dX6_readNumber_65 : decode cX6_readNumber 65 = .ok (.if_icmp .le 8, 3) := by decide +kernel
theorem dX6_readNumber_68 : decode cX6_readNumber 68 = .ok (.aload_n 0, 1) := by decide +kernel
theorem dX6_readNumber_69 : decode cX6_readNumber 69 = .ok (.iconst 3, 1) := by decide +kernel
theorem dX6_readNumber_70 : decode cX6_readNumber 70 = .ok (.putfield 29, 3) := by decide +kernel
theorem dX6_readNumber_73 : decode cX6_readNumber 73 = .ok (.iload_n 2, 1) := by decide +kernel
theorem dX6_readNumber_74 : decode cX6_readNumber 74 = .ok (.ireturn, 1) := by decide +kernel
theorem dX6_expect_0 : decode cX6_expect 0 = .ok (.aload_n 0, 1) := by decide +kernel
theorem dX6_expect_1 : decode cX6_expect 1 = .ok (.getfield 29, 3) := by decide +kernel
theorem dX6_expect_4 : decode cX6_expect 4 = .ok (.ifCond .ne 7, 3) := by decide +kernel
theorem dX6_expect_7 : decode cX6_expect 7 = .ok (.aload_n 0, 1) := by decide +kernel
theorem dX6_expect_8 : decode cX6_expect 8 = .ok (.invokevirtual 35, 3) := by decide +kernel
theorem dX6_expect_11 : decode cX6_expect 11 = .ok (.aload_n 0, 1) := by decide +kernel
theorem dX6_expect_12 : decode cX6_expect 12 = .ok (.getfield 29, 3) := by decide +kernel
theorem dX6_expect_15 : decode cX6_expect 15 = .ok (.ifCond .ne 16, 3) := by decide +kernel
theorem dX6_expect_18 : decode cX6_expect 18 = .ok (.aload_n 0, 1) := by decide +kernel
theorem dX6_expect_19 : decode cX6_expect 19 = .ok (.getfield 38, 3) := by decide +kernel
theorem dX6_expect_22 : decode cX6_expect 22 = .ok (.iload_n 1, 1) := by decide +kernel
theorem dX6_expect_23 : decode cX6_expect 23 = .ok (.if_icmp .eq 8, 3) := by decide +kernel
theorem dX6_expect_26 : decode cX6_expect 26 = .ok (.aload_n 0, 1) := by decide +kernel
theorem dX6_expect_27 : decode cX6_expect 27 = .ok (.iconst 2, 1) := by decide +kernel
theorem dX6_expect_28 : decode cX6_expect 28 = .ok (.putfield 29, 3) := by decide +kernel
theorem dX6_expect_31 : decode cX6_expect 31 = .ok (.return_, 1) := by decide +kernel
theorem dX6_advance_0 : decode cX6_advance 0 = .ok (.aload_n 0, 1) := by decide +kernel
theorem dX6_advance_1 : decode cX6_advance 1 = .ok (.aload_n 0, 1) := by decide +kernel
theorem dX6_advance_2 : decode cX6_advance 2 = .ok (.getfield 32, 3) := by decide +kernel
theorem dX6_advance_5 : decode cX6_advance 5 = .ok (.putfield 60, 3) := by decide +kernel
theorem dX6_advance_8 : decode cX6_advance 8 = .ok (.aload_n 0, 1) := by decide +kernel
theorem dX6_advance_9 : decode cX6_advance 9 = .ok (.getfield 60, 3) := by decide +kernel
theorem dX6_advance_12 : decode cX6_advance 12 = .ok (.aload_n 0, 1) := by decide +kernel
theorem dX6_advance_13 : decode cX6_advance 13 = .ok (.getfield 22, 3) := by decide +kernel
theorem dX6_advance_16 : decode cX6_advance 16 = .ok (.if_icmp .ge 30, 3) := by decide +kernel
theorem dX6_advance_19 : decode cX6_advance 19 = .ok (.aload_n 0, 1) := by decide +kernel
theorem dX6_advance_20 : decode cX6_advance 20 = .ok (.getfield 9, 3) := by decide +kernel
theorem dX6_advance_23 : decode cX6_advance 23 = .ok (.aload_n 0, 1) := by decide +kernel
theorem dX6_advance_24 : decode cX6_advance 24 = .ok (.getfield 60, 3) := by decide +kernel
theorem dX6_advance_27 : decode cX6_advance 27 = .ok (.iaload, 1) := by decide +kernel
theorem dX6_advance_28 : decode cX6_advance 28 = .ok (.bipush 32, 2) := by decide +kernel
theorem dX6_advance_30 : decode cX6_advance 30 = .ok (.if_icmp .ne 16, 3) := by decide +kernel
theorem dX6_advance_33 : decode cX6_advance 33 = .ok (.aload_n 0, 1) := by decide +kernel
theorem dX6_advance_34 : decode cX6_advance 34 = .ok (.dup, 1) := by decide +kernel
theorem dX6_advance_35 : decode cX6_advance 35 = .ok (.getfield 60, 3) := by decide +kernel
theorem dX6_advance_38 : decode cX6_advance 38 = .ok (.iconst 1, 1) := by decide +kernel
theorem dX6_advance_39 : decode cX6_advance 39 = .ok (.iadd, 1) := by decide +kernel
theorem dX6_advance_40 : decode cX6_advance 40 = .ok (.putfield 60, 3) := by decide +kernel
theorem dX6_advance_43 : decode cX6_advance 43 = .ok (.goto (-35), 3) := by decide +kernel
theorem dX6_advance_46 : decode cX6_advance 46 = .ok (.aload_n 0, 1) := by decide +kernel
theorem dX6_advance_47 : decode cX6_advance 47 = .ok (.aload_n 0, 1) := by decide +kernel
theorem dX6_advance_48 : decode cX6_advance 48 = .ok (.getfield 60, 3) := by decide +kernel
theorem dX6_advance_51 : decode cX6_advance 51 = .ok (.putfield 32, 3) := by decide +kernel
theorem dX6_advance_54 : decode cX6_advance 54 = .ok (.aload_n 0, 1) := by decide +kernel
theorem dX6_advance_55 : decode cX6_advance 55 = .ok (.getfield 60, 3) := by decide +kernel
theorem dX6_advance_58 : decode cX6_advance 58 = .ok (.aload_n 0, 1) := by decide +kernel
theorem dX6_advance_59 : decode cX6_advance 59 = .ok (.getfield 22, 3) := by decide +kernel
theorem dX6_advance_62 : decode cX6_advance 62 = .ok (.if_icmp .lt 11, 3) := by decide +kernel
theorem dX6_advance_65 : decode cX6_advance 65 = .ok (.aload_n 0, 1) := by decide +kernel
theorem dX6_advance_66 : decode cX6_advance 66 = .ok (.iconst 0, 1) := by decide +kernel
theorem dX6_advance_67 : decode cX6_advance 67 = .ok (.putfield 38, 3) := by decide +kernel
theorem dX6_advance_70 : decode cX6_advance 70 = .ok (.goto 184, 3) := by decide +kernel
theorem dX6_advance_73 : decode cX6_advance 73 = .ok (.aload_n 0, 1) := by decide +kernel
theorem dX6_advance_74 : decode cX6_advance 74 = .ok (.getfield 9, 3) := by decide +kernel
theorem dX6_advance_77 : decode cX6_advance 77 = .ok (.aload_n 0, 1) := by decide +kernel
theorem dX6_advance_78 : decode cX6_advance 78 = .ok (.getfield 60, 3) := by decide +kernel
theorem dX6_advance_81 : decode cX6_advance 81 = .ok (.iaload, 1) := by decide +kernel
theorem dX6_advance_82 : decode cX6_advance 82 = .ok (.invokestatic 69, 3) := by decide +kernel
theorem dX6_advance_85 : decode cX6_advance 85 = .ok (.ifCond .eq 47, 3) := by decide +kernel
theorem dX6_advance_88 : decode cX6_advance 88 = .ok (.aload_n 0, 1) := by decide +kernel
theorem dX6_advance_89 : decode cX6_advance 89 = .ok (.iconst 1, 1) := by decide +kernel
theorem dX6_advance_90 : decode cX6_advance 90 = .ok (.putfield 38, 3) := by decide +kernel
theorem dX6_advance_93 : decode cX6_advance 93 = .ok (.aload_n 0, 1) := by decide +kernel
theorem dX6_advance_94 : decode cX6_advance 94 = .ok (.getfield 32, 3) := by decide +kernel
theorem dX6_advance_97 : decode cX6_advance 97 = .ok (.aload_n 0, 1) := by decide +kernel
theorem dX6_advance_98 : decode cX6_advance 98 = .ok (.getfield 22, 3) := by decide +kernel
theorem dX6_advance_101 : decode cX6_advance 101 = .ok (.if_icmp .ge 153, 3) := by decide +kernel
theorem dX6_advance_104 : decode cX6_advance 104 = .ok (.aload_n 0, 1) := by decide +kernel
theorem dX6_advance_105 : decode cX6_advance 105 = .ok (.getfield 9, 3) := by decide +kernel
theorem dX6_advance_108 : decode cX6_advance 108 = .ok (.aload_n 0, 1) := by decide +kernel
theorem dX6_advance_109 : decode cX6_advance 109 = .ok (.getfield 32, 3) := by decide +kernel
theorem dX6_advance_112 : decode cX6_advance 112 = .ok (.iaload, 1) := by decide +kernel
theorem dX6_advance_113 : decode cX6_advance 113 = .ok (.invokestatic 69, 3) := by decide +kernel
theorem dX6_advance_116 : decode cX6_advance 116 = .ok (.ifCond .eq 138, 3) := by decide +kernel
theorem dX6_advance_119 : decode cX6_advance 119 = .ok (.aload_n 0, 1) := by decide +kernel
theorem dX6_advance_120 : decode cX6_advance 120 = .ok (.dup, 1) := by decide +kernel
theorem dX6_advance_121 : decode cX6_advance 121 = .ok (.getfield 32, 3) := by decide +kernel
theorem dX6_advance_124 : decode cX6_advance 124 = .ok (.iconst 1, 1) := by decide +kernel
theorem dX6_advance_125 : decode cX6_advance 125 = .ok (.iadd, 1) := by decide +kernel
theorem dX6_advance_126 : decode cX6_advance 126 = .ok (.putfield 32, 3) := by decide +kernel
theorem dX6_advance_129 : decode cX6_advance 129 = .ok (.goto (-36), 3) := by decide +kernel
theorem dX6_advance_132 : decode cX6_advance 132 = .ok (.aload_n 0, 1) := by decide +kernel
theorem dX6_advance_133 : decode cX6_advance 133 = .ok (.getfield 9, 3) := by decide +kernel
theorem dX6_advance_136 : decode cX6_advance 136 = .ok (.aload_n 0, 1) := by decide +kernel
theorem dX6_advance_137 : decode cX6_advance 137 = .ok (.getfield 60, 3) := by decide +kernel
theorem dX6_advance_140 : decode cX6_advance 140 = .ok (.iaload, 1) := by decide +kernel
theorem dX6_advance_141 : decode cX6_advance 141 = .ok (.invokestatic 73, 3) := by decide +kernel
theorem dX6_advance_144 : decode cX6_advance 144 = .ok (.ifCond .eq 72, 3) := by decide +kernel
theorem dX6_advance_147 : decode cX6_advance 147 = .ok (.aload_n 0, 1) := by decide +kernel
theorem dX6_advance_148 : decode cX6_advance 148 = .ok (.iconst 2, 1) := by decide +kernel
theorem dX6_advance_149 : decode cX6_advance 149 = .ok (.putfield 38, 3) := by decide +kernel
theorem dX6_advance_152 : decode cX6_advance 152 = .ok (.aload_n 0, 1) := by decide +kernel
theorem dX6_advance_153 : decode cX6_advance 153 = .ok (.getfield 32, 3) := by decide +kernel
theorem dX6_advance_156 : decode cX6_advance 156 = .ok (.aload_n 0, 1) := by decide +kernel
theorem dX6_advance_157 : decode cX6_advance 157 = .ok (.getfield 22, 3) := by decide +kernel
theorem dX6_advance_160 : decode cX6_advance 160 = .ok (.if_icmp .ge 31, 3) := by decide +kernel
theorem dX6_advance_163 : decode cX6_advance 163 = .ok (.aload_n 0, 1) := by decide +kernel
theorem dX6_advance_164 : decode cX6_advance 164 = .ok (.getfield 9, 3) := by decide +kernel
theorem dX6_advance_167 : decode cX6_advance 167 = .ok (.aload_n 0, 1) := by decide +kernel
theorem dX6_advance_168 : decode cX6_advance 168 = .ok (.getfield 32, 3) := by decide +kernel
theorem dX6_advance_171 : decode cX6_advance 171 = .ok (.iaload, 1) := by decide +kernel
theorem dX6_advance_172 : decode cX6_advance 172 = .ok (.invokestatic 73, 3) := by decide +kernel
theorem dX6_advance_175 : decode cX6_advance 175 = .ok (.ifCond .eq 16, 3) := by decide +kernel
theorem dX6_advance_178 : decode cX6_advance 178 = .ok (.aload_n 0, 1) := by decide +kernel
theorem dX6_advance_179 : decode cX6_advance 179 = .ok (.dup, 1) := by decide +kernel
theorem dX6_advance_180 : decode cX6_advance 180 = .ok (.getfield 32, 3) := by decide +kernel
theorem dX6_advance_183 : decode cX6_advance 183 = .ok (.iconst 1, 1) := by decide +kernel
theorem dX6_advance_184 : decode cX6_advance 184 = .ok (.iadd, 1) := by decide +kernel
theorem dX6_advance_185 : decode cX6_advance 185 = .ok (.putfield 32, 3) := by decide +kernel
theorem dX6_advance_188 : decode cX6_advance 188 = .ok (.goto (-36), 3) := by decide +kernel
theorem dX6_advance_191 : decode cX6_advance 191 = .ok (.aload_n 0, 1) := by decide +kernel
theorem dX6_advance_192 : decode cX6_advance 192 = .ok (.aload_n 0, 1) := by decide +kernel
theorem dX6_advance_193 : decode cX6_advance 193 = .ok (.getfield 32, 3) := by decide +kernel
theorem dX6_advance_196 : decode cX6_advance 196 = .ok (.aload_n 0, 1) := by decide +kernel
theorem dX6_advance_197 : decode cX6_advance 197 = .ok (.getfield 60, 3) := by decide +kernel
theorem dX6_advance_200 : decode cX6_advance 200 = .ok (.isub, 1) := by decide +kernel
theorem dX6_advance_201 : decode cX6_advance 201 = .ok (.iconst 2, 1) := by decide +kernel
theorem dX6_advance_202 : decode cX6_advance 202 = .ok (.if_icmp .le 7, 3) := by decide +kernel
theorem dX6_advance_205 : decode cX6_advance 205 = .ok (.iconst 1, 1) := by decide +kernel
theorem dX6_advance_206 : decode cX6_advance 206 = .ok (.goto 4, 3) := by decide +kernel
theorem dX6_advance_209 : decode cX6_advance 209 = .ok (.iconst 0, 1) := by decide +kernel
theorem dX6_advance_210 : decode cX6_advance 210 = .ok (.putfield 29, 3) := by decide +kernel
theorem dX6_advance_213 : decode cX6_advance 213 = .ok (.goto 41, 3) := by decide +kernel
theorem dX6_advance_216 : decode cX6_advance 216 = .ok (.aload_n 0, 1) := by decide +kernel
theorem dX6_advance_217 : decode cX6_advance 217 = .ok (.iconst 3, 1) := by decide +kernel
theorem dX6_advance_218 : decode cX6_advance 218 = .ok (.putfield 38, 3) := by decide +kernel
theorem dX6_advance_221 : decode cX6_advance 221 = .ok (.aload_n 0, 1) := by decide +kernel
theorem dX6_advance_222 : decode cX6_advance 222 = .ok (.dup, 1) := by decide +kernel
theorem dX6_advance_223 : decode cX6_advance 223 = .ok (.getfield 32, 3) := by decide +kernel
theorem dX6_advance_226 : decode cX6_advance 226 = .ok (.iconst 1, 1) := by decide +kernel
theorem dX6_advance_227 : decode cX6_advance 227 = .ok (.iadd, 1) := by decide +kernel
theorem dX6_advance_228 : decode cX6_advance 228 = .ok (.putfield 32, 3) := by decide +kernel
theorem dX6_advance_231 : decode cX6_advance 231 = .ok (.aload_n 0, 1) := by decide +kernel
theorem dX6_advance_232 : decode cX6_advance 232 = .ok (.aload_n 0, 1) := by decide +kernel
theorem dX6_advance_233 : decode cX6_advance 233 = .ok (.getfield 9, 3) := by decide +kernel
theorem dX6_advance_236 : decode cX6_advance 236 = .ok (.aload_n 0, 1) := by decide +kernel
theorem dX6_advance_237 : decode cX6_advance 237 = .ok (.getfield 60, 3) := by decide +kernel
theorem dX6_advance_240 : decode cX6_advance 240 = .ok (.iaload, 1) := by decide +kernel
theorem dX6_advance_241 : decode cX6_advance 241 = .ok (.bipush 59, 2) := by decide +kernel
theorem dX6_advance_243 : decode cX6_advance 243 = .ok (.if_icmp .ne 7, 3) := by decide +kernel
theorem dX6_advance_246 : decode cX6_advance 246 = .ok (.iconst 0, 1) := by decide +kernel
theorem dX6_advance_247 : decode cX6_advance 247 = .ok (.goto 4, 3) := by decide +kernel
theorem dX6_advance_250 : decode cX6_advance 250 = .ok (.iconst 1, 1) := by decide +kernel
theorem dX6_advance_251 : decode cX6_advance 251 = .ok (.putfield 29, 3) := by decide +kernel
theorem dX6_advance_254 : decode cX6_advance 254 = .ok (.return_, 1) := by decide +kernel
theorem dX6_isLetter_0 : decode cX6_isLetter 0 = .ok (.iload_n 0, 1) := by decide +kernel
theorem dX6_isLetter_1 : decode cX6_isLetter 1 = .ok (.bipush 97, 2) := by decide +kernel
theorem dX6_isLetter_3 : decode cX6_isLetter 3 = .ok (.if_icmp .lt 13, 3) := by decide +kernel
theorem dX6_isLetter_6 : decode cX6_isLetter 6 = .ok (.iload_n 0, 1) := by decide +kernel
theorem dX6_isLetter_7 : decode cX6_isLetter 7 = .ok (.bipush 122, 2) := by decide +kernel
theorem dX6_isLetter_9 : decode cX6_isLetter 9 = .ok (.if_icmp .gt 7, 3) := by decide +kernel
theorem dX6_isLetter_12 : decode cX6_isLetter 12 = .ok (.iconst 1, 1) := by decide +kernel
theorem dX6_isLetter_13 : decode cX6_isLetter 13 = .ok (.goto 4, 3) := by decide +kernel
theorem dX6_isLetter_16 : decode cX6_isLetter 16 = .ok (.iconst 0, 1) := by decide +kernel
theorem dX6_isLetter_17 : decode cX6_isLetter 17 = .ok (.ireturn, 1) := by decide +kernel
theorem dX6_isDigit_0 : decode cX6_isDigit 0 = .ok (.iload_n 0, 1) := by decide +kernel
theorem dX6_isDigit_1 : decode cX6_isDigit 1 = .ok (.bipush 48, 2) := by decide +kernel
theorem dX6_isDigit_3 : decode cX6_isDigit 3 = .ok (.if_icmp .lt 13, 3) := by decide +kernel
theorem dX6_isDigit_6 : decode cX6_isDigit 6 = .ok (.iload_n 0, 1) := by decide +kernel
theorem dX6_isDigit_7 : decode cX6_isDigit 7 = .ok (.bipush 57, 2) := by decide +kernel
theorem dX6_isDigit_9 : decode cX6_isDigit 9 = .ok (.if_icmp .gt 7, 3) := by decide +kernel
theorem dX6_isDigit_12 : decode cX6_isDigit 12 = .ok (.iconst 1, 1) := by decide +kernel
theorem dX6_isDigit_13 : decode cX6_isDigit 13 = .ok (.goto 4, 3) := by decide +kernel
theorem dX6_isDigit_16 : decode cX6_isDigit 16 = .ok (.iconst 0, 1) := by decide +kernel
theorem dX6_isDigit_17 : decode cX6_isDigit 17 = .ok (.ireturn, 1) := by decide +kernel
theorem dX6_kindOfName_0 : decode cX6_kindOfName 0 = .ok (.aload_n 0, 1) := by decide +kernel
theorem dX6_kindOfName_1 : decode cX6_kindOfName 1 = .ok (.ldc 76, 2) := by decide +kernel
theorem dX6_kindOfName_3 : decode cX6_kindOfName 3 = .ok (.invokevirtual 78, 3) := by decide +kernel
theorem dX6_kindOfName_6 : decode cX6_kindOfName 6 = .ok (.ifCond .eq 5, 3) := by decide +kernel
theorem dX6_kindOfName_9 : decode cX6_kindOfName 9 = .ok (.iconst 0, 1) := by decide +kernel
theorem dX6_kindOfName_10 : decode cX6_kindOfName 10 = .ok (.ireturn, 1) := by decide +kernel
theorem dX6_kindOfName_11 : decode cX6_kindOfName 11 = .ok (.aload_n 0, 1) := by decide +kernel
theorem dX6_kindOfName_12 : decode cX6_kindOfName 12 = .ok (.ldc 82, 2) := by decide +kernel
theorem dX6_kindOfName_14 : decode cX6_kindOfName 14 = .ok (.invokevirtual 78, 3) := by decide +kernel
theorem dX6_kindOfName_17 : decode cX6_kindOfName 17 = .ok (.ifCond .eq 5, 3) := by decide +kernel
theorem dX6_kindOfName_20 : decode cX6_kindOfName 20 = .ok (.iconst 1, 1) := by decide +kernel
theorem dX6_kindOfName_21 : decode cX6_kindOfName 21 = .ok (.ireturn, 1) := by decide +kernel
theorem dX6_kindOfName_22 : decode cX6_kindOfName 22 = .ok (.aload_n 0, 1) := by decide +kernel
theorem dX6_kindOfName_23 : decode cX6_kindOfName 23 = .ok (.ldc 84, 2) := by decide +kernel
theorem dX6_kindOfName_25 : decode cX6_kindOfName 25 = .ok (.invokevirtual 78, 3) := by decide +kernel
theorem dX6_kindOfName_28 : decode cX6_kindOfName 28 = .ok (.ifCond .eq 5, 3) := by decide +kernel
theorem dX6_kindOfName_31 : decode cX6_kindOfName 31 = .ok (.iconst 2, 1) := by decide +kernel
theorem dX6_kindOfName_32 : decode cX6_kindOfName 32 = .ok (.ireturn, 1) := by decide +kernel
theorem dX6_kindOfName_33 : decode cX6_kindOfName 33 = .ok (.aload_n 0, 1) := by decide +kernel
theorem dX6_kindOfName_34 : decode cX6_kindOfName 34 = .ok (.ldc 86, 2) := by decide +kernel
theorem dX6_kindOfName_36 : decode cX6_kindOfName 36 = .ok (.invokevirtual 78, 3) := by decide +kernel
theorem dX6_kindOfName_39 : decode cX6_kindOfName 39 = .ok (.ifCond .eq 5, 3) := by decide +kernel
theorem dX6_kindOfName_42 : decode cX6_kindOfName 42 = .ok (.iconst 3, 1) := by decide +kernel
theorem dX6_kindOfName_43 : decode cX6_kindOfName 43 = .ok (.ireturn, 1) := by decide +kernel
theorem dX6_kindOfName_44 : decode cX6_kindOfName 44 = .ok (.aload_n 0, 1) := by decide +kernel
theorem dX6_kindOfName_45 : decode cX6_kindOfName 45 = .ok (.ldc 88, 2) := by decide +kernel
theorem dX6_kindOfName_47 : decode cX6_kindOfName 47 = .ok (.invokevirtual 78, 3) := by decide +kernel
theorem dX6_kindOfName_50 : decode cX6_kindOfName 50 = .ok (.ifCond .eq 7, 3) := by decide +kernel
theorem dX6_kindOfName_53 : decode cX6_kindOfName 53 = .ok (.iconst 4, 1) := by decide +kernel
theorem dX6_kindOfName_54 : decode cX6_kindOfName 54 = .ok (.goto 5, 3) := by decide +kernel
theorem dX6_kindOfName_57 : decode cX6_kindOfName 57 = .ok (.bipush (-4), 2) := by decide +kernel
theorem dX6_kindOfName_59 : decode cX6_kindOfName 59 = .ok (.ireturn, 1) := by decide +kernel
theorem dX6_isName_0 : decode cX6_isName 0 = .ok (.aload_n 0, 1) := by decide +kernel
theorem dX6_isName_1 : decode cX6_isName 1 = .ok (.getfield 32, 3) := by decide +kernel
theorem dX6_isName_4 : decode cX6_isName 4 = .ok (.aload_n 0, 1) := by decide +kernel
theorem dX6_isName_5 : decode cX6_isName 5 = .ok (.getfield 60, 3) := by decide +kernel
theorem dX6_isName_8 : decode cX6_isName 8 = .ok (.isub, 1) := by decide +kernel
theorem dX6_isName_9 : decode cX6_isName 9 = .ok (.aload_n 1, 1) := by decide +kernel
theorem dX6_isName_10 : decode cX6_isName 10 = .ok (.invokevirtual 90, 3) := by decide +kernel
theorem dX6_isName_13 : decode cX6_isName 13 = .ok (.if_icmp .eq 5, 3) := by decide +kernel
theorem dX6_isName_16 : decode cX6_isName 16 = .ok (.iconst 0, 1) := by decide +kernel
theorem dX6_isName_17 : decode cX6_isName 17 = .ok (.ireturn, 1) := by decide +kernel
theorem dX6_isName_18 : decode cX6_isName 18 = .ok (.iconst 0, 1) := by decide +kernel
theorem dX6_isName_19 : decode cX6_isName 19 = .ok (.istore_n 2, 1) := by decide +kernel
theorem dX6_isName_20 : decode cX6_isName 20 = .ok (.iload_n 2, 1) := by decide +kernel
theorem dX6_isName_21 : decode cX6_isName 21 = .ok (.aload_n 1, 1) := by decide +kernel
theorem dX6_isName_22 : decode cX6_isName 22 = .ok (.invokevirtual 90, 3) := by decide +kernel
theorem dX6_isName_25 : decode cX6_isName 25 = .ok (.if_icmp .ge 30, 3) := by decide +kernel
theorem dX6_isName_28 : decode cX6_isName 28 = .ok (.aload_n 0, 1) := by decide +kernel
theorem dX6_isName_29 : decode cX6_isName 29 = .ok (.getfield 9, 3) := by decide +kernel
theorem dX6_isName_32 : decode cX6_isName 32 = .ok (.aload_n 0, 1) := by decide +kernel
theorem dX6_isName_33 : decode cX6_isName 33 = .ok (.getfield 60, 3) := by decide +kernel
theorem dX6_isName_36 : decode cX6_isName 36 = .ok (.iload_n 2, 1) := by decide +kernel
theorem dX6_isName_37 : decode cX6_isName 37 = .ok (.iadd, 1) := by decide +kernel
theorem dX6_isName_38 : decode cX6_isName 38 = .ok (.iaload, 1) := by decide +kernel
theorem dX6_isName_39 : decode cX6_isName 39 = .ok (.aload_n 1, 1) := by decide +kernel
theorem dX6_isName_40 : decode cX6_isName 40 = .ok (.iload_n 2, 1) := by decide +kernel
theorem dX6_isName_41 : decode cX6_isName 41 = .ok (.invokevirtual 94, 3) := by decide +kernel
theorem dX6_isName_44 : decode cX6_isName 44 = .ok (.if_icmp .eq 5, 3) := by decide +kernel
theorem dX6_isName_47 : decode cX6_isName 47 = .ok (.iconst 0, 1) := by decide +kernel
theorem dX6_isName_48 : decode cX6_isName 48 = .ok (.ireturn, 1) := by decide +kernel
theorem dX6_isName_49 : decode cX6_isName 49 = .ok (.iinc 2 1, 3) := by decide +kernel
theorem dX6_isName_52 : decode cX6_isName 52 = .ok (.goto (-32), 3) := by decide +kernel
theorem dX6_isName_55 : decode cX6_isName 55 = .ok (.iconst 1, 1) := by decide +kernel
theorem dX6_isName_56 : decode cX6_isName 56 = .ok (.ireturn, 1) := by decide +kernel
theorem dX7_init_0 : decode cX7_init 0 = .ok (.aload_n 0, 1) := by decide +kernel
theorem dX7_init_1 : decode cX7_init 1 = .ok (.invokespecial 3, 3) := by decide +kernel
theorem dX7_init_4 : decode cX7_init 4 = .ok (.aload_n 0, 1) := by decide +kernel
theorem dX7_init_5 : decode cX7_init 5 = .ok (.bipush 64, 2) := by decide +kernel
theorem dX7_init_7 : decode cX7_init 7 = .ok (.newarray .int, 2) := by decide +kernel
theorem dX7_init_9 : decode cX7_init 9 = .ok (.putfield 9, 3) := by decide +kernel
theorem dX7_init_12 : decode cX7_init 12 = .ok (.aload_n 0, 1) := by decide +kernel
theorem dX7_init_13 : decode cX7_init 13 = .ok (.aload_n 1, 1) := by decide +kernel
theorem dX7_init_14 : decode cX7_init 14 = .ok (.putfield 15, 3) := by decide +kernel
theorem dX7_init_17 : decode cX7_init 17 = .ok (.return_, 1) := by decide +kernel
theorem dX7_open_0 : decode cX7_open 0 = .ok (.aload_n 0, 1) := by decide +kernel
theorem dX7_open_1 : decode cX7_open 1 = .ok (.iload_n 2, 1) := by decide +kernel
theorem dX7_open_2 : decode cX7_open 2 = .ok (.bipush 63, 2) := by decide +kernel
theorem dX7_open_4 : decode cX7_open 4 = .ok (.invokestatic 19, 3) := by decide +kernel
theorem dX7_open_7 : decode cX7_open 7 = .ok (.putfield 25, 3) := by decide +kernel
theorem dX7_open_10 : decode cX7_open 10 = .ok (.iconst 0, 1) := by decide +kernel
theorem dX7_open_11 : decode cX7_open 11 = .ok (.istore_n 3, 1) := by decide +kernel
theorem dX7_open_12 : decode cX7_open 12 = .ok (.iload_n 3, 1) := by decide +kernel
theorem dX7_open_13 : decode cX7_open 13 = .ok (.aload_n 0, 1) := by decide +kernel
theorem dX7_open_14 : decode cX7_open 14 = .ok (.getfield 25, 3) := by decide +kernel
theorem dX7_open_17 : decode cX7_open 17 = .ok (.if_icmp .gt 25, 3) := by decide +kernel
theorem dX7_open_20 : decode cX7_open 20 = .ok (.aload_n 0, 1) := by decide +kernel
theorem dX7_open_21 : decode cX7_open 21 = .ok (.getfield 9, 3) := by decide +kernel
theorem dX7_open_24 : decode cX7_open 24 = .ok (.iload_n 3, 1) := by decide +kernel
theorem dX7_open_25 : decode cX7_open 25 = .ok (.aload_n 0, 1) := by decide +kernel
theorem dX7_open_26 : decode cX7_open 26 = .ok (.getfield 15, 3) := by decide +kernel
theorem dX7_open_29 : decode cX7_open 29 = .ok (.iload_n 1, 1) := by decide +kernel
theorem dX7_open_30 : decode cX7_open 30 = .ok (.iload_n 3, 1) := by decide +kernel
theorem dX7_open_31 : decode cX7_open 31 = .ok (.iload_n 2, 1) := by decide +kernel
theorem dX7_open_32 : decode cX7_open 32 = .ok (.invokevirtual 29, 3) := by decide +kernel
theorem dX7_open_35 : decode cX7_open 35 = .ok (.iastore, 1) := by decide +kernel
theorem dX7_open_36 : decode cX7_open 36 = .ok (.iinc 3 1, 3) := by decide +kernel
theorem dX7_open_39 : decode cX7_open 39 = .ok (.goto (-27), 3) := by decide +kernel
theorem dX7_open_42 : decode cX7_open 42 = .ok (.return_, 1) := by decide +kernel
theorem dX7_foretell_0 : decode cX7_foretell 0 = .ok (.iload_n 1, 1) := by decide +kernel
theorem dX7_foretell_1 : decode cX7_foretell 1 = .ok (.tableswitch 62 0 3 #[31, 39, 45, 54], 31) := by decide +kernel
theorem dX7_foretell_32 : decode cX7_foretell 32 = .ok (.aload_n 0, 1) := by decide +kernel
theorem dX7_foretell_33 : decode cX7_foretell 33 = .ok (.iload_n 2, 1) := by decide +kernel
theorem dX7_foretell_34 : decode cX7_foretell 34 = .ok (.iload 4, 2) := by decide +kernel
theorem dX7_foretell_36 : decode cX7_foretell 36 = .ok (.invokevirtual 35, 3) := by decide +kernel
theorem dX7_foretell_39 : decode cX7_foretell 39 = .ok (.ireturn, 1) := by decide +kernel
theorem dX7_foretell_40 : decode cX7_foretell 40 = .ok (.aload_n 0, 1) := by decide +kernel
theorem dX7_foretell_41 : decode cX7_foretell 41 = .ok (.iload_n 2, 1) := by decide +kernel
theorem dX7_foretell_42 : decode cX7_foretell 42 = .ok (.invokevirtual 38, 3) := by decide +kernel
theorem dX7_foretell_45 : decode cX7_foretell 45 = .ok (.ireturn, 1) := by decide +kernel
theorem dX7_foretell_46 : decode cX7_foretell 46 = .ok (.aload_n 0, 1) := by decide +kernel
theorem dX7_foretell_47 : decode cX7_foretell 47 = .ok (.iload_n 2, 1) := by decide +kernel
theorem dX7_foretell_48 : decode cX7_foretell 48 = .ok (.iload_n 3, 1) := by decide +kernel
theorem dX7_foretell_49 : decode cX7_foretell 49 = .ok (.iload 4, 2) := by decide +kernel
theorem dX7_foretell_51 : decode cX7_foretell 51 = .ok (.invokevirtual 42, 3) := by decide +kernel
theorem dX7_foretell_54 : decode cX7_foretell 54 = .ok (.ireturn, 1) := by decide +kernel
theorem dX7_foretell_55 : decode cX7_foretell 55 = .ok (.aload_n 0, 1) := by decide +kernel
theorem dX7_foretell_56 : decode cX7_foretell 56 = .ok (.iload_n 2, 1) := by decide +kernel
theorem dX7_foretell_57 : decode cX7_foretell 57 = .ok (.iload 4, 2) := by decide +kernel
theorem dX7_foretell_59 : decode cX7_foretell 59 = .ok (.invokevirtual 45, 3) := by decide +kernel
theorem dX7_foretell_62 : decode cX7_foretell 62 = .ok (.ireturn, 1) := by decide +kernel
theorem dX7_foretell_63 : decode cX7_foretell 63 = .ok (.bipush (-4), 2) := by decide +kernel
theorem dX7_foretell_65 : decode cX7_foretell 65 = .ok (.ireturn, 1) := by decide +kernel
theorem dX7_bySame_0 : decode cX7_bySame 0 = .ok (.aload_n 0, 1) := by decide +kernel
theorem dX7_bySame_1 : decode cX7_bySame 1 = .ok (.getfield 25, 3) := by decide +kernel
theorem dX7_bySame_4 : decode cX7_bySame 4 = .ok (.iload_n 2, 1) := by decide +kernel
theorem dX7_bySame_5 : decode cX7_bySame 5 = .ok (.iadd, 1) := by decide +kernel
theorem dX7_bySame_6 : decode cX7_bySame 6 = .ok (.iload_n 1, 1) := by decide +kernel
theorem dX7_bySame_7 : decode cX7_bySame 7 = .ok (.isub, 1) := by decide +kernel
theorem dX7_bySame_8 : decode cX7_bySame 8 = .ok (.istore_n 3, 1) := by decide +kernel
theorem dX7_bySame_9 : decode cX7_bySame 9 = .ok (.iload_n 3, 1) := by decide +kernel
theorem dX7_bySame_10 : decode cX7_bySame 10 = .ok (.ifCond .lt 40, 3) := by decide +kernel
theorem dX7_bySame_13 : decode cX7_bySame 13 = .ok (.iload_n 1, 1) := by decide +kernel
theorem dX7_bySame_14 : decode cX7_bySame 14 = .ok (.ifCond .le 36, 3) := by decide +kernel
theorem dX7_bySame_17 : decode cX7_bySame 17 = .ok (.iload_n 3, 1) := by decide +kernel
theorem dX7_bySame_18 : decode cX7_bySame 18 = .ok (.aload_n 0, 1) := by decide +kernel
theorem dX7_bySame_19 : decode cX7_bySame 19 = .ok (.getfield 25, 3) := by decide +kernel
theorem dX7_bySame_22 : decode cX7_bySame 22 = .ok (.if_icmp .gt 21, 3) := by decide +kernel
theorem dX7_bySame_25 : decode cX7_bySame 25 = .ok (.aload_n 0, 1) := by decide +kernel
theorem dX7_bySame_26 : decode cX7_bySame 26 = .ok (.getfield 9, 3) := by decide +kernel
theorem dX7_bySame_29 : decode cX7_bySame 29 = .ok (.iload_n 3, 1) := by decide +kernel
theorem dX7_bySame_30 : decode cX7_bySame 30 = .ok (.iaload, 1) := by decide +kernel
theorem dX7_bySame_31 : decode cX7_bySame 31 = .ok (.bipush (-4), 2) := by decide +kernel
theorem dX7_bySame_33 : decode cX7_bySame 33 = .ok (.if_icmp .eq 10, 3) := by decide +kernel
theorem dX7_bySame_36 : decode cX7_bySame 36 = .ok (.aload_n 0, 1) := by decide +kernel
theorem dX7_bySame_37 : decode cX7_bySame 37 = .ok (.getfield 9, 3) := by decide +kernel
theorem dX7_bySame_40 : decode cX7_bySame 40 = .ok (.iload_n 3, 1) := by decide +kernel
theorem dX7_bySame_41 : decode cX7_bySame 41 = .ok (.iaload, 1) := by decide +kernel
theorem dX7_bySame_42 : decode cX7_bySame 42 = .ok (.ireturn, 1) := by decide +kernel
theorem dX7_bySame_43 : decode cX7_bySame 43 = .ok (.iload_n 3, 1) := by decide +kernel
theorem dX7_bySame_44 : decode cX7_bySame 44 = .ok (.iload_n 1, 1) := by decide +kernel
theorem dX7_bySame_45 : decode cX7_bySame 45 = .ok (.isub, 1) := by decide +kernel
theorem dX7_bySame_46 : decode cX7_bySame 46 = .ok (.istore_n 3, 1) := by decide +kernel
theorem dX7_bySame_47 : decode cX7_bySame 47 = .ok (.goto (-38), 3) := by decide +kernel
theorem dX7_bySame_50 : decode cX7_bySame 50 = .ok (.bipush (-4), 2) := by decide +kernel
theorem dX7_bySame_52 : decode cX7_bySame 52 = .ok (.ireturn, 1) := by decide +kernel
theorem dX7_byMean_0 : decode cX7_byMean 0 = .ok (.iconst 0, 1) := by decide +kernel
theorem dX7_byMean_1 : decode cX7_byMean 1 = .ok (.istore_n 2, 1) := by decide +kernel
theorem dX7_byMean_2 : decode cX7_byMean 2 = .ok (.iconst 0, 1) := by decide +kernel
theorem dX7_byMean_3 : decode cX7_byMean 3 = .ok (.istore_n 3, 1) := by decide +kernel
theorem dX7_byMean_4 : decode cX7_byMean 4 = .ok (.aload_n 0, 1) := by decide +kernel
theorem dX7_byMean_5 : decode cX7_byMean 5 = .ok (.getfield 25, 3) := by decide +kernel
theorem dX7_byMean_8 : decode cX7_byMean 8 = .ok (.istore 4, 2) := by decide +kernel
theorem dX7_byMean_10 : decode cX7_byMean 10 = .ok (.iload 4, 2) := by decide +kernel
theorem dX7_byMean_12 : decode cX7_byMean 12 = .ok (.ifCond .lt 39, 3) := by decide +kernel
theorem dX7_byMean_15 : decode cX7_byMean 15 = .ok (.iload_n 3, 1) := by decide +kernel
theorem dX7_byMean_16 : decode cX7_byMean 16 = .ok (.iload_n 1, 1) := by decide +kernel
theorem dX7_byMean_17 : decode cX7_byMean 17 = .ok (.if_icmp .ge 34, 3) := by decide +kernel
theorem dX7_byMean_20 : decode cX7_byMean 20 = .ok (.aload_n 0, 1) := by decide +kernel
theorem dX7_byMean_21 : decode cX7_byMean 21 = .ok (.getfield 9, 3) := by decide +kernel
theorem dX7_byMean_24 : decode cX7_byMean 24 = .ok (.iload 4, 2) := by decide +kernel
theorem dX7_byMean_26 : decode cX7_byMean 26 = .ok (.iaload, 1) := by decide +kernel
theorem dX7_byMean_27 : decode cX7_byMean 27 = .ok (.bipush (-4), 2) := by decide +kernel
theorem dX7_byMean_29 : decode cX7_byMean 29 = .ok (.if_icmp .eq 16, 3) := by decide +kernel
theorem dX7_byMean_32 : decode cX7_byMean 32 = .ok (.iload_n 2, 1) := by decide +kernel
theorem dX7_byMean_33 : decode cX7_byMean 33 = .ok (.aload_n 0, 1) := by decide +kernel
theorem dX7_byMean_34 : decode cX7_byMean 34 = .ok (.getfield 9, 3) := by decide +kernel
theorem dX7_byMean_37 : decode cX7_byMean 37 = .ok (.iload 4, 2) := by decide +kernel
theorem dX7_byMean_39 : decode cX7_byMean 39 = .ok (.iaload, 1) := by decide +kernel
theorem dX7_byMean_40 : decode cX7_byMean 40 = .ok (.iadd, 1) := by decide +kernel
theorem dX7_byMean_41 : decode cX7_byMean 41 = .ok (.istore_n 2, 1) := by decide +kernel
theorem dX7_byMean_42 : decode cX7_byMean 42 = .ok (.iinc 3 1, 3) := by decide +kernel
theorem dX7_byMean_45 : decode cX7_byMean 45 = .ok (.iinc 4 (-1), 3) := by decide +kernel
theorem dX7_byMean_48 : decode cX7_byMean 48 = .ok (.goto (-38), 3) := by decide +kernel
theorem dX7_byMean_51 : decode cX7_byMean 51 = .ok (.iload_n 3, 1) := by decide +kernel
theorem dX7_byMean_52 : decode cX7_byMean 52 = .ok (.iload_n 1, 1) := by decide +kernel
theorem dX7_byMean_53 : decode cX7_byMean 53 = .ok (.if_icmp .lt 7, 3) := by decide +kernel
theorem dX7_byMean_56 : decode cX7_byMean 56 = .ok (.iload_n 3, 1) := by decide +kernel
theorem dX7_byMean_57 : decode cX7_byMean 57 = .ok (.ifCond .ne 8, 3) := by decide +kernel
theorem dX7_byMean_60 : decode cX7_byMean 60 = .ok (.bipush (-4), 2) := by decide +kernel
theorem dX7_byMean_62 : decode cX7_byMean 62 = .ok (.goto 6, 3) := by decide +kernel
theorem dX7_byMean_65 : decode cX7_byMean 65 = .ok (.iload_n 2, 1) := by decide +kernel
theorem dX7_byMean_66 : decode cX7_byMean 66 = .ok (.iload_n 3, 1) := by decide +kernel
theorem dX7_byMean_67 : decode cX7_byMean 67 = .ok (.idiv, 1) := by decide +kernel
theorem dX7_byMean_68 : decode cX7_byMean 68 = .ok (.ireturn, 1) := by decide +kernel
theorem dX7_byStep_0 : decode cX7_byStep 0 = .ok (.lconst 0, 1) := by decide +kernel
theorem dX7_byStep_1 : decode cX7_byStep 1 = .ok (.lstore 4, 2) := by decide +kernel
theorem dX7_byStep_3 : decode cX7_byStep 3 = .ok (.lconst 0, 1) := by decide +kernel
theorem dX7_byStep_4 : decode cX7_byStep 4 = .ok (.lstore 6, 2) := by decide +kernel
theorem dX7_byStep_6 : decode cX7_byStep 6 = .ok (.iconst 0, 1) := by decide +kernel
theorem dX7_byStep_7 : decode cX7_byStep 7 = .ok (.istore 8, 2) := by decide +kernel
theorem dX7_byStep_9 : decode cX7_byStep 9 = .ok (.iconst 0, 1) := by decide +kernel
theorem dX7_byStep_10 : decode cX7_byStep 10 = .ok (.istore 9, 2) := by decide +kernel
theorem dX7_byStep_12 : decode cX7_byStep 12 = .ok (.iload 9, 2) := by decide +kernel
theorem dX7_byStep_14 : decode cX7_byStep 14 = .ok (.aload_n 0, 1) := by decide +kernel
theorem dX7_byStep_15 : decode cX7_byStep 15 = .ok (.getfield 25, 3) := by decide +kernel
theorem dX7_byStep_18 : decode cX7_byStep 18 = .ok (.if_icmp .gt 70, 3) := by decide +kernel
theorem dX7_byStep_21 : decode cX7_byStep 21 = .ok (.aload_n 0, 1) := by decide +kernel
theorem dX7_byStep_22 : decode cX7_byStep 22 = .ok (.getfield 9, 3) := by decide +kernel
theorem dX7_byStep_25 : decode cX7_byStep 25 = .ok (.iload 9, 2) := by decide +kernel
theorem dX7_byStep_27 : decode cX7_byStep 27 = .ok (.iaload, 1) := by decide +kernel
theorem dX7_byStep_28 : decode cX7_byStep 28 = .ok (.istore 10, 2) := by decide +kernel
theorem dX7_byStep_30 : decode cX7_byStep 30 = .ok (.lload 4, 2) := by decide +kernel
theorem dX7_byStep_32 : decode cX7_byStep 32 = .ok (.lstore 11, 2) := by decide +kernel
theorem dX7_byStep_34 : decode cX7_byStep 34 = .ok (.iload_n 1, 1) := by decide +kernel
theorem dX7_byStep_35 : decode cX7_byStep 35 = .ok (.iload 10, 2) := by decide +kernel
theorem dX7_byStep_37 : decode cX7_byStep 37 = .ok (.lload 4, 2) := by decide +kernel
theorem dX7_byStep_39 : decode cX7_byStep 39 = .ok (.lload 6, 2) := by decide +kernel
theorem dX7_byStep_41 : decode cX7_byStep 41 = .ok (.iload 8, 2) := by decide +kernel
theorem dX7_byStep_43 : decode cX7_byStep 43 = .ok (.invokestatic 48, 3) := by decide +kernel
theorem dX7_byStep_46 : decode cX7_byStep 46 = .ok (.lstore 4, 2) := by decide +kernel
theorem dX7_byStep_48 : decode cX7_byStep 48 = .ok (.iload_n 2, 1) := by decide +kernel
theorem dX7_byStep_49 : decode cX7_byStep 49 = .ok (.iload 10, 2) := by decide +kernel
theorem dX7_byStep_51 : decode cX7_byStep 51 = .ok (.lload 4, 2) := by decide +kernel
theorem dX7_byStep_53 : decode cX7_byStep 53 = .ok (.lload 11, 2) := by decide +kernel
theorem dX7_byStep_55 : decode cX7_byStep 55 = .ok (.lsub, 1) := by decide +kernel
theorem dX7_byStep_56 : decode cX7_byStep 56 = .ok (.lload 6, 2) := by decide +kernel
theorem dX7_byStep_58 : decode cX7_byStep 58 = .ok (.iload 8, 2) := by decide +kernel
theorem dX7_byStep_60 : decode cX7_byStep 60 = .ok (.invokestatic 52, 3) := by decide +kernel
theorem dX7_byStep_63 : decode cX7_byStep 63 = .ok (.lstore 6, 2) := by decide +kernel
theorem dX7_byStep_65 : decode cX7_byStep 65 = .ok (.iload 8, 2) := by decide +kernel
theorem dX7_byStep_67 : decode cX7_byStep 67 = .ok (.iload 10, 2) := by decide +kernel
theorem dX7_byStep_69 : decode cX7_byStep 69 = .ok (.bipush (-4), 2) := by decide +kernel
theorem dX7_byStep_71 : decode cX7_byStep 71 = .ok (.if_icmp .ne 7, 3) := by decide +kernel
theorem dX7_byStep_74 : decode cX7_byStep 74 = .ok (.iconst 0, 1) := by decide +kernel
theorem dX7_byStep_75 : decode cX7_byStep 75 = .ok (.goto 4, 3) := by decide +kernel
theorem dX7_byStep_78 : decode cX7_byStep 78 = .ok (.iconst 1, 1) := by decide +kernel
theorem dX7_byStep_79 : decode cX7_byStep 79 = .ok (.iadd, 1) := by decide +kernel
theorem dX7_byStep_80 : decode cX7_byStep 80 = .ok (.istore 8, 2) := by decide +kernel
theorem dX7_byStep_82 : decode cX7_byStep 82 = .ok (.iinc 9 1, 3) := by decide +kernel
theorem dX7_byStep_85 : decode cX7_byStep 85 = .ok (.goto (-73), 3) := by decide +kernel
theorem dX7_byStep_88 : decode cX7_byStep 88 = .ok (.iload 8, 2) := by decide +kernel
theorem dX7_byStep_90 : decode cX7_byStep 90 = .ok (.iconst 2, 1) := by decide +kernel
theorem dX7_byStep_91 : decode cX7_byStep 91 = .ok (.if_icmp .ge 8, 3) := by decide +kernel
theorem dX7_byStep_94 : decode cX7_byStep 94 = .ok (.bipush (-4), 2) := by decide +kernel
theorem dX7_byStep_96 : decode cX7_byStep 96 = .ok (.goto 11, 3) := by decide +kernel
theorem dX7_byStep_99 : decode cX7_byStep 99 = .ok (.lload 4, 2) := by decide +kernel
theorem dX7_byStep_101 : decode cX7_byStep 101 = .ok (.lload 6, 2) := by decide +kernel
theorem dX7_byStep_103 : decode cX7_byStep 103 = .ok (.iload_n 3, 1) := by decide +kernel
theorem dX7_byStep_104 : decode cX7_byStep 104 = .ok (.invokestatic 55, 3) := by decide +kernel
theorem dX7_byStep_107 : decode cX7_byStep 107 = .ok (.ireturn, 1) := by decide +kernel
