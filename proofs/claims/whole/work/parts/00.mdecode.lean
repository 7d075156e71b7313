theorem dm_in_0 : decode prog_12_method_3_code 0 = .ok (.lload_n 0, 1) := by decide +kernel
theorem dm_in_1 : decode prog_12_method_3_code 1 = .ok (.lload_n 2, 1) := by decide +kernel
theorem dm_in_2 : decode prog_12_method_3_code 2 = .ok (.lcmp, 1) := by decide +kernel
theorem dm_in_3 : decode prog_12_method_3_code 3 = .ok (.ifCond .lt 14, 3) := by decide +kernel
theorem dm_in_6 : decode prog_12_method_3_code 6 = .ok (.lload_n 0, 1) := by decide +kernel
theorem dm_in_7 : decode prog_12_method_3_code 7 = .ok (.lload 4, 2) := by decide +kernel
theorem dm_in_9 : decode prog_12_method_3_code 9 = .ok (.lcmp, 1) := by decide +kernel
theorem dm_in_10 : decode prog_12_method_3_code 10 = .ok (.ifCond .gt 7, 3) := by decide +kernel
theorem dm_in_13 : decode prog_12_method_3_code 13 = .ok (.iconst 1, 1) := by decide +kernel
theorem dm_in_14 : decode prog_12_method_3_code 14 = .ok (.goto 4, 3) := by decide +kernel
theorem dm_in_17 : decode prog_12_method_3_code 17 = .ok (.iconst 0, 1) := by decide +kernel
theorem dm_in_18 : decode prog_12_method_3_code 18 = .ok (.ireturn, 1) := by decide +kernel
theorem dm_bad_0 : decode prog_12_method_4_code 0 = .ok (.aload_n 0, 1) := by decide +kernel
theorem dm_bad_1 : decode prog_12_method_4_code 1 = .ok (.getfield 20, 3) := by decide +kernel
theorem dm_bad_4 : decode prog_12_method_4_code 4 = .ok (.iconst 0, 1) := by decide +kernel
theorem dm_bad_5 : decode prog_12_method_4_code 5 = .ok (.dup2, 1) := by decide +kernel
theorem dm_bad_6 : decode prog_12_method_4_code 6 = .ok (.iaload, 1) := by decide +kernel
theorem dm_bad_7 : decode prog_12_method_4_code 7 = .ok (.iconst 1, 1) := by decide +kernel
theorem dm_bad_8 : decode prog_12_method_4_code 8 = .ok (.iadd, 1) := by decide +kernel
theorem dm_bad_9 : decode prog_12_method_4_code 9 = .ok (.iastore, 1) := by decide +kernel
theorem dm_bad_10 : decode prog_12_method_4_code 10 = .ok (.iload_n 1, 1) := by decide +kernel
theorem dm_bad_11 : decode prog_12_method_4_code 11 = .ok (.ireturn, 1) := by decide +kernel
theorem dm_no_0 : decode prog_12_method_5_code 0 = .ok (.aload_n 0, 1) := by decide +kernel
theorem dm_no_1 : decode prog_12_method_5_code 1 = .ok (.getfield 20, 3) := by decide +kernel
theorem dm_no_4 : decode prog_12_method_5_code 4 = .ok (.iconst 1, 1) := by decide +kernel
theorem dm_no_5 : decode prog_12_method_5_code 5 = .ok (.dup2, 1) := by decide +kernel
theorem dm_no_6 : decode prog_12_method_5_code 6 = .ok (.iaload, 1) := by decide +kernel
theorem dm_no_7 : decode prog_12_method_5_code 7 = .ok (.iconst 1, 1) := by decide +kernel
theorem dm_no_8 : decode prog_12_method_5_code 8 = .ok (.iadd, 1) := by decide +kernel
theorem dm_no_9 : decode prog_12_method_5_code 9 = .ok (.iastore, 1) := by decide +kernel
theorem dm_no_10 : decode prog_12_method_5_code 10 = .ok (.bipush (-3), 2) := by decide +kernel
theorem dm_no_12 : decode prog_12_method_5_code 12 = .ok (.ireturn, 1) := by decide +kernel
theorem dm_full_0 : decode prog_12_method_6_code 0 = .ok (.aload_n 0, 1) := by decide +kernel
theorem dm_full_1 : decode prog_12_method_6_code 1 = .ok (.getfield 20, 3) := by decide +kernel
theorem dm_full_4 : decode prog_12_method_6_code 4 = .ok (.iconst 2, 1) := by decide +kernel
theorem dm_full_5 : decode prog_12_method_6_code 5 = .ok (.dup2, 1) := by decide +kernel
theorem dm_full_6 : decode prog_12_method_6_code 6 = .ok (.iaload, 1) := by decide +kernel
theorem dm_full_7 : decode prog_12_method_6_code 7 = .ok (.iconst 1, 1) := by decide +kernel
theorem dm_full_8 : decode prog_12_method_6_code 8 = .ok (.iadd, 1) := by decide +kernel
theorem dm_full_9 : decode prog_12_method_6_code 9 = .ok (.iastore, 1) := by decide +kernel
theorem dm_full_10 : decode prog_12_method_6_code 10 = .ok (.bipush (-4), 2) := by decide +kernel
theorem dm_full_12 : decode prog_12_method_6_code 12 = .ok (.ireturn, 1) := by decide +kernel
theorem dm_set_0 : decode prog_12_method_7_code 0 = .ok (.lload_n 2, 1) := by decide +kernel
theorem dm_set_1 : decode prog_12_method_7_code 1 = .ok (.lstore 4, 2) := by decide +kernel
theorem dm_set_3 : decode prog_12_method_7_code 3 = .ok (.aload_n 0, 1) := by decide +kernel
theorem dm_set_4 : decode prog_12_method_7_code 4 = .ok (.getfield 27, 3) := by decide +kernel
theorem dm_set_7 : decode prog_12_method_7_code 7 = .ok (.iload_n 1, 1) := by decide +kernel
theorem dm_set_8 : decode prog_12_method_7_code 8 = .ok (.iconst 0, 1) := by decide +kernel
theorem dm_set_9 : decode prog_12_method_7_code 9 = .ok (.iastore, 1) := by decide +kernel
theorem dm_set_10 : decode prog_12_method_7_code 10 = .ok (.lload 4, 2) := by decide +kernel
theorem dm_set_12 : decode prog_12_method_7_code 12 = .ok (.lconst 0, 1) := by decide +kernel
theorem dm_set_13 : decode prog_12_method_7_code 13 = .ok (.lcmp, 1) := by decide +kernel
theorem dm_set_14 : decode prog_12_method_7_code 14 = .ok (.ifCond .le 46, 3) := by decide +kernel
theorem dm_set_17 : decode prog_12_method_7_code 17 = .ok (.aload_n 0, 1) := by decide +kernel
theorem dm_set_18 : decode prog_12_method_7_code 18 = .ok (.getfield 23, 3) := by decide +kernel
theorem dm_set_21 : decode prog_12_method_7_code 21 = .ok (.bipush 64, 2) := by decide +kernel
theorem dm_set_23 : decode prog_12_method_7_code 23 = .ok (.iload_n 1, 1) := by decide +kernel
theorem dm_set_24 : decode prog_12_method_7_code 24 = .ok (.imul, 1) := by decide +kernel
theorem dm_set_25 : decode prog_12_method_7_code 25 = .ok (.aload_n 0, 1) := by decide +kernel
theorem dm_set_26 : decode prog_12_method_7_code 26 = .ok (.getfield 27, 3) := by decide +kernel
theorem dm_set_29 : decode prog_12_method_7_code 29 = .ok (.iload_n 1, 1) := by decide +kernel
theorem dm_set_30 : decode prog_12_method_7_code 30 = .ok (.iaload, 1) := by decide +kernel
theorem dm_set_31 : decode prog_12_method_7_code 31 = .ok (.iadd, 1) := by decide +kernel
theorem dm_set_32 : decode prog_12_method_7_code 32 = .ok (.lload 4, 2) := by decide +kernel
theorem dm_set_34 : decode prog_12_method_7_code 34 = .ok (.ldc2_w 76, 3) := by decide +kernel
theorem dm_set_37 : decode prog_12_method_7_code 37 = .ok (.lrem, 1) := by decide +kernel
theorem dm_set_38 : decode prog_12_method_7_code 38 = .ok (.lastore, 1) := by decide +kernel
theorem dm_set_39 : decode prog_12_method_7_code 39 = .ok (.lload 4, 2) := by decide +kernel
theorem dm_set_41 : decode prog_12_method_7_code 41 = .ok (.ldc2_w 76, 3) := by decide +kernel
theorem dm_set_44 : decode prog_12_method_7_code 44 = .ok (.ldiv, 1) := by decide +kernel
theorem dm_set_45 : decode prog_12_method_7_code 45 = .ok (.lstore 4, 2) := by decide +kernel
theorem dm_set_47 : decode prog_12_method_7_code 47 = .ok (.aload_n 0, 1) := by decide +kernel
theorem dm_set_48 : decode prog_12_method_7_code 48 = .ok (.getfield 27, 3) := by decide +kernel
theorem dm_set_51 : decode prog_12_method_7_code 51 = .ok (.iload_n 1, 1) := by decide +kernel
theorem dm_set_52 : decode prog_12_method_7_code 52 = .ok (.dup2, 1) := by decide +kernel
theorem dm_set_53 : decode prog_12_method_7_code 53 = .ok (.iaload, 1) := by decide +kernel
theorem dm_set_54 : decode prog_12_method_7_code 54 = .ok (.iconst 1, 1) := by decide +kernel
theorem dm_set_55 : decode prog_12_method_7_code 55 = .ok (.iadd, 1) := by decide +kernel
theorem dm_set_56 : decode prog_12_method_7_code 56 = .ok (.iastore, 1) := by decide +kernel
theorem dm_set_57 : decode prog_12_method_7_code 57 = .ok (.goto (-47), 3) := by decide +kernel
theorem dm_set_60 : decode prog_12_method_7_code 60 = .ok (.return_, 1) := by decide +kernel
theorem dm_copy_0 : decode prog_12_method_8_code 0 = .ok (.iconst 0, 1) := by decide +kernel
theorem dm_copy_1 : decode prog_12_method_8_code 1 = .ok (.istore_n 3, 1) := by decide +kernel
theorem dm_copy_2 : decode prog_12_method_8_code 2 = .ok (.iload_n 3, 1) := by decide +kernel
theorem dm_copy_3 : decode prog_12_method_8_code 3 = .ok (.aload_n 0, 1) := by decide +kernel
theorem dm_copy_4 : decode prog_12_method_8_code 4 = .ok (.getfield 27, 3) := by decide +kernel
theorem dm_copy_7 : decode prog_12_method_8_code 7 = .ok (.iload_n 2, 1) := by decide +kernel
theorem dm_copy_8 : decode prog_12_method_8_code 8 = .ok (.iaload, 1) := by decide +kernel
theorem dm_copy_9 : decode prog_12_method_8_code 9 = .ok (.if_icmp .ge 31, 3) := by decide +kernel
theorem dm_copy_12 : decode prog_12_method_8_code 12 = .ok (.aload_n 0, 1) := by decide +kernel
theorem dm_copy_13 : decode prog_12_method_8_code 13 = .ok (.getfield 23, 3) := by decide +kernel
theorem dm_copy_16 : decode prog_12_method_8_code 16 = .ok (.bipush 64, 2) := by decide +kernel
theorem dm_copy_18 : decode prog_12_method_8_code 18 = .ok (.iload_n 1, 1) := by decide +kernel
theorem dm_copy_19 : decode prog_12_method_8_code 19 = .ok (.imul, 1) := by decide +kernel
theorem dm_copy_20 : decode prog_12_method_8_code 20 = .ok (.iload_n 3, 1) := by decide +kernel
theorem dm_copy_21 : decode prog_12_method_8_code 21 = .ok (.iadd, 1) := by decide +kernel
theorem dm_copy_22 : decode prog_12_method_8_code 22 = .ok (.aload_n 0, 1) := by decide +kernel
theorem dm_copy_23 : decode prog_12_method_8_code 23 = .ok (.getfield 23, 3) := by decide +kernel
theorem dm_copy_26 : decode prog_12_method_8_code 26 = .ok (.bipush 64, 2) := by decide +kernel
theorem dm_copy_28 : decode prog_12_method_8_code 28 = .ok (.iload_n 2, 1) := by decide +kernel
theorem dm_copy_29 : decode prog_12_method_8_code 29 = .ok (.imul, 1) := by decide +kernel
theorem dm_copy_30 : decode prog_12_method_8_code 30 = .ok (.iload_n 3, 1) := by decide +kernel
theorem dm_copy_31 : decode prog_12_method_8_code 31 = .ok (.iadd, 1) := by decide +kernel
theorem dm_copy_32 : decode prog_12_method_8_code 32 = .ok (.laload, 1) := by decide +kernel
theorem dm_copy_33 : decode prog_12_method_8_code 33 = .ok (.lastore, 1) := by decide +kernel
theorem dm_copy_34 : decode prog_12_method_8_code 34 = .ok (.iinc 3 1, 3) := by decide +kernel
theorem dm_copy_37 : decode prog_12_method_8_code 37 = .ok (.goto (-35), 3) := by decide +kernel
theorem dm_copy_40 : decode prog_12_method_8_code 40 = .ok (.aload_n 0, 1) := by decide +kernel
theorem dm_copy_41 : decode prog_12_method_8_code 41 = .ok (.getfield 27, 3) := by decide +kernel
theorem dm_copy_44 : decode prog_12_method_8_code 44 = .ok (.iload_n 1, 1) := by decide +kernel
theorem dm_copy_45 : decode prog_12_method_8_code 45 = .ok (.aload_n 0, 1) := by decide +kernel
theorem dm_copy_46 : decode prog_12_method_8_code 46 = .ok (.getfield 27, 3) := by decide +kernel
theorem dm_copy_49 : decode prog_12_method_8_code 49 = .ok (.iload_n 2, 1) := by decide +kernel
theorem dm_copy_50 : decode prog_12_method_8_code 50 = .ok (.iaload, 1) := by decide +kernel
theorem dm_copy_51 : decode prog_12_method_8_code 51 = .ok (.iastore, 1) := by decide +kernel
theorem dm_copy_52 : decode prog_12_method_8_code 52 = .ok (.return_, 1) := by decide +kernel
theorem dm_trim_0 : decode prog_12_method_9_code 0 = .ok (.aload_n 0, 1) := by decide +kernel
theorem dm_trim_1 : decode prog_12_method_9_code 1 = .ok (.getfield 27, 3) := by decide +kernel
theorem dm_trim_4 : decode prog_12_method_9_code 4 = .ok (.iload_n 1, 1) := by decide +kernel
theorem dm_trim_5 : decode prog_12_method_9_code 5 = .ok (.iaload, 1) := by decide +kernel
theorem dm_trim_6 : decode prog_12_method_9_code 6 = .ok (.ifCond .le 39, 3) := by decide +kernel
theorem dm_trim_9 : decode prog_12_method_9_code 9 = .ok (.aload_n 0, 1) := by decide +kernel
theorem dm_trim_10 : decode prog_12_method_9_code 10 = .ok (.getfield 23, 3) := by decide +kernel
theorem dm_trim_13 : decode prog_12_method_9_code 13 = .ok (.bipush 64, 2) := by decide +kernel
theorem dm_trim_15 : decode prog_12_method_9_code 15 = .ok (.iload_n 1, 1) := by decide +kernel
theorem dm_trim_16 : decode prog_12_method_9_code 16 = .ok (.imul, 1) := by decide +kernel
theorem dm_trim_17 : decode prog_12_method_9_code 17 = .ok (.aload_n 0, 1) := by decide +kernel
theorem dm_trim_18 : decode prog_12_method_9_code 18 = .ok (.getfield 27, 3) := by decide +kernel
theorem dm_trim_21 : decode prog_12_method_9_code 21 = .ok (.iload_n 1, 1) := by decide +kernel
theorem dm_trim_22 : decode prog_12_method_9_code 22 = .ok (.iaload, 1) := by decide +kernel
theorem dm_trim_23 : decode prog_12_method_9_code 23 = .ok (.iadd, 1) := by decide +kernel
theorem dm_trim_24 : decode prog_12_method_9_code 24 = .ok (.iconst 1, 1) := by decide +kernel
theorem dm_trim_25 : decode prog_12_method_9_code 25 = .ok (.isub, 1) := by decide +kernel
theorem dm_trim_26 : decode prog_12_method_9_code 26 = .ok (.laload, 1) := by decide +kernel
theorem dm_trim_27 : decode prog_12_method_9_code 27 = .ok (.lconst 0, 1) := by decide +kernel
theorem dm_trim_28 : decode prog_12_method_9_code 28 = .ok (.lcmp, 1) := by decide +kernel
theorem dm_trim_29 : decode prog_12_method_9_code 29 = .ok (.ifCond .ne 16, 3) := by decide +kernel
theorem dm_trim_32 : decode prog_12_method_9_code 32 = .ok (.aload_n 0, 1) := by decide +kernel
theorem dm_trim_33 : decode prog_12_method_9_code 33 = .ok (.getfield 27, 3) := by decide +kernel
theorem dm_trim_36 : decode prog_12_method_9_code 36 = .ok (.iload_n 1, 1) := by decide +kernel
theorem dm_trim_37 : decode prog_12_method_9_code 37 = .ok (.dup2, 1) := by decide +kernel
theorem dm_trim_38 : decode prog_12_method_9_code 38 = .ok (.iaload, 1) := by decide +kernel
theorem dm_trim_39 : decode prog_12_method_9_code 39 = .ok (.iconst 1, 1) := by decide +kernel
theorem dm_trim_40 : decode prog_12_method_9_code 40 = .ok (.isub, 1) := by decide +kernel
theorem dm_trim_41 : decode prog_12_method_9_code 41 = .ok (.iastore, 1) := by decide +kernel
theorem dm_trim_42 : decode prog_12_method_9_code 42 = .ok (.goto (-42), 3) := by decide +kernel
theorem dm_trim_45 : decode prog_12_method_9_code 45 = .ok (.return_, 1) := by decide +kernel
theorem dm_times_0 : decode prog_12_method_10_code 0 = .ok (.lconst 0, 1) := by decide +kernel
theorem dm_times_1 : decode prog_12_method_10_code 1 = .ok (.lstore 4, 2) := by decide +kernel
theorem dm_times_3 : decode prog_12_method_10_code 3 = .ok (.iconst 0, 1) := by decide +kernel
theorem dm_times_4 : decode prog_12_method_10_code 4 = .ok (.istore 6, 2) := by decide +kernel
theorem dm_times_6 : decode prog_12_method_10_code 6 = .ok (.iload 6, 2) := by decide +kernel
theorem dm_times_8 : decode prog_12_method_10_code 8 = .ok (.aload_n 0, 1) := by decide +kernel
theorem dm_times_9 : decode prog_12_method_10_code 9 = .ok (.getfield 27, 3) := by decide +kernel
theorem dm_times_12 : decode prog_12_method_10_code 12 = .ok (.iload_n 1, 1) := by decide +kernel
theorem dm_times_13 : decode prog_12_method_10_code 13 = .ok (.iaload, 1) := by decide +kernel
theorem dm_times_14 : decode prog_12_method_10_code 14 = .ok (.if_icmp .ge 54, 3) := by decide +kernel
theorem dm_times_17 : decode prog_12_method_10_code 17 = .ok (.aload_n 0, 1) := by decide +kernel
theorem dm_times_18 : decode prog_12_method_10_code 18 = .ok (.getfield 23, 3) := by decide +kernel
theorem dm_times_21 : decode prog_12_method_10_code 21 = .ok (.bipush 64, 2) := by decide +kernel
theorem dm_times_23 : decode prog_12_method_10_code 23 = .ok (.iload_n 1, 1) := by decide +kernel
theorem dm_times_24 : decode prog_12_method_10_code 24 = .ok (.imul, 1) := by decide +kernel
theorem dm_times_25 : decode prog_12_method_10_code 25 = .ok (.iload 6, 2) := by decide +kernel
theorem dm_times_27 : decode prog_12_method_10_code 27 = .ok (.iadd, 1) := by decide +kernel
theorem dm_times_28 : decode prog_12_method_10_code 28 = .ok (.laload, 1) := by decide +kernel
theorem dm_times_29 : decode prog_12_method_10_code 29 = .ok (.lload_n 2, 1) := by decide +kernel
theorem dm_times_30 : decode prog_12_method_10_code 30 = .ok (.lmul, 1) := by decide +kernel
theorem dm_times_31 : decode prog_12_method_10_code 31 = .ok (.lload 4, 2) := by decide +kernel
theorem dm_times_33 : decode prog_12_method_10_code 33 = .ok (.ladd, 1) := by decide +kernel
theorem dm_times_34 : decode prog_12_method_10_code 34 = .ok (.lstore 7, 2) := by decide +kernel
theorem dm_times_36 : decode prog_12_method_10_code 36 = .ok (.aload_n 0, 1) := by decide +kernel
theorem dm_times_37 : decode prog_12_method_10_code 37 = .ok (.getfield 23, 3) := by decide +kernel
theorem dm_times_40 : decode prog_12_method_10_code 40 = .ok (.bipush 64, 2) := by decide +kernel
theorem dm_times_42 : decode prog_12_method_10_code 42 = .ok (.iload_n 1, 1) := by decide +kernel
theorem dm_times_43 : decode prog_12_method_10_code 43 = .ok (.imul, 1) := by decide +kernel
theorem dm_times_44 : decode prog_12_method_10_code 44 = .ok (.iload 6, 2) := by decide +kernel
theorem dm_times_46 : decode prog_12_method_10_code 46 = .ok (.iadd, 1) := by decide +kernel
theorem dm_times_47 : decode prog_12_method_10_code 47 = .ok (.lload 7, 2) := by decide +kernel
theorem dm_times_49 : decode prog_12_method_10_code 49 = .ok (.ldc2_w 76, 3) := by decide +kernel
theorem dm_times_52 : decode prog_12_method_10_code 52 = .ok (.lrem, 1) := by decide +kernel
theorem dm_times_53 : decode prog_12_method_10_code 53 = .ok (.lastore, 1) := by decide +kernel
theorem dm_times_54 : decode prog_12_method_10_code 54 = .ok (.lload 7, 2) := by decide +kernel
theorem dm_times_56 : decode prog_12_method_10_code 56 = .ok (.ldc2_w 76, 3) := by decide +kernel
theorem dm_times_59 : decode prog_12_method_10_code 59 = .ok (.ldiv, 1) := by decide +kernel
theorem dm_times_60 : decode prog_12_method_10_code 60 = .ok (.lstore 4, 2) := by decide +kernel
theorem dm_times_62 : decode prog_12_method_10_code 62 = .ok (.iinc 6 1, 3) := by decide +kernel
theorem dm_times_65 : decode prog_12_method_10_code 65 = .ok (.goto (-59), 3) := by decide +kernel
theorem dm_times_68 : decode prog_12_method_10_code 68 = .ok (.lload 4, 2) := by decide +kernel
theorem dm_times_70 : decode prog_12_method_10_code 70 = .ok (.lconst 0, 1) := by decide +kernel
theorem dm_times_71 : decode prog_12_method_10_code 71 = .ok (.lcmp, 1) := by decide +kernel
theorem dm_times_72 : decode prog_12_method_10_code 72 = .ok (.ifCond .le 31, 3) := by decide +kernel
theorem dm_times_75 : decode prog_12_method_10_code 75 = .ok (.aload_n 0, 1) := by decide +kernel
theorem dm_times_76 : decode prog_12_method_10_code 76 = .ok (.getfield 23, 3) := by decide +kernel
theorem dm_times_79 : decode prog_12_method_10_code 79 = .ok (.bipush 64, 2) := by decide +kernel
theorem dm_times_81 : decode prog_12_method_10_code 81 = .ok (.iload_n 1, 1) := by decide +kernel
theorem dm_times_82 : decode prog_12_method_10_code 82 = .ok (.imul, 1) := by decide +kernel
theorem dm_times_83 : decode prog_12_method_10_code 83 = .ok (.aload_n 0, 1) := by decide +kernel
theorem dm_times_84 : decode prog_12_method_10_code 84 = .ok (.getfield 27, 3) := by decide +kernel
theorem dm_times_87 : decode prog_12_method_10_code 87 = .ok (.iload_n 1, 1) := by decide +kernel
theorem dm_times_88 : decode prog_12_method_10_code 88 = .ok (.iaload, 1) := by decide +kernel
theorem dm_times_89 : decode prog_12_method_10_code 89 = .ok (.iadd, 1) := by decide +kernel
theorem dm_times_90 : decode prog_12_method_10_code 90 = .ok (.lload 4, 2) := by decide +kernel
theorem dm_times_92 : decode prog_12_method_10_code 92 = .ok (.lastore, 1) := by decide +kernel
theorem dm_times_93 : decode prog_12_method_10_code 93 = .ok (.aload_n 0, 1) := by decide +kernel
theorem dm_times_94 : decode prog_12_method_10_code 94 = .ok (.getfield 27, 3) := by decide +kernel
theorem dm_times_97 : decode prog_12_method_10_code 97 = .ok (.iload_n 1, 1) := by decide +kernel
theorem dm_times_98 : decode prog_12_method_10_code 98 = .ok (.dup2, 1) := by decide +kernel
theorem dm_times_99 : decode prog_12_method_10_code 99 = .ok (.iaload, 1) := by decide +kernel
theorem dm_times_100 : decode prog_12_method_10_code 100 = .ok (.iconst 1, 1) := by decide +kernel
theorem dm_times_101 : decode prog_12_method_10_code 101 = .ok (.iadd, 1) := by decide +kernel
theorem dm_times_102 : decode prog_12_method_10_code 102 = .ok (.iastore, 1) := by decide +kernel
theorem dm_times_103 : decode prog_12_method_10_code 103 = .ok (.aload_n 0, 1) := by decide +kernel
theorem dm_times_104 : decode prog_12_method_10_code 104 = .ok (.iload_n 1, 1) := by decide +kernel
theorem dm_times_105 : decode prog_12_method_10_code 105 = .ok (.invokevirtual 78, 3) := by decide +kernel
theorem dm_times_108 : decode prog_12_method_10_code 108 = .ok (.return_, 1) := by decide +kernel
theorem dm_compare_0 : decode prog_12_method_11_code 0 = .ok (.aload_n 0, 1) := by decide +kernel
theorem dm_compare_1 : decode prog_12_method_11_code 1 = .ok (.getfield 27, 3) := by decide +kernel
theorem dm_compare_4 : decode prog_12_method_11_code 4 = .ok (.iload_n 1, 1) := by decide +kernel
theorem dm_compare_5 : decode prog_12_method_11_code 5 = .ok (.iaload, 1) := by decide +kernel
theorem dm_compare_6 : decode prog_12_method_11_code 6 = .ok (.aload_n 0, 1) := by decide +kernel
theorem dm_compare_7 : decode prog_12_method_11_code 7 = .ok (.getfield 27, 3) := by decide +kernel
theorem dm_compare_10 : decode prog_12_method_11_code 10 = .ok (.iload_n 2, 1) := by decide +kernel
theorem dm_compare_11 : decode prog_12_method_11_code 11 = .ok (.iaload, 1) := by decide +kernel
theorem dm_compare_12 : decode prog_12_method_11_code 12 = .ok (.if_icmp .eq 24, 3) := by decide +kernel
theorem dm_compare_15 : decode prog_12_method_11_code 15 = .ok (.aload_n 0, 1) := by decide +kernel
theorem dm_compare_16 : decode prog_12_method_11_code 16 = .ok (.getfield 27, 3) := by decide +kernel
theorem dm_compare_19 : decode prog_12_method_11_code 19 = .ok (.iload_n 1, 1) := by decide +kernel
theorem dm_compare_20 : decode prog_12_method_11_code 20 = .ok (.iaload, 1) := by decide +kernel
theorem dm_compare_21 : decode prog_12_method_11_code 21 = .ok (.aload_n 0, 1) := by decide +kernel
theorem dm_compare_22 : decode prog_12_method_11_code 22 = .ok (.getfield 27, 3) := by decide +kernel
theorem dm_compare_25 : decode prog_12_method_11_code 25 = .ok (.iload_n 2, 1) := by decide +kernel
theorem dm_compare_26 : decode prog_12_method_11_code 26 = .ok (.iaload, 1) := by decide +kernel
theorem dm_compare_27 : decode prog_12_method_11_code 27 = .ok (.if_icmp .ge 7, 3) := by decide +kernel
theorem dm_compare_30 : decode prog_12_method_11_code 30 = .ok (.iconst (-1), 1) := by decide +kernel
theorem dm_compare_31 : decode prog_12_method_11_code 31 = .ok (.goto 4, 3) := by decide +kernel
theorem dm_compare_34 : decode prog_12_method_11_code 34 = .ok (.iconst 1, 1) := by decide +kernel
theorem dm_compare_35 : decode prog_12_method_11_code 35 = .ok (.ireturn, 1) := by decide +kernel
theorem dm_compare_36 : decode prog_12_method_11_code 36 = .ok (.aload_n 0, 1) := by decide +kernel
theorem dm_compare_37 : decode prog_12_method_11_code 37 = .ok (.getfield 27, 3) := by decide +kernel
theorem dm_compare_40 : decode prog_12_method_11_code 40 = .ok (.iload_n 1, 1) := by decide +kernel
theorem dm_compare_41 : decode prog_12_method_11_code 41 = .ok (.iaload, 1) := by decide +kernel
theorem dm_compare_42 : decode prog_12_method_11_code 42 = .ok (.iconst 1, 1) := by decide +kernel
theorem dm_compare_43 : decode prog_12_method_11_code 43 = .ok (.isub, 1) := by decide +kernel
theorem dm_compare_44 : decode prog_12_method_11_code 44 = .ok (.istore_n 3, 1) := by decide +kernel
theorem dm_compare_45 : decode prog_12_method_11_code 45 = .ok (.iload_n 3, 1) := by decide +kernel
theorem dm_compare_46 : decode prog_12_method_11_code 46 = .ok (.ifCond .lt 54, 3) := by decide +kernel
theorem dm_compare_49 : decode prog_12_method_11_code 49 = .ok (.aload_n 0, 1) := by decide +kernel
theorem dm_compare_50 : decode prog_12_method_11_code 50 = .ok (.getfield 23, 3) := by decide +kernel
theorem dm_compare_53 : decode prog_12_method_11_code 53 = .ok (.bipush 64, 2) := by decide +kernel
theorem dm_compare_55 : decode prog_12_method_11_code 55 = .ok (.iload_n 1, 1) := by decide +kernel
theorem dm_compare_56 : decode prog_12_method_11_code 56 = .ok (.imul, 1) := by decide +kernel
theorem dm_compare_57 : decode prog_12_method_11_code 57 = .ok (.iload_n 3, 1) := by decide +kernel
theorem dm_compare_58 : decode prog_12_method_11_code 58 = .ok (.iadd, 1) := by decide +kernel
theorem dm_compare_59 : decode prog_12_method_11_code 59 = .ok (.laload, 1) := by decide +kernel
theorem dm_compare_60 : decode prog_12_method_11_code 60 = .ok (.aload_n 0, 1) := by decide +kernel
theorem dm_compare_61 : decode prog_12_method_11_code 61 = .ok (.getfield 23, 3) := by decide +kernel
theorem dm_compare_64 : decode prog_12_method_11_code 64 = .ok (.bipush 64, 2) := by decide +kernel
theorem dm_compare_66 : decode prog_12_method_11_code 66 = .ok (.iload_n 2, 1) := by decide +kernel
theorem dm_compare_67 : decode prog_12_method_11_code 67 = .ok (.imul, 1) := by decide +kernel
theorem dm_compare_68 : decode prog_12_method_11_code 68 = .ok (.iload_n 3, 1) := by decide +kernel
theorem dm_compare_69 : decode prog_12_method_11_code 69 = .ok (.iadd, 1) := by decide +kernel
theorem dm_compare_70 : decode prog_12_method_11_code 70 = .ok (.laload, 1) := by decide +kernel
theorem dm_compare_71 : decode prog_12_method_11_code 71 = .ok (.lsub, 1) := by decide +kernel
theorem dm_compare_72 : decode prog_12_method_11_code 72 = .ok (.lstore 4, 2) := by decide +kernel
theorem dm_compare_74 : decode prog_12_method_11_code 74 = .ok (.lload 4, 2) := by decide +kernel
theorem dm_compare_76 : decode prog_12_method_11_code 76 = .ok (.lconst 0, 1) := by decide +kernel
theorem dm_compare_77 : decode prog_12_method_11_code 77 = .ok (.lcmp, 1) := by decide +kernel
theorem dm_compare_78 : decode prog_12_method_11_code 78 = .ok (.ifCond .eq 16, 3) := by decide +kernel
theorem dm_compare_81 : decode prog_12_method_11_code 81 = .ok (.lload 4, 2) := by decide +kernel
theorem dm_compare_83 : decode prog_12_method_11_code 83 = .ok (.lconst 0, 1) := by decide +kernel
theorem dm_compare_84 : decode prog_12_method_11_code 84 = .ok (.lcmp, 1) := by decide +kernel
theorem dm_compare_85 : decode prog_12_method_11_code 85 = .ok (.ifCond .ge 7, 3) := by decide +kernel
theorem dm_compare_88 : decode prog_12_method_11_code 88 = .ok (.iconst (-1), 1) := by decide +kernel
theorem dm_compare_89 : decode prog_12_method_11_code 89 = .ok (.goto 4, 3) := by decide +kernel
theorem dm_compare_92 : decode prog_12_method_11_code 92 = .ok (.iconst 1, 1) := by decide +kernel
theorem dm_compare_93 : decode prog_12_method_11_code 93 = .ok (.ireturn, 1) := by decide +kernel
theorem dm_compare_94 : decode prog_12_method_11_code 94 = .ok (.iinc 3 (-1), 3) := by decide +kernel
theorem dm_compare_97 : decode prog_12_method_11_code 97 = .ok (.goto (-52), 3) := by decide +kernel
theorem dm_compare_100 : decode prog_12_method_11_code 100 = .ok (.iconst 0, 1) := by decide +kernel
theorem dm_compare_101 : decode prog_12_method_11_code 101 = .ok (.ireturn, 1) := by decide +kernel
theorem dm_add_0 : decode prog_12_method_12_code 0 = .ok (.lconst 0, 1) := by decide +kernel
theorem dm_add_1 : decode prog_12_method_12_code 1 = .ok (.lstore_n 3, 1) := by decide +kernel
theorem dm_add_2 : decode prog_12_method_12_code 2 = .ok (.aload_n 0, 1) := by decide +kernel
theorem dm_add_3 : decode prog_12_method_12_code 3 = .ok (.getfield 27, 3) := by decide +kernel
theorem dm_add_6 : decode prog_12_method_12_code 6 = .ok (.iload_n 1, 1) := by decide +kernel
theorem dm_add_7 : decode prog_12_method_12_code 7 = .ok (.iaload, 1) := by decide +kernel
theorem dm_add_8 : decode prog_12_method_12_code 8 = .ok (.aload_n 0, 1) := by decide +kernel
theorem dm_add_9 : decode prog_12_method_12_code 9 = .ok (.getfield 27, 3) := by decide +kernel
theorem dm_add_12 : decode prog_12_method_12_code 12 = .ok (.iload_n 2, 1) := by decide +kernel
theorem dm_add_13 : decode prog_12_method_12_code 13 = .ok (.iaload, 1) := by decide +kernel
theorem dm_add_14 : decode prog_12_method_12_code 14 = .ok (.if_icmp .le 12, 3) := by decide +kernel
theorem dm_add_17 : decode prog_12_method_12_code 17 = .ok (.aload_n 0, 1) := by decide +kernel
theorem dm_add_18 : decode prog_12_method_12_code 18 = .ok (.getfield 27, 3) := by decide +kernel
theorem dm_add_21 : decode prog_12_method_12_code 21 = .ok (.iload_n 1, 1) := by decide +kernel
theorem dm_add_22 : decode prog_12_method_12_code 22 = .ok (.iaload, 1) := by decide +kernel
theorem dm_add_23 : decode prog_12_method_12_code 23 = .ok (.goto 9, 3) := by decide +kernel
theorem dm_add_26 : decode prog_12_method_12_code 26 = .ok (.aload_n 0, 1) := by decide +kernel
theorem dm_add_27 : decode prog_12_method_12_code 27 = .ok (.getfield 27, 3) := by decide +kernel
theorem dm_add_30 : decode prog_12_method_12_code 30 = .ok (.iload_n 2, 1) := by decide +kernel
theorem dm_add_31 : decode prog_12_method_12_code 31 = .ok (.iaload, 1) := by decide +kernel
theorem dm_add_32 : decode prog_12_method_12_code 32 = .ok (.istore 5, 2) := by decide +kernel
theorem dm_add_34 : decode prog_12_method_12_code 34 = .ok (.iconst 0, 1) := by decide +kernel
theorem dm_add_35 : decode prog_12_method_12_code 35 = .ok (.istore 6, 2) := by decide +kernel
theorem dm_add_37 : decode prog_12_method_12_code 37 = .ok (.iload 6, 2) := by decide +kernel
theorem dm_add_39 : decode prog_12_method_12_code 39 = .ok (.iload 5, 2) := by decide +kernel
theorem dm_add_41 : decode prog_12_method_12_code 41 = .ok (.if_icmp .ge 93, 3) := by decide +kernel
theorem dm_add_44 : decode prog_12_method_12_code 44 = .ok (.iload 6, 2) := by decide +kernel
theorem dm_add_46 : decode prog_12_method_12_code 46 = .ok (.aload_n 0, 1) := by decide +kernel
theorem dm_add_47 : decode prog_12_method_12_code 47 = .ok (.getfield 27, 3) := by decide +kernel
theorem dm_add_50 : decode prog_12_method_12_code 50 = .ok (.iload_n 1, 1) := by decide +kernel
theorem dm_add_51 : decode prog_12_method_12_code 51 = .ok (.iaload, 1) := by decide +kernel
theorem dm_add_52 : decode prog_12_method_12_code 52 = .ok (.if_icmp .ge 18, 3) := by decide +kernel
theorem dm_add_55 : decode prog_12_method_12_code 55 = .ok (.aload_n 0, 1) := by decide +kernel
theorem dm_add_56 : decode prog_12_method_12_code 56 = .ok (.getfield 23, 3) := by decide +kernel
theorem dm_add_59 : decode prog_12_method_12_code 59 = .ok (.bipush 64, 2) := by decide +kernel
theorem dm_add_61 : decode prog_12_method_12_code 61 = .ok (.iload_n 1, 1) := by decide +kernel
theorem dm_add_62 : decode prog_12_method_12_code 62 = .ok (.imul, 1) := by decide +kernel
theorem dm_add_63 : decode prog_12_method_12_code 63 = .ok (.iload 6, 2) := by decide +kernel
theorem dm_add_65 : decode prog_12_method_12_code 65 = .ok (.iadd, 1) := by decide +kernel
theorem dm_add_66 : decode prog_12_method_12_code 66 = .ok (.laload, 1) := by decide +kernel
theorem dm_add_67 : decode prog_12_method_12_code 67 = .ok (.goto 4, 3) := by decide +kernel
theorem dm_add_70 : decode prog_12_method_12_code 70 = .ok (.lconst 0, 1) := by decide +kernel
theorem dm_add_71 : decode prog_12_method_12_code 71 = .ok (.iload 6, 2) := by decide +kernel
theorem dm_add_73 : decode prog_12_method_12_code 73 = .ok (.aload_n 0, 1) := by decide +kernel
theorem dm_add_74 : decode prog_12_method_12_code 74 = .ok (.getfield 27, 3) := by decide +kernel
theorem dm_add_77 : decode prog_12_method_12_code 77 = .ok (.iload_n 2, 1) := by decide +kernel
theorem dm_add_78 : decode prog_12_method_12_code 78 = .ok (.iaload, 1) := by decide +kernel
theorem dm_add_79 : decode prog_12_method_12_code 79 = .ok (.if_icmp .ge 18, 3) := by decide +kernel
theorem dm_add_82 : decode prog_12_method_12_code 82 = .ok (.aload_n 0, 1) := by decide +kernel
theorem dm_add_83 : decode prog_12_method_12_code 83 = .ok (.getfield 23, 3) := by decide +kernel
theorem dm_add_86 : decode prog_12_method_12_code 86 = .ok (.bipush 64, 2) := by decide +kernel
theorem dm_add_88 : decode prog_12_method_12_code 88 = .ok (.iload_n 2, 1) := by decide +kernel
theorem dm_add_89 : decode prog_12_method_12_code 89 = .ok (.imul, 1) := by decide +kernel
theorem dm_add_90 : decode prog_12_method_12_code 90 = .ok (.iload 6, 2) := by decide +kernel
theorem dm_add_92 : decode prog_12_method_12_code 92 = .ok (.iadd, 1) := by decide +kernel
theorem dm_add_93 : decode prog_12_method_12_code 93 = .ok (.laload, 1) := by decide +kernel
theorem dm_add_94 : decode prog_12_method_12_code 94 = .ok (.goto 4, 3) := by decide +kernel
theorem dm_add_97 : decode prog_12_method_12_code 97 = .ok (.lconst 0, 1) := by decide +kernel
theorem dm_add_98 : decode prog_12_method_12_code 98 = .ok (.ladd, 1) := by decide +kernel
theorem dm_add_99 : decode prog_12_method_12_code 99 = .ok (.lload_n 3, 1) := by decide +kernel
theorem dm_add_100 : decode prog_12_method_12_code 100 = .ok (.ladd, 1) := by decide +kernel
theorem dm_add_101 : decode prog_12_method_12_code 101 = .ok (.lstore 7, 2) := by decide +kernel
theorem dm_add_103 : decode prog_12_method_12_code 103 = .ok (.aload_n 0, 1) := by decide +kernel
theorem dm_add_104 : decode prog_12_method_12_code 104 = .ok (.getfield 23, 3) := by decide +kernel
theorem dm_add_107 : decode prog_12_method_12_code 107 = .ok (.bipush 64, 2) := by decide +kernel
theorem dm_add_109 : decode prog_12_method_12_code 109 = .ok (.iload_n 1, 1) := by decide +kernel
theorem dm_add_110 : decode prog_12_method_12_code 110 = .ok (.imul, 1) := by decide +kernel
theorem dm_add_111 : decode prog_12_method_12_code 111 = .ok (.iload 6, 2) := by decide +kernel
theorem dm_add_113 : decode prog_12_method_12_code 113 = .ok (.iadd, 1) := by decide +kernel
theorem dm_add_114 : decode prog_12_method_12_code 114 = .ok (.lload 7, 2) := by decide +kernel
theorem dm_add_116 : decode prog_12_method_12_code 116 = .ok (.ldc2_w 76, 3) := by decide +kernel
theorem dm_add_119 : decode prog_12_method_12_code 119 = .ok (.lrem, 1) := by decide +kernel
theorem dm_add_120 : decode prog_12_method_12_code 120 = .ok (.lastore, 1) := by decide +kernel
theorem dm_add_121 : decode prog_12_method_12_code 121 = .ok (.lload 7, 2) := by decide +kernel
theorem dm_add_123 : decode prog_12_method_12_code 123 = .ok (.ldc2_w 76, 3) := by decide +kernel
theorem dm_add_126 : decode prog_12_method_12_code 126 = .ok (.ldiv, 1) := by decide +kernel
theorem dm_add_127 : decode prog_12_method_12_code 127 = .ok (.lstore_n 3, 1) := by decide +kernel
theorem dm_add_128 : decode prog_12_method_12_code 128 = .ok (.iinc 6 1, 3) := by decide +kernel
theorem dm_add_131 : decode prog_12_method_12_code 131 = .ok (.goto (-94), 3) := by decide +kernel
theorem dm_add_134 : decode prog_12_method_12_code 134 = .ok (.aload_n 0, 1) := by decide +kernel
theorem dm_add_135 : decode prog_12_method_12_code 135 = .ok (.getfield 23, 3) := by decide +kernel
theorem dm_add_138 : decode prog_12_method_12_code 138 = .ok (.bipush 64, 2) := by decide +kernel
theorem dm_add_140 : decode prog_12_method_12_code 140 = .ok (.iload_n 1, 1) := by decide +kernel
theorem dm_add_141 : decode prog_12_method_12_code 141 = .ok (.imul, 1) := by decide +kernel
theorem dm_add_142 : decode prog_12_method_12_code 142 = .ok (.iload 5, 2) := by decide +kernel
theorem dm_add_144 : decode prog_12_method_12_code 144 = .ok (.iadd, 1) := by decide +kernel
theorem dm_add_145 : decode prog_12_method_12_code 145 = .ok (.lload_n 3, 1) := by decide +kernel
theorem dm_add_146 : decode prog_12_method_12_code 146 = .ok (.lastore, 1) := by decide +kernel
theorem dm_add_147 : decode prog_12_method_12_code 147 = .ok (.aload_n 0, 1) := by decide +kernel
theorem dm_add_148 : decode prog_12_method_12_code 148 = .ok (.getfield 27, 3) := by decide +kernel
theorem dm_add_151 : decode prog_12_method_12_code 151 = .ok (.iload_n 1, 1) := by decide +kernel
theorem dm_add_152 : decode prog_12_method_12_code 152 = .ok (.iload 5, 2) := by decide +kernel
theorem dm_add_154 : decode prog_12_method_12_code 154 = .ok (.iconst 1, 1) := by decide +kernel
theorem dm_add_155 : decode prog_12_method_12_code 155 = .ok (.iadd, 1) := by decide +kernel
theorem dm_add_156 : decode prog_12_method_12_code 156 = .ok (.iastore, 1) := by decide +kernel
theorem dm_add_157 : decode prog_12_method_12_code 157 = .ok (.aload_n 0, 1) := by decide +kernel
theorem dm_add_158 : decode prog_12_method_12_code 158 = .ok (.iload_n 1, 1) := by decide +kernel
theorem dm_add_159 : decode prog_12_method_12_code 159 = .ok (.invokevirtual 78, 3) := by decide +kernel
theorem dm_add_162 : decode prog_12_method_12_code 162 = .ok (.return_, 1) := by decide +kernel
theorem dm_take_0 : decode prog_12_method_13_code 0 = .ok (.lconst 0, 1) := by decide +kernel
theorem dm_take_1 : decode prog_12_method_13_code 1 = .ok (.lstore_n 3, 1) := by decide +kernel
theorem dm_take_2 : decode prog_12_method_13_code 2 = .ok (.iconst 0, 1) := by decide +kernel
theorem dm_take_3 : decode prog_12_method_13_code 3 = .ok (.istore 5, 2) := by decide +kernel
theorem dm_take_5 : decode prog_12_method_13_code 5 = .ok (.iload 5, 2) := by decide +kernel
theorem dm_take_7 : decode prog_12_method_13_code 7 = .ok (.aload_n 0, 1) := by decide +kernel
theorem dm_take_8 : decode prog_12_method_13_code 8 = .ok (.getfield 27, 3) := by decide +kernel
theorem dm_take_11 : decode prog_12_method_13_code 11 = .ok (.iload_n 1, 1) := by decide +kernel
theorem dm_take_12 : decode prog_12_method_13_code 12 = .ok (.iaload, 1) := by decide +kernel
theorem dm_take_13 : decode prog_12_method_13_code 13 = .ok (.if_icmp .ge 86, 3) := by decide +kernel
theorem dm_take_16 : decode prog_12_method_13_code 16 = .ok (.aload_n 0, 1) := by decide +kernel
theorem dm_take_17 : decode prog_12_method_13_code 17 = .ok (.getfield 23, 3) := by decide +kernel
theorem dm_take_20 : decode prog_12_method_13_code 20 = .ok (.bipush 64, 2) := by decide +kernel
theorem dm_take_22 : decode prog_12_method_13_code 22 = .ok (.iload_n 1, 1) := by decide +kernel
theorem dm_take_23 : decode prog_12_method_13_code 23 = .ok (.imul, 1) := by decide +kernel
theorem dm_take_24 : decode prog_12_method_13_code 24 = .ok (.iload 5, 2) := by decide +kernel
theorem dm_take_26 : decode prog_12_method_13_code 26 = .ok (.iadd, 1) := by decide +kernel
theorem dm_take_27 : decode prog_12_method_13_code 27 = .ok (.laload, 1) := by decide +kernel
theorem dm_take_28 : decode prog_12_method_13_code 28 = .ok (.iload 5, 2) := by decide +kernel
theorem dm_take_30 : decode prog_12_method_13_code 30 = .ok (.aload_n 0, 1) := by decide +kernel
theorem dm_take_31 : decode prog_12_method_13_code 31 = .ok (.getfield 27, 3) := by decide +kernel
theorem dm_take_34 : decode prog_12_method_13_code 34 = .ok (.iload_n 2, 1) := by decide +kernel
theorem dm_take_35 : decode prog_12_method_13_code 35 = .ok (.iaload, 1) := by decide +kernel
theorem dm_take_36 : decode prog_12_method_13_code 36 = .ok (.if_icmp .ge 18, 3) := by decide +kernel
theorem dm_take_39 : decode prog_12_method_13_code 39 = .ok (.aload_n 0, 1) := by decide +kernel
theorem dm_take_40 : decode prog_12_method_13_code 40 = .ok (.getfield 23, 3) := by decide +kernel
theorem dm_take_43 : decode prog_12_method_13_code 43 = .ok (.bipush 64, 2) := by decide +kernel
theorem dm_take_45 : decode prog_12_method_13_code 45 = .ok (.iload_n 2, 1) := by decide +kernel
theorem dm_take_46 : decode prog_12_method_13_code 46 = .ok (.imul, 1) := by decide +kernel
theorem dm_take_47 : decode prog_12_method_13_code 47 = .ok (.iload 5, 2) := by decide +kernel
theorem dm_take_49 : decode prog_12_method_13_code 49 = .ok (.iadd, 1) := by decide +kernel
theorem dm_take_50 : decode prog_12_method_13_code 50 = .ok (.laload, 1) := by decide +kernel
theorem dm_take_51 : decode prog_12_method_13_code 51 = .ok (.goto 4, 3) := by decide +kernel
theorem dm_take_54 : decode prog_12_method_13_code 54 = .ok (.lconst 0, 1) := by decide +kernel
theorem dm_take_55 : decode prog_12_method_13_code 55 = .ok (.lsub, 1) := by decide +kernel
theorem dm_take_56 : decode prog_12_method_13_code 56 = .ok (.lload_n 3, 1) := by decide +kernel
theorem dm_take_57 : decode prog_12_method_13_code 57 = .ok (.lsub, 1) := by decide +kernel
theorem dm_take_58 : decode prog_12_method_13_code 58 = .ok (.lstore 6, 2) := by decide +kernel
theorem dm_take_60 : decode prog_12_method_13_code 60 = .ok (.lload 6, 2) := by decide +kernel
theorem dm_take_62 : decode prog_12_method_13_code 62 = .ok (.lconst 0, 1) := by decide +kernel
theorem dm_take_63 : decode prog_12_method_13_code 63 = .ok (.lcmp, 1) := by decide +kernel
theorem dm_take_64 : decode prog_12_method_13_code 64 = .ok (.ifCond .ge 7, 3) := by decide +kernel
theorem dm_take_67 : decode prog_12_method_13_code 67 = .ok (.lconst 1, 1) := by decide +kernel
theorem dm_take_68 : decode prog_12_method_13_code 68 = .ok (.goto 4, 3) := by decide +kernel
theorem dm_take_71 : decode prog_12_method_13_code 71 = .ok (.lconst 0, 1) := by decide +kernel
theorem dm_take_72 : decode prog_12_method_13_code 72 = .ok (.lstore_n 3, 1) := by decide +kernel
theorem dm_take_73 : decode prog_12_method_13_code 73 = .ok (.aload_n 0, 1) := by decide +kernel
theorem dm_take_74 : decode prog_12_method_13_code 74 = .ok (.getfield 23, 3) := by decide +kernel
theorem dm_take_77 : decode prog_12_method_13_code 77 = .ok (.bipush 64, 2) := by decide +kernel
theorem dm_take_79 : decode prog_12_method_13_code 79 = .ok (.iload_n 1, 1) := by decide +kernel
theorem dm_take_80 : decode prog_12_method_13_code 80 = .ok (.imul, 1) := by decide +kernel
theorem dm_take_81 : decode prog_12_method_13_code 81 = .ok (.iload 5, 2) := by decide +kernel
theorem dm_take_83 : decode prog_12_method_13_code 83 = .ok (.iadd, 1) := by decide +kernel
theorem dm_take_84 : decode prog_12_method_13_code 84 = .ok (.lload 6, 2) := by decide +kernel
theorem dm_take_86 : decode prog_12_method_13_code 86 = .ok (.lload_n 3, 1) := by decide +kernel
theorem dm_take_87 : decode prog_12_method_13_code 87 = .ok (.ldc2_w 76, 3) := by decide +kernel
theorem dm_take_90 : decode prog_12_method_13_code 90 = .ok (.lmul, 1) := by decide +kernel
theorem dm_take_91 : decode prog_12_method_13_code 91 = .ok (.ladd, 1) := by decide +kernel
theorem dm_take_92 : decode prog_12_method_13_code 92 = .ok (.lastore, 1) := by decide +kernel
theorem dm_take_93 : decode prog_12_method_13_code 93 = .ok (.iinc 5 1, 3) := by decide +kernel
theorem dm_take_96 : decode prog_12_method_13_code 96 = .ok (.goto (-91), 3) := by decide +kernel
theorem dm_take_99 : decode prog_12_method_13_code 99 = .ok (.aload_n 0, 1) := by decide +kernel
theorem dm_take_100 : decode prog_12_method_13_code 100 = .ok (.iload_n 1, 1) := by decide +kernel
theorem dm_take_101 : decode prog_12_method_13_code 101 = .ok (.invokevirtual 78, 3) := by decide +kernel
theorem dm_take_104 : decode prog_12_method_13_code 104 = .ok (.return_, 1) := by decide +kernel
theorem dm_halve_0 : decode prog_12_method_14_code 0 = .ok (.lconst 0, 1) := by decide +kernel
theorem dm_halve_1 : decode prog_12_method_14_code 1 = .ok (.lstore_n 2, 1) := by decide +kernel
theorem dm_halve_2 : decode prog_12_method_14_code 2 = .ok (.aload_n 0, 1) := by decide +kernel
theorem dm_halve_3 : decode prog_12_method_14_code 3 = .ok (.getfield 27, 3) := by decide +kernel
theorem dm_halve_6 : decode prog_12_method_14_code 6 = .ok (.iload_n 1, 1) := by decide +kernel
theorem dm_halve_7 : decode prog_12_method_14_code 7 = .ok (.iaload, 1) := by decide +kernel
theorem dm_halve_8 : decode prog_12_method_14_code 8 = .ok (.iconst 1, 1) := by decide +kernel
theorem dm_halve_9 : decode prog_12_method_14_code 9 = .ok (.isub, 1) := by decide +kernel
theorem dm_halve_10 : decode prog_12_method_14_code 10 = .ok (.istore 4, 2) := by decide +kernel
theorem dm_halve_12 : decode prog_12_method_14_code 12 = .ok (.iload 4, 2) := by decide +kernel
theorem dm_halve_14 : decode prog_12_method_14_code 14 = .ok (.ifCond .lt 54, 3) := by decide +kernel
theorem dm_halve_17 : decode prog_12_method_14_code 17 = .ok (.aload_n 0, 1) := by decide +kernel
theorem dm_halve_18 : decode prog_12_method_14_code 18 = .ok (.getfield 23, 3) := by decide +kernel
theorem dm_halve_21 : decode prog_12_method_14_code 21 = .ok (.bipush 64, 2) := by decide +kernel
theorem dm_halve_23 : decode prog_12_method_14_code 23 = .ok (.iload_n 1, 1) := by decide +kernel
theorem dm_halve_24 : decode prog_12_method_14_code 24 = .ok (.imul, 1) := by decide +kernel
theorem dm_halve_25 : decode prog_12_method_14_code 25 = .ok (.iload 4, 2) := by decide +kernel
theorem dm_halve_27 : decode prog_12_method_14_code 27 = .ok (.iadd, 1) := by decide +kernel
theorem dm_halve_28 : decode prog_12_method_14_code 28 = .ok (.laload, 1) := by decide +kernel
theorem dm_halve_29 : decode prog_12_method_14_code 29 = .ok (.lload_n 2, 1) := by decide +kernel
theorem dm_halve_30 : decode prog_12_method_14_code 30 = .ok (.ldc2_w 76, 3) := by decide +kernel
theorem dm_halve_33 : decode prog_12_method_14_code 33 = .ok (.lmul, 1) := by decide +kernel
theorem dm_halve_34 : decode prog_12_method_14_code 34 = .ok (.ladd, 1) := by decide +kernel
theorem dm_halve_35 : decode prog_12_method_14_code 35 = .ok (.lstore 5, 2) := by decide +kernel
theorem dm_halve_37 : decode prog_12_method_14_code 37 = .ok (.aload_n 0, 1) := by decide +kernel
theorem dm_halve_38 : decode prog_12_method_14_code 38 = .ok (.getfield 23, 3) := by decide +kernel
theorem dm_halve_41 : decode prog_12_method_14_code 41 = .ok (.bipush 64, 2) := by decide +kernel
theorem dm_halve_43 : decode prog_12_method_14_code 43 = .ok (.iload_n 1, 1) := by decide +kernel
theorem dm_halve_44 : decode prog_12_method_14_code 44 = .ok (.imul, 1) := by decide +kernel
theorem dm_halve_45 : decode prog_12_method_14_code 45 = .ok (.iload 4, 2) := by decide +kernel
theorem dm_halve_47 : decode prog_12_method_14_code 47 = .ok (.iadd, 1) := by decide +kernel
theorem dm_halve_48 : decode prog_12_method_14_code 48 = .ok (.lload 5, 2) := by decide +kernel
theorem dm_halve_50 : decode prog_12_method_14_code 50 = .ok (.ldc2_w 82, 3) := by decide +kernel
theorem dm_halve_53 : decode prog_12_method_14_code 53 = .ok (.ldiv, 1) := by decide +kernel
theorem dm_halve_54 : decode prog_12_method_14_code 54 = .ok (.lastore, 1) := by decide +kernel
theorem dm_halve_55 : decode prog_12_method_14_code 55 = .ok (.lload 5, 2) := by decide +kernel
theorem dm_halve_57 : decode prog_12_method_14_code 57 = .ok (.ldc2_w 82, 3) := by decide +kernel
theorem dm_halve_60 : decode prog_12_method_14_code 60 = .ok (.lrem, 1) := by decide +kernel
theorem dm_halve_61 : decode prog_12_method_14_code 61 = .ok (.lstore_n 2, 1) := by decide +kernel
theorem dm_halve_62 : decode prog_12_method_14_code 62 = .ok (.iinc 4 (-1), 3) := by decide +kernel
theorem dm_halve_65 : decode prog_12_method_14_code 65 = .ok (.goto (-53), 3) := by decide +kernel
theorem dm_halve_68 : decode prog_12_method_14_code 68 = .ok (.aload_n 0, 1) := by decide +kernel
theorem dm_halve_69 : decode prog_12_method_14_code 69 = .ok (.iload_n 1, 1) := by decide +kernel
theorem dm_halve_70 : decode prog_12_method_14_code 70 = .ok (.invokevirtual 78, 3) := by decide +kernel
theorem dm_halve_73 : decode prog_12_method_14_code 73 = .ok (.return_, 1) := by decide +kernel
theorem dm_isEven_0 : decode prog_12_method_15_code 0 = .ok (.aload_n 0, 1) := by decide +kernel
theorem dm_isEven_1 : decode prog_12_method_15_code 1 = .ok (.getfield 27, 3) := by decide +kernel
theorem dm_isEven_4 : decode prog_12_method_15_code 4 = .ok (.iload_n 1, 1) := by decide +kernel
theorem dm_isEven_5 : decode prog_12_method_15_code 5 = .ok (.iaload, 1) := by decide +kernel
theorem dm_isEven_6 : decode prog_12_method_15_code 6 = .ok (.ifCond .eq 21, 3) := by decide +kernel
theorem dm_isEven_9 : decode prog_12_method_15_code 9 = .ok (.aload_n 0, 1) := by decide +kernel
theorem dm_isEven_10 : decode prog_12_method_15_code 10 = .ok (.getfield 23, 3) := by decide +kernel
theorem dm_isEven_13 : decode prog_12_method_15_code 13 = .ok (.bipush 64, 2) := by decide +kernel
theorem dm_isEven_15 : decode prog_12_method_15_code 15 = .ok (.iload_n 1, 1) := by decide +kernel
theorem dm_isEven_16 : decode prog_12_method_15_code 16 = .ok (.imul, 1) := by decide +kernel
theorem dm_isEven_17 : decode prog_12_method_15_code 17 = .ok (.laload, 1) := by decide +kernel
theorem dm_isEven_18 : decode prog_12_method_15_code 18 = .ok (.ldc2_w 82, 3) := by decide +kernel
theorem dm_isEven_21 : decode prog_12_method_15_code 21 = .ok (.lrem, 1) := by decide +kernel
theorem dm_isEven_22 : decode prog_12_method_15_code 22 = .ok (.lconst 0, 1) := by decide +kernel
theorem dm_isEven_23 : decode prog_12_method_15_code 23 = .ok (.lcmp, 1) := by decide +kernel
theorem dm_isEven_24 : decode prog_12_method_15_code 24 = .ok (.ifCond .ne 7, 3) := by decide +kernel
theorem dm_isEven_27 : decode prog_12_method_15_code 27 = .ok (.iconst 1, 1) := by decide +kernel
theorem dm_isEven_28 : decode prog_12_method_15_code 28 = .ok (.goto 4, 3) := by decide +kernel
theorem dm_isEven_31 : decode prog_12_method_15_code 31 = .ok (.iconst 0, 1) := by decide +kernel
theorem dm_isEven_32 : decode prog_12_method_15_code 32 = .ok (.ireturn, 1) := by decide +kernel
theorem dm_findDivisor_0 : decode prog_12_method_16_code 0 = .ok (.aload_n 0, 1) := by decide +kernel
theorem dm_findDivisor_1 : decode prog_12_method_16_code 1 = .ok (.iconst 4, 1) := by decide +kernel
theorem dm_findDivisor_2 : decode prog_12_method_16_code 2 = .ok (.iload_n 1, 1) := by decide +kernel
theorem dm_findDivisor_3 : decode prog_12_method_16_code 3 = .ok (.invokevirtual 84, 3) := by decide +kernel
theorem dm_findDivisor_6 : decode prog_12_method_16_code 6 = .ok (.aload_n 0, 1) := by decide +kernel
theorem dm_findDivisor_7 : decode prog_12_method_16_code 7 = .ok (.iconst 5, 1) := by decide +kernel
theorem dm_findDivisor_8 : decode prog_12_method_16_code 8 = .ok (.iload_n 2, 1) := by decide +kernel
theorem dm_findDivisor_9 : decode prog_12_method_16_code 9 = .ok (.invokevirtual 84, 3) := by decide +kernel
theorem dm_findDivisor_12 : decode prog_12_method_16_code 12 = .ok (.iconst 0, 1) := by decide +kernel
theorem dm_findDivisor_13 : decode prog_12_method_16_code 13 = .ok (.istore_n 3, 1) := by decide +kernel
theorem dm_findDivisor_14 : decode prog_12_method_16_code 14 = .ok (.aload_n 0, 1) := by decide +kernel
theorem dm_findDivisor_15 : decode prog_12_method_16_code 15 = .ok (.iconst 4, 1) := by decide +kernel
theorem dm_findDivisor_16 : decode prog_12_method_16_code 16 = .ok (.invokevirtual 88, 3) := by decide +kernel
theorem dm_findDivisor_19 : decode prog_12_method_16_code 19 = .ok (.ifCond .eq 27, 3) := by decide +kernel
theorem dm_findDivisor_22 : decode prog_12_method_16_code 22 = .ok (.aload_n 0, 1) := by decide +kernel
theorem dm_findDivisor_23 : decode prog_12_method_16_code 23 = .ok (.iconst 5, 1) := by decide +kernel
theorem dm_findDivisor_24 : decode prog_12_method_16_code 24 = .ok (.invokevirtual 88, 3) := by decide +kernel
theorem dm_findDivisor_27 : decode prog_12_method_16_code 27 = .ok (.ifCond .eq 19, 3) := by decide +kernel
theorem dm_findDivisor_30 : decode prog_12_method_16_code 30 = .ok (.aload_n 0, 1) := by decide +kernel
theorem dm_findDivisor_31 : decode prog_12_method_16_code 31 = .ok (.iconst 4, 1) := by decide +kernel
theorem dm_findDivisor_32 : decode prog_12_method_16_code 32 = .ok (.invokevirtual 92, 3) := by decide +kernel
theorem dm_findDivisor_35 : decode prog_12_method_16_code 35 = .ok (.aload_n 0, 1) := by decide +kernel
theorem dm_findDivisor_36 : decode prog_12_method_16_code 36 = .ok (.iconst 5, 1) := by decide +kernel
theorem dm_findDivisor_37 : decode prog_12_method_16_code 37 = .ok (.invokevirtual 92, 3) := by decide +kernel
theorem dm_findDivisor_40 : decode prog_12_method_16_code 40 = .ok (.iinc 3 1, 3) := by decide +kernel
theorem dm_findDivisor_43 : decode prog_12_method_16_code 43 = .ok (.goto (-29), 3) := by decide +kernel
theorem dm_findDivisor_46 : decode prog_12_method_16_code 46 = .ok (.aload_n 0, 1) := by decide +kernel
theorem dm_findDivisor_47 : decode prog_12_method_16_code 47 = .ok (.getfield 27, 3) := by decide +kernel
theorem dm_findDivisor_50 : decode prog_12_method_16_code 50 = .ok (.iconst 5, 1) := by decide +kernel
theorem dm_findDivisor_51 : decode prog_12_method_16_code 51 = .ok (.iaload, 1) := by decide +kernel
theorem dm_findDivisor_52 : decode prog_12_method_16_code 52 = .ok (.ifCond .le 73, 3) := by decide +kernel
theorem dm_findDivisor_55 : decode prog_12_method_16_code 55 = .ok (.aload_n 0, 1) := by decide +kernel
theorem dm_findDivisor_56 : decode prog_12_method_16_code 56 = .ok (.iconst 4, 1) := by decide +kernel
theorem dm_findDivisor_57 : decode prog_12_method_16_code 57 = .ok (.invokevirtual 88, 3) := by decide +kernel
theorem dm_findDivisor_60 : decode prog_12_method_16_code 60 = .ok (.ifCond .eq 11, 3) := by decide +kernel
theorem dm_findDivisor_63 : decode prog_12_method_16_code 63 = .ok (.aload_n 0, 1) := by decide +kernel
theorem dm_findDivisor_64 : decode prog_12_method_16_code 64 = .ok (.iconst 4, 1) := by decide +kernel
theorem dm_findDivisor_65 : decode prog_12_method_16_code 65 = .ok (.invokevirtual 92, 3) := by decide +kernel
theorem dm_findDivisor_68 : decode prog_12_method_16_code 68 = .ok (.goto (-13), 3) := by decide +kernel
theorem dm_findDivisor_71 : decode prog_12_method_16_code 71 = .ok (.aload_n 0, 1) := by decide +kernel
theorem dm_findDivisor_72 : decode prog_12_method_16_code 72 = .ok (.iconst 5, 1) := by decide +kernel
theorem dm_findDivisor_73 : decode prog_12_method_16_code 73 = .ok (.invokevirtual 88, 3) := by decide +kernel
theorem dm_findDivisor_76 : decode prog_12_method_16_code 76 = .ok (.ifCond .eq 11, 3) := by decide +kernel
theorem dm_findDivisor_79 : decode prog_12_method_16_code 79 = .ok (.aload_n 0, 1) := by decide +kernel
theorem dm_findDivisor_80 : decode prog_12_method_16_code 80 = .ok (.iconst 5, 1) := by decide +kernel
theorem dm_findDivisor_81 : decode prog_12_method_16_code 81 = .ok (.invokevirtual 92, 3) := by decide +kernel
theorem dm_findDivisor_84 : decode prog_12_method_16_code 84 = .ok (.goto (-13), 3) := by decide +kernel
theorem dm_findDivisor_87 : decode prog_12_method_16_code 87 = .ok (.aload_n 0, 1) := by decide +kernel
theorem dm_findDivisor_88 : decode prog_12_method_16_code 88 = .ok (.iconst 4, 1) := by decide +kernel
theorem dm_findDivisor_89 : decode prog_12_method_16_code 89 = .ok (.iconst 5, 1) := by decide +kernel
theorem dm_findDivisor_90 : decode prog_12_method_16_code 90 = .ok (.invokevirtual 95, 3) := by decide +kernel
theorem dm_findDivisor_93 : decode prog_12_method_16_code 93 = .ok (.ifCond .le 23, 3) := by decide +kernel
theorem dm_findDivisor_96 : decode prog_12_method_16_code 96 = .ok (.aload_n 0, 1) := by decide +kernel
theorem dm_findDivisor_97 : decode prog_12_method_16_code 97 = .ok (.bipush 6, 2) := by decide +kernel
theorem dm_findDivisor_99 : decode prog_12_method_16_code 99 = .ok (.iconst 4, 1) := by decide +kernel
theorem dm_findDivisor_100 : decode prog_12_method_16_code 100 = .ok (.invokevirtual 84, 3) := by decide +kernel
theorem dm_findDivisor_103 : decode prog_12_method_16_code 103 = .ok (.aload_n 0, 1) := by decide +kernel
theorem dm_findDivisor_104 : decode prog_12_method_16_code 104 = .ok (.iconst 4, 1) := by decide +kernel
theorem dm_findDivisor_105 : decode prog_12_method_16_code 105 = .ok (.iconst 5, 1) := by decide +kernel
theorem dm_findDivisor_106 : decode prog_12_method_16_code 106 = .ok (.invokevirtual 84, 3) := by decide +kernel
theorem dm_findDivisor_109 : decode prog_12_method_16_code 109 = .ok (.aload_n 0, 1) := by decide +kernel
theorem dm_findDivisor_110 : decode prog_12_method_16_code 110 = .ok (.iconst 5, 1) := by decide +kernel
theorem dm_findDivisor_111 : decode prog_12_method_16_code 111 = .ok (.bipush 6, 2) := by decide +kernel
theorem dm_findDivisor_113 : decode prog_12_method_16_code 113 = .ok (.invokevirtual 84, 3) := by decide +kernel
theorem dm_findDivisor_116 : decode prog_12_method_16_code 116 = .ok (.aload_n 0, 1) := by decide +kernel
theorem dm_findDivisor_117 : decode prog_12_method_16_code 117 = .ok (.iconst 5, 1) := by decide +kernel
theorem dm_findDivisor_118 : decode prog_12_method_16_code 118 = .ok (.iconst 4, 1) := by decide +kernel
theorem dm_findDivisor_119 : decode prog_12_method_16_code 119 = .ok (.invokevirtual 99, 3) := by decide +kernel
theorem dm_findDivisor_122 : decode prog_12_method_16_code 122 = .ok (.goto (-76), 3) := by decide +kernel
theorem dm_findDivisor_125 : decode prog_12_method_16_code 125 = .ok (.iconst 0, 1) := by decide +kernel
theorem dm_findDivisor_126 : decode prog_12_method_16_code 126 = .ok (.istore 4, 2) := by decide +kernel
theorem dm_findDivisor_128 : decode prog_12_method_16_code 128 = .ok (.iload 4, 2) := by decide +kernel
theorem dm_findDivisor_130 : decode prog_12_method_16_code 130 = .ok (.iload_n 3, 1) := by decide +kernel
theorem dm_findDivisor_131 : decode prog_12_method_16_code 131 = .ok (.if_icmp .ge 17, 3) := by decide +kernel
theorem dm_findDivisor_134 : decode prog_12_method_16_code 134 = .ok (.aload_n 0, 1) := by decide +kernel
theorem dm_findDivisor_135 : decode prog_12_method_16_code 135 = .ok (.iconst 4, 1) := by decide +kernel
theorem dm_findDivisor_136 : decode prog_12_method_16_code 136 = .ok (.ldc2_w 82, 3) := by decide +kernel
theorem dm_findDivisor_139 : decode prog_12_method_16_code 139 = .ok (.invokevirtual 102, 3) := by decide +kernel
theorem dm_findDivisor_142 : decode prog_12_method_16_code 142 = .ok (.iinc 4 1, 3) := by decide +kernel
theorem dm_findDivisor_145 : decode prog_12_method_16_code 145 = .ok (.goto (-17), 3) := by decide +kernel
theorem dm_findDivisor_148 : decode prog_12_method_16_code 148 = .ok (.return_, 1) := by decide +kernel
theorem dm_addOne_0 : decode prog_12_method_18_code 0 = .ok (.aload_n 0, 1) := by decide +kernel
theorem dm_addOne_1 : decode prog_12_method_18_code 1 = .ok (.getfield 27, 3) := by decide +kernel
theorem dm_addOne_4 : decode prog_12_method_18_code 4 = .ok (.iconst 5, 1) := by decide +kernel
theorem dm_addOne_5 : decode prog_12_method_18_code 5 = .ok (.iaload, 1) := by decide +kernel
theorem dm_addOne_6 : decode prog_12_method_18_code 6 = .ok (.ifCond .ne 12, 3) := by decide +kernel
theorem dm_addOne_9 : decode prog_12_method_18_code 9 = .ok (.aload_n 0, 1) := by decide +kernel
theorem dm_addOne_10 : decode prog_12_method_18_code 10 = .ok (.iconst 5, 1) := by decide +kernel
theorem dm_addOne_11 : decode prog_12_method_18_code 11 = .ok (.lconst 1, 1) := by decide +kernel
theorem dm_addOne_12 : decode prog_12_method_18_code 12 = .ok (.invokevirtual 72, 3) := by decide +kernel
theorem dm_addOne_15 : decode prog_12_method_18_code 15 = .ok (.goto 15, 3) := by decide +kernel
theorem dm_addOne_18 : decode prog_12_method_18_code 18 = .ok (.aload_n 0, 1) := by decide +kernel
theorem dm_addOne_19 : decode prog_12_method_18_code 19 = .ok (.getfield 23, 3) := by decide +kernel
theorem dm_addOne_22 : decode prog_12_method_18_code 22 = .ok (.sipush 320, 3) := by decide +kernel
theorem dm_addOne_25 : decode prog_12_method_18_code 25 = .ok (.dup2, 1) := by decide +kernel
theorem dm_addOne_26 : decode prog_12_method_18_code 26 = .ok (.laload, 1) := by decide +kernel
theorem dm_addOne_27 : decode prog_12_method_18_code 27 = .ok (.lconst 1, 1) := by decide +kernel
theorem dm_addOne_28 : decode prog_12_method_18_code 28 = .ok (.ladd, 1) := by decide +kernel
theorem dm_addOne_29 : decode prog_12_method_18_code 29 = .ok (.lastore, 1) := by decide +kernel
theorem dm_addOne_30 : decode prog_12_method_18_code 30 = .ok (.return_, 1) := by decide +kernel
theorem dm_divide_0 : decode prog_12_method_17_code 0 = .ok (.aload_n 0, 1) := by decide +kernel
theorem dm_divide_1 : decode prog_12_method_17_code 1 = .ok (.bipush 6, 2) := by decide +kernel
theorem dm_divide_3 : decode prog_12_method_17_code 3 = .ok (.iload_n 1, 1) := by decide +kernel
theorem dm_divide_4 : decode prog_12_method_17_code 4 = .ok (.invokevirtual 84, 3) := by decide +kernel
theorem dm_divide_7 : decode prog_12_method_17_code 7 = .ok (.aload_n 0, 1) := by decide +kernel
theorem dm_divide_8 : decode prog_12_method_17_code 8 = .ok (.iconst 5, 1) := by decide +kernel
theorem dm_divide_9 : decode prog_12_method_17_code 9 = .ok (.lconst 0, 1) := by decide +kernel
theorem dm_divide_10 : decode prog_12_method_17_code 10 = .ok (.invokevirtual 72, 3) := by decide +kernel
theorem dm_divide_13 : decode prog_12_method_17_code 13 = .ok (.aload_n 0, 1) := by decide +kernel
theorem dm_divide_14 : decode prog_12_method_17_code 14 = .ok (.getfield 27, 3) := by decide +kernel
theorem dm_divide_17 : decode prog_12_method_17_code 17 = .ok (.bipush 6, 2) := by decide +kernel
theorem dm_divide_19 : decode prog_12_method_17_code 19 = .ok (.iaload, 1) := by decide +kernel
theorem dm_divide_20 : decode prog_12_method_17_code 20 = .ok (.istore_n 2, 1) := by decide +kernel
theorem dm_divide_21 : decode prog_12_method_17_code 21 = .ok (.iconst 0, 1) := by decide +kernel
theorem dm_divide_22 : decode prog_12_method_17_code 22 = .ok (.istore_n 3, 1) := by decide +kernel
theorem dm_divide_23 : decode prog_12_method_17_code 23 = .ok (.iload_n 3, 1) := by decide +kernel
theorem dm_divide_24 : decode prog_12_method_17_code 24 = .ok (.iload_n 2, 1) := by decide +kernel
theorem dm_divide_25 : decode prog_12_method_17_code 25 = .ok (.if_icmp .ge 21, 3) := by decide +kernel
theorem dm_divide_28 : decode prog_12_method_17_code 28 = .ok (.aload_n 0, 1) := by decide +kernel
theorem dm_divide_29 : decode prog_12_method_17_code 29 = .ok (.getfield 23, 3) := by decide +kernel
theorem dm_divide_32 : decode prog_12_method_17_code 32 = .ok (.bipush 64, 2) := by decide +kernel
theorem dm_divide_34 : decode prog_12_method_17_code 34 = .ok (.iload_n 1, 1) := by decide +kernel
theorem dm_divide_35 : decode prog_12_method_17_code 35 = .ok (.imul, 1) := by decide +kernel
theorem dm_divide_36 : decode prog_12_method_17_code 36 = .ok (.iload_n 3, 1) := by decide +kernel
theorem dm_divide_37 : decode prog_12_method_17_code 37 = .ok (.iadd, 1) := by decide +kernel
theorem dm_divide_38 : decode prog_12_method_17_code 38 = .ok (.lconst 0, 1) := by decide +kernel
theorem dm_divide_39 : decode prog_12_method_17_code 39 = .ok (.lastore, 1) := by decide +kernel
theorem dm_divide_40 : decode prog_12_method_17_code 40 = .ok (.iinc 3 1, 3) := by decide +kernel
theorem dm_divide_43 : decode prog_12_method_17_code 43 = .ok (.goto (-20), 3) := by decide +kernel
theorem dm_divide_46 : decode prog_12_method_17_code 46 = .ok (.iload_n 2, 1) := by decide +kernel
theorem dm_divide_47 : decode prog_12_method_17_code 47 = .ok (.iconst 1, 1) := by decide +kernel
theorem dm_divide_48 : decode prog_12_method_17_code 48 = .ok (.isub, 1) := by decide +kernel
theorem dm_divide_49 : decode prog_12_method_17_code 49 = .ok (.istore_n 3, 1) := by decide +kernel
theorem dm_divide_50 : decode prog_12_method_17_code 50 = .ok (.iload_n 3, 1) := by decide +kernel
theorem dm_divide_51 : decode prog_12_method_17_code 51 = .ok (.ifCond .lt 101, 3) := by decide +kernel
theorem dm_divide_54 : decode prog_12_method_17_code 54 = .ok (.lconst 0, 1) := by decide +kernel
theorem dm_divide_55 : decode prog_12_method_17_code 55 = .ok (.lstore 4, 2) := by decide +kernel
theorem dm_divide_57 : decode prog_12_method_17_code 57 = .ok (.bipush 29, 2) := by decide +kernel
theorem dm_divide_59 : decode prog_12_method_17_code 59 = .ok (.istore 6, 2) := by decide +kernel
theorem dm_divide_61 : decode prog_12_method_17_code 61 = .ok (.iload 6, 2) := by decide +kernel
theorem dm_divide_63 : decode prog_12_method_17_code 63 = .ok (.ifCond .lt 70, 3) := by decide +kernel
theorem dm_divide_66 : decode prog_12_method_17_code 66 = .ok (.aload_n 0, 1) := by decide +kernel
theorem dm_divide_67 : decode prog_12_method_17_code 67 = .ok (.iconst 5, 1) := by decide +kernel
theorem dm_divide_68 : decode prog_12_method_17_code 68 = .ok (.ldc2_w 82, 3) := by decide +kernel
theorem dm_divide_71 : decode prog_12_method_17_code 71 = .ok (.invokevirtual 102, 3) := by decide +kernel
theorem dm_divide_74 : decode prog_12_method_17_code 74 = .ok (.aload_n 0, 1) := by decide +kernel
theorem dm_divide_75 : decode prog_12_method_17_code 75 = .ok (.getfield 23, 3) := by decide +kernel
theorem dm_divide_78 : decode prog_12_method_17_code 78 = .ok (.sipush 384, 3) := by decide +kernel
theorem dm_divide_81 : decode prog_12_method_17_code 81 = .ok (.iload_n 3, 1) := by decide +kernel
theorem dm_divide_82 : decode prog_12_method_17_code 82 = .ok (.iadd, 1) := by decide +kernel
theorem dm_divide_83 : decode prog_12_method_17_code 83 = .ok (.laload, 1) := by decide +kernel
theorem dm_divide_84 : decode prog_12_method_17_code 84 = .ok (.iload 6, 2) := by decide +kernel
theorem dm_divide_86 : decode prog_12_method_17_code 86 = .ok (.lshr, 1) := by decide +kernel
theorem dm_divide_87 : decode prog_12_method_17_code 87 = .ok (.lconst 1, 1) := by decide +kernel
theorem dm_divide_88 : decode prog_12_method_17_code 88 = .ok (.land, 1) := by decide +kernel
theorem dm_divide_89 : decode prog_12_method_17_code 89 = .ok (.lconst 1, 1) := by decide +kernel
theorem dm_divide_90 : decode prog_12_method_17_code 90 = .ok (.lcmp, 1) := by decide +kernel
theorem dm_divide_91 : decode prog_12_method_17_code 91 = .ok (.ifCond .ne 7, 3) := by decide +kernel
theorem dm_divide_94 : decode prog_12_method_17_code 94 = .ok (.aload_n 0, 1) := by decide +kernel
theorem dm_divide_95 : decode prog_12_method_17_code 95 = .ok (.invokevirtual 105, 3) := by decide +kernel
theorem dm_divide_98 : decode prog_12_method_17_code 98 = .ok (.ldc2_w 82, 3) := by decide +kernel
theorem dm_divide_101 : decode prog_12_method_17_code 101 = .ok (.lload 4, 2) := by decide +kernel
theorem dm_divide_103 : decode prog_12_method_17_code 103 = .ok (.lmul, 1) := by decide +kernel
theorem dm_divide_104 : decode prog_12_method_17_code 104 = .ok (.lstore 4, 2) := by decide +kernel
theorem dm_divide_106 : decode prog_12_method_17_code 106 = .ok (.aload_n 0, 1) := by decide +kernel
theorem dm_divide_107 : decode prog_12_method_17_code 107 = .ok (.iconst 5, 1) := by decide +kernel
theorem dm_divide_108 : decode prog_12_method_17_code 108 = .ok (.iconst 4, 1) := by decide +kernel
theorem dm_divide_109 : decode prog_12_method_17_code 109 = .ok (.invokevirtual 95, 3) := by decide +kernel
theorem dm_divide_112 : decode prog_12_method_17_code 112 = .ok (.ifCond .lt 15, 3) := by decide +kernel
theorem dm_divide_115 : decode prog_12_method_17_code 115 = .ok (.aload_n 0, 1) := by decide +kernel
theorem dm_divide_116 : decode prog_12_method_17_code 116 = .ok (.iconst 5, 1) := by decide +kernel
theorem dm_divide_117 : decode prog_12_method_17_code 117 = .ok (.iconst 4, 1) := by decide +kernel
theorem dm_divide_118 : decode prog_12_method_17_code 118 = .ok (.invokevirtual 99, 3) := by decide +kernel
theorem dm_divide_121 : decode prog_12_method_17_code 121 = .ok (.lload 4, 2) := by decide +kernel
theorem dm_divide_123 : decode prog_12_method_17_code 123 = .ok (.lconst 1, 1) := by decide +kernel
theorem dm_divide_124 : decode prog_12_method_17_code 124 = .ok (.ladd, 1) := by decide +kernel
theorem dm_divide_125 : decode prog_12_method_17_code 125 = .ok (.lstore 4, 2) := by decide +kernel
theorem dm_divide_127 : decode prog_12_method_17_code 127 = .ok (.iinc 6 (-1), 3) := by decide +kernel
theorem dm_divide_130 : decode prog_12_method_17_code 130 = .ok (.goto (-69), 3) := by decide +kernel
theorem dm_divide_133 : decode prog_12_method_17_code 133 = .ok (.aload_n 0, 1) := by decide +kernel
theorem dm_divide_134 : decode prog_12_method_17_code 134 = .ok (.getfield 23, 3) := by decide +kernel
theorem dm_divide_137 : decode prog_12_method_17_code 137 = .ok (.bipush 64, 2) := by decide +kernel
theorem dm_divide_139 : decode prog_12_method_17_code 139 = .ok (.iload_n 1, 1) := by decide +kernel
theorem dm_divide_140 : decode prog_12_method_17_code 140 = .ok (.imul, 1) := by decide +kernel
theorem dm_divide_141 : decode prog_12_method_17_code 141 = .ok (.iload_n 3, 1) := by decide +kernel
theorem dm_divide_142 : decode prog_12_method_17_code 142 = .ok (.iadd, 1) := by decide +kernel
theorem dm_divide_143 : decode prog_12_method_17_code 143 = .ok (.lload 4, 2) := by decide +kernel
theorem dm_divide_145 : decode prog_12_method_17_code 145 = .ok (.lastore, 1) := by decide +kernel
theorem dm_divide_146 : decode prog_12_method_17_code 146 = .ok (.iinc 3 (-1), 3) := by decide +kernel
theorem dm_divide_149 : decode prog_12_method_17_code 149 = .ok (.goto (-99), 3) := by decide +kernel
theorem dm_divide_152 : decode prog_12_method_17_code 152 = .ok (.aload_n 0, 1) := by decide +kernel
theorem dm_divide_153 : decode prog_12_method_17_code 153 = .ok (.iload_n 1, 1) := by decide +kernel
theorem dm_divide_154 : decode prog_12_method_17_code 154 = .ok (.invokevirtual 78, 3) := by decide +kernel
theorem dm_divide_157 : decode prog_12_method_17_code 157 = .ok (.return_, 1) := by decide +kernel
theorem dm_tell_0 : decode prog_12_method_19_code 0 = .ok (.aload_n 0, 1) := by decide +kernel
theorem dm_tell_1 : decode prog_12_method_19_code 1 = .ok (.getfield 27, 3) := by decide +kernel
theorem dm_tell_4 : decode prog_12_method_19_code 4 = .ok (.iload_n 1, 1) := by decide +kernel
theorem dm_tell_5 : decode prog_12_method_19_code 5 = .ok (.iaload, 1) := by decide +kernel
theorem dm_tell_6 : decode prog_12_method_19_code 6 = .ok (.ifCond .ne 21, 3) := by decide +kernel
theorem dm_tell_9 : decode prog_12_method_19_code 9 = .ok (.aload_n 0, 1) := by decide +kernel
theorem dm_tell_10 : decode prog_12_method_19_code 10 = .ok (.iconst 0, 1) := by decide +kernel
theorem dm_tell_11 : decode prog_12_method_19_code 11 = .ok (.lconst 0, 1) := by decide +kernel
theorem dm_tell_12 : decode prog_12_method_19_code 12 = .ok (.invokevirtual 72, 3) := by decide +kernel
theorem dm_tell_15 : decode prog_12_method_19_code 15 = .ok (.aload_n 0, 1) := by decide +kernel
theorem dm_tell_16 : decode prog_12_method_19_code 16 = .ok (.iconst 1, 1) := by decide +kernel
theorem dm_tell_17 : decode prog_12_method_19_code 17 = .ok (.lconst 1, 1) := by decide +kernel
theorem dm_tell_18 : decode prog_12_method_19_code 18 = .ok (.invokevirtual 72, 3) := by decide +kernel
theorem dm_tell_21 : decode prog_12_method_19_code 21 = .ok (.aload_n 0, 1) := by decide +kernel
theorem dm_tell_22 : decode prog_12_method_19_code 22 = .ok (.iconst 0, 1) := by decide +kernel
theorem dm_tell_23 : decode prog_12_method_19_code 23 = .ok (.putfield 108, 3) := by decide +kernel
theorem dm_tell_26 : decode prog_12_method_19_code 26 = .ok (.return_, 1) := by decide +kernel
theorem dm_tell_27 : decode prog_12_method_19_code 27 = .ok (.aload_n 0, 1) := by decide +kernel
theorem dm_tell_28 : decode prog_12_method_19_code 28 = .ok (.iload_n 1, 1) := by decide +kernel
theorem dm_tell_29 : decode prog_12_method_19_code 29 = .ok (.iload_n 2, 1) := by decide +kernel
theorem dm_tell_30 : decode prog_12_method_19_code 30 = .ok (.invokevirtual 112, 3) := by decide +kernel
theorem dm_tell_33 : decode prog_12_method_19_code 33 = .ok (.aload_n 0, 1) := by decide +kernel
theorem dm_tell_34 : decode prog_12_method_19_code 34 = .ok (.iconst 0, 1) := by decide +kernel
theorem dm_tell_35 : decode prog_12_method_19_code 35 = .ok (.iload_n 1, 1) := by decide +kernel
theorem dm_tell_36 : decode prog_12_method_19_code 36 = .ok (.invokevirtual 84, 3) := by decide +kernel
theorem dm_tell_39 : decode prog_12_method_19_code 39 = .ok (.aload_n 0, 1) := by decide +kernel
theorem dm_tell_40 : decode prog_12_method_19_code 40 = .ok (.iconst 0, 1) := by decide +kernel
theorem dm_tell_41 : decode prog_12_method_19_code 41 = .ok (.invokevirtual 115, 3) := by decide +kernel
theorem dm_tell_44 : decode prog_12_method_19_code 44 = .ok (.aload_n 0, 1) := by decide +kernel
theorem dm_tell_45 : decode prog_12_method_19_code 45 = .ok (.iconst 1, 1) := by decide +kernel
theorem dm_tell_46 : decode prog_12_method_19_code 46 = .ok (.iload_n 2, 1) := by decide +kernel
theorem dm_tell_47 : decode prog_12_method_19_code 47 = .ok (.invokevirtual 84, 3) := by decide +kernel
theorem dm_tell_50 : decode prog_12_method_19_code 50 = .ok (.aload_n 0, 1) := by decide +kernel
theorem dm_tell_51 : decode prog_12_method_19_code 51 = .ok (.iconst 1, 1) := by decide +kernel
theorem dm_tell_52 : decode prog_12_method_19_code 52 = .ok (.invokevirtual 115, 3) := by decide +kernel
theorem dm_tell_55 : decode prog_12_method_19_code 55 = .ok (.aload_n 0, 1) := by decide +kernel
theorem dm_tell_56 : decode prog_12_method_19_code 56 = .ok (.iload_n 3, 1) := by decide +kernel
theorem dm_tell_57 : decode prog_12_method_19_code 57 = .ok (.ifCond .eq 7, 3) := by decide +kernel
theorem dm_tell_60 : decode prog_12_method_19_code 60 = .ok (.iconst (-1), 1) := by decide +kernel
theorem dm_tell_61 : decode prog_12_method_19_code 61 = .ok (.goto 4, 3) := by decide +kernel
theorem dm_tell_64 : decode prog_12_method_19_code 64 = .ok (.iconst 1, 1) := by decide +kernel
theorem dm_tell_65 : decode prog_12_method_19_code 65 = .ok (.putfield 108, 3) := by decide +kernel
theorem dm_tell_68 : decode prog_12_method_19_code 68 = .ok (.return_, 1) := by decide +kernel
theorem dm_cloths_0 : decode prog_12_method_21_code 0 = .ok (.aload_n 0, 1) := by decide +kernel
theorem dm_cloths_1 : decode prog_12_method_21_code 1 = .ok (.getfield 7, 3) := by decide +kernel
theorem dm_cloths_4 : decode prog_12_method_21_code 4 = .ok (.bipush 76, 2) := by decide +kernel
theorem dm_cloths_6 : decode prog_12_method_21_code 6 = .ok (.iaload, 1) := by decide +kernel
theorem dm_cloths_7 : decode prog_12_method_21_code 7 = .ok (.ireturn, 1) := by decide +kernel
theorem dm_things_0 : decode prog_12_method_22_code 0 = .ok (.aload_n 0, 1) := by decide +kernel
theorem dm_things_1 : decode prog_12_method_22_code 1 = .ok (.getfield 7, 3) := by decide +kernel
theorem dm_things_4 : decode prog_12_method_22_code 4 = .ok (.bipush 77, 2) := by decide +kernel
theorem dm_things_6 : decode prog_12_method_22_code 6 = .ok (.iaload, 1) := by decide +kernel
theorem dm_things_7 : decode prog_12_method_22_code 7 = .ok (.ireturn, 1) := by decide +kernel
theorem dm_isCloth_0 : decode prog_12_method_23_code 0 = .ok (.iload_n 1, 1) := by decide +kernel
theorem dm_isCloth_1 : decode prog_12_method_23_code 1 = .ok (.i2l, 1) := by decide +kernel
theorem dm_isCloth_2 : decode prog_12_method_23_code 2 = .ok (.lconst 0, 1) := by decide +kernel
theorem dm_isCloth_3 : decode prog_12_method_23_code 3 = .ok (.aload_n 0, 1) := by decide +kernel
theorem dm_isCloth_4 : decode prog_12_method_23_code 4 = .ok (.invokevirtual 122, 3) := by decide +kernel
theorem dm_isCloth_7 : decode prog_12_method_23_code 7 = .ok (.iconst 1, 1) := by decide +kernel
theorem dm_isCloth_8 : decode prog_12_method_23_code 8 = .ok (.isub, 1) := by decide +kernel
theorem dm_isCloth_9 : decode prog_12_method_23_code 9 = .ok (.i2l, 1) := by decide +kernel
theorem dm_isCloth_10 : decode prog_12_method_23_code 10 = .ok (.invokestatic 126, 3) := by decide +kernel
theorem dm_isCloth_13 : decode prog_12_method_23_code 13 = .ok (.ireturn, 1) := by decide +kernel
theorem dm_isThing_0 : decode prog_12_method_24_code 0 = .ok (.iload_n 1, 1) := by decide +kernel
theorem dm_isThing_1 : decode prog_12_method_24_code 1 = .ok (.i2l, 1) := by decide +kernel
theorem dm_isThing_2 : decode prog_12_method_24_code 2 = .ok (.lconst 0, 1) := by decide +kernel
theorem dm_isThing_3 : decode prog_12_method_24_code 3 = .ok (.aload_n 0, 1) := by decide +kernel
theorem dm_isThing_4 : decode prog_12_method_24_code 4 = .ok (.invokevirtual 130, 3) := by decide +kernel
theorem dm_isThing_7 : decode prog_12_method_24_code 7 = .ok (.iconst 1, 1) := by decide +kernel
theorem dm_isThing_8 : decode prog_12_method_24_code 8 = .ok (.isub, 1) := by decide +kernel
theorem dm_isThing_9 : decode prog_12_method_24_code 9 = .ok (.i2l, 1) := by decide +kernel
theorem dm_isThing_10 : decode prog_12_method_24_code 10 = .ok (.invokestatic 126, 3) := by decide +kernel
theorem dm_isThing_13 : decode prog_12_method_24_code 13 = .ok (.ireturn, 1) := by decide +kernel
theorem dm_isNumber_0 : decode prog_12_method_25_code 0 = .ok (.aload_n 0, 1) := by decide +kernel
theorem dm_isNumber_1 : decode prog_12_method_25_code 1 = .ok (.iload_n 1, 1) := by decide +kernel
theorem dm_isNumber_2 : decode prog_12_method_25_code 2 = .ok (.invokevirtual 133, 3) := by decide +kernel
theorem dm_isNumber_5 : decode prog_12_method_25_code 5 = .ok (.ifCond .ne 21, 3) := by decide +kernel
theorem dm_isNumber_8 : decode prog_12_method_25_code 8 = .ok (.iload_n 1, 1) := by decide +kernel
theorem dm_isNumber_9 : decode prog_12_method_25_code 9 = .ok (.i2l, 1) := by decide +kernel
theorem dm_isNumber_10 : decode prog_12_method_25_code 10 = .ok (.ldc2_w 136, 3) := by decide +kernel
theorem dm_isNumber_13 : decode prog_12_method_25_code 13 = .ok (.iconst 3, 1) := by decide +kernel
theorem dm_isNumber_14 : decode prog_12_method_25_code 14 = .ok (.aload_n 0, 1) := by decide +kernel
theorem dm_isNumber_15 : decode prog_12_method_25_code 15 = .ok (.invokevirtual 130, 3) := by decide +kernel
theorem dm_isNumber_18 : decode prog_12_method_25_code 18 = .ok (.iadd, 1) := by decide +kernel
theorem dm_isNumber_19 : decode prog_12_method_25_code 19 = .ok (.i2l, 1) := by decide +kernel
theorem dm_isNumber_20 : decode prog_12_method_25_code 20 = .ok (.invokestatic 126, 3) := by decide +kernel
theorem dm_isNumber_23 : decode prog_12_method_25_code 23 = .ok (.ifCond .eq 7, 3) := by decide +kernel
theorem dm_isNumber_26 : decode prog_12_method_25_code 26 = .ok (.iconst 1, 1) := by decide +kernel
theorem dm_isNumber_27 : decode prog_12_method_25_code 27 = .ok (.goto 4, 3) := by decide +kernel
theorem dm_isNumber_30 : decode prog_12_method_25_code 30 = .ok (.iconst 0, 1) := by decide +kernel
theorem dm_isNumber_31 : decode prog_12_method_25_code 31 = .ok (.ireturn, 1) := by decide +kernel
theorem dm_kindOf_0 : decode prog_12_method_26_code 0 = .ok (.aload_n 0, 1) := by decide +kernel
theorem dm_kindOf_1 : decode prog_12_method_26_code 1 = .ok (.getfield 7, 3) := by decide +kernel
theorem dm_kindOf_4 : decode prog_12_method_26_code 4 = .ok (.iconst 0, 1) := by decide +kernel
theorem dm_kindOf_5 : decode prog_12_method_26_code 5 = .ok (.iconst 4, 1) := by decide +kernel
theorem dm_kindOf_6 : decode prog_12_method_26_code 6 = .ok (.iload_n 1, 1) := by decide +kernel
theorem dm_kindOf_7 : decode prog_12_method_26_code 7 = .ok (.imul, 1) := by decide +kernel
theorem dm_kindOf_8 : decode prog_12_method_26_code 8 = .ok (.iadd, 1) := by decide +kernel
theorem dm_kindOf_9 : decode prog_12_method_26_code 9 = .ok (.iaload, 1) := by decide +kernel
theorem dm_kindOf_10 : decode prog_12_method_26_code 10 = .ok (.ireturn, 1) := by decide +kernel
theorem dm_layCloth_0 : decode prog_12_method_28_code 0 = .ok (.aload_n 0, 1) := by decide +kernel
theorem dm_layCloth_1 : decode prog_12_method_28_code 1 = .ok (.getfield 7, 3) := by decide +kernel
theorem dm_layCloth_4 : decode prog_12_method_28_code 4 = .ok (.iconst 0, 1) := by decide +kernel
theorem dm_layCloth_5 : decode prog_12_method_28_code 5 = .ok (.iconst 4, 1) := by decide +kernel
theorem dm_layCloth_6 : decode prog_12_method_28_code 6 = .ok (.iload_n 1, 1) := by decide +kernel
theorem dm_layCloth_7 : decode prog_12_method_28_code 7 = .ok (.imul, 1) := by decide +kernel
theorem dm_layCloth_8 : decode prog_12_method_28_code 8 = .ok (.iadd, 1) := by decide +kernel
theorem dm_layCloth_9 : decode prog_12_method_28_code 9 = .ok (.iload_n 2, 1) := by decide +kernel
theorem dm_layCloth_10 : decode prog_12_method_28_code 10 = .ok (.iastore, 1) := by decide +kernel
theorem dm_layCloth_11 : decode prog_12_method_28_code 11 = .ok (.aload_n 0, 1) := by decide +kernel
theorem dm_layCloth_12 : decode prog_12_method_28_code 12 = .ok (.getfield 7, 3) := by decide +kernel
theorem dm_layCloth_15 : decode prog_12_method_28_code 15 = .ok (.iconst 0, 1) := by decide +kernel
theorem dm_layCloth_16 : decode prog_12_method_28_code 16 = .ok (.iconst 4, 1) := by decide +kernel
theorem dm_layCloth_17 : decode prog_12_method_28_code 17 = .ok (.iload_n 1, 1) := by decide +kernel
theorem dm_layCloth_18 : decode prog_12_method_28_code 18 = .ok (.imul, 1) := by decide +kernel
theorem dm_layCloth_19 : decode prog_12_method_28_code 19 = .ok (.iadd, 1) := by decide +kernel
theorem dm_layCloth_20 : decode prog_12_method_28_code 20 = .ok (.iconst 1, 1) := by decide +kernel
theorem dm_layCloth_21 : decode prog_12_method_28_code 21 = .ok (.iadd, 1) := by decide +kernel
theorem dm_layCloth_22 : decode prog_12_method_28_code 22 = .ok (.iload_n 3, 1) := by decide +kernel
theorem dm_layCloth_23 : decode prog_12_method_28_code 23 = .ok (.iastore, 1) := by decide +kernel
theorem dm_layCloth_24 : decode prog_12_method_28_code 24 = .ok (.aload_n 0, 1) := by decide +kernel
theorem dm_layCloth_25 : decode prog_12_method_28_code 25 = .ok (.getfield 7, 3) := by decide +kernel
theorem dm_layCloth_28 : decode prog_12_method_28_code 28 = .ok (.iconst 0, 1) := by decide +kernel
theorem dm_layCloth_29 : decode prog_12_method_28_code 29 = .ok (.iconst 4, 1) := by decide +kernel
theorem dm_layCloth_30 : decode prog_12_method_28_code 30 = .ok (.iload_n 1, 1) := by decide +kernel
theorem dm_layCloth_31 : decode prog_12_method_28_code 31 = .ok (.imul, 1) := by decide +kernel
theorem dm_layCloth_32 : decode prog_12_method_28_code 32 = .ok (.iadd, 1) := by decide +kernel
theorem dm_layCloth_33 : decode prog_12_method_28_code 33 = .ok (.iconst 2, 1) := by decide +kernel
theorem dm_layCloth_34 : decode prog_12_method_28_code 34 = .ok (.iadd, 1) := by decide +kernel
theorem dm_layCloth_35 : decode prog_12_method_28_code 35 = .ok (.iconst 0, 1) := by decide +kernel
theorem dm_layCloth_36 : decode prog_12_method_28_code 36 = .ok (.iastore, 1) := by decide +kernel
theorem dm_layCloth_37 : decode prog_12_method_28_code 37 = .ok (.aload_n 0, 1) := by decide +kernel
theorem dm_layCloth_38 : decode prog_12_method_28_code 38 = .ok (.getfield 7, 3) := by decide +kernel
theorem dm_layCloth_41 : decode prog_12_method_28_code 41 = .ok (.iconst 0, 1) := by decide +kernel
theorem dm_layCloth_42 : decode prog_12_method_28_code 42 = .ok (.iconst 4, 1) := by decide +kernel
theorem dm_layCloth_43 : decode prog_12_method_28_code 43 = .ok (.iload_n 1, 1) := by decide +kernel
theorem dm_layCloth_44 : decode prog_12_method_28_code 44 = .ok (.imul, 1) := by decide +kernel
theorem dm_layCloth_45 : decode prog_12_method_28_code 45 = .ok (.iadd, 1) := by decide +kernel
theorem dm_layCloth_46 : decode prog_12_method_28_code 46 = .ok (.iconst 3, 1) := by decide +kernel
theorem dm_layCloth_47 : decode prog_12_method_28_code 47 = .ok (.iadd, 1) := by decide +kernel
theorem dm_layCloth_48 : decode prog_12_method_28_code 48 = .ok (.bipush 12, 2) := by decide +kernel
theorem dm_layCloth_50 : decode prog_12_method_28_code 50 = .ok (.iastore, 1) := by decide +kernel
theorem dm_layCloth_51 : decode prog_12_method_28_code 51 = .ok (.iconst 0, 1) := by decide +kernel
theorem dm_layCloth_52 : decode prog_12_method_28_code 52 = .ok (.istore 4, 2) := by decide +kernel
theorem dm_layCloth_54 : decode prog_12_method_28_code 54 = .ok (.iload 4, 2) := by decide +kernel
theorem dm_layCloth_56 : decode prog_12_method_28_code 56 = .ok (.bipush 8, 2) := by decide +kernel
theorem dm_layCloth_58 : decode prog_12_method_28_code 58 = .ok (.if_icmp .ge 25, 3) := by decide +kernel
theorem dm_layCloth_61 : decode prog_12_method_28_code 61 = .ok (.aload_n 0, 1) := by decide +kernel
theorem dm_layCloth_62 : decode prog_12_method_28_code 62 = .ok (.getfield 7, 3) := by decide +kernel
theorem dm_layCloth_65 : decode prog_12_method_28_code 65 = .ok (.bipush 16, 2) := by decide +kernel
theorem dm_layCloth_67 : decode prog_12_method_28_code 67 = .ok (.bipush 8, 2) := by decide +kernel
theorem dm_layCloth_69 : decode prog_12_method_28_code 69 = .ok (.iload_n 1, 1) := by decide +kernel
theorem dm_layCloth_70 : decode prog_12_method_28_code 70 = .ok (.imul, 1) := by decide +kernel
theorem dm_layCloth_71 : decode prog_12_method_28_code 71 = .ok (.iadd, 1) := by decide +kernel
theorem dm_layCloth_72 : decode prog_12_method_28_code 72 = .ok (.iload 4, 2) := by decide +kernel
theorem dm_layCloth_74 : decode prog_12_method_28_code 74 = .ok (.iadd, 1) := by decide +kernel
theorem dm_layCloth_75 : decode prog_12_method_28_code 75 = .ok (.iconst 0, 1) := by decide +kernel
theorem dm_layCloth_76 : decode prog_12_method_28_code 76 = .ok (.iastore, 1) := by decide +kernel
theorem dm_layCloth_77 : decode prog_12_method_28_code 77 = .ok (.iinc 4 1, 3) := by decide +kernel
theorem dm_layCloth_80 : decode prog_12_method_28_code 80 = .ok (.goto (-26), 3) := by decide +kernel
theorem dm_layCloth_83 : decode prog_12_method_28_code 83 = .ok (.return_, 1) := by decide +kernel
theorem dm_cloth_0 : decode prog_12_method_27_code 0 = .ok (.iload_n 1, 1) := by decide +kernel
theorem dm_cloth_1 : decode prog_12_method_27_code 1 = .ok (.i2l, 1) := by decide +kernel
theorem dm_cloth_2 : decode prog_12_method_27_code 2 = .ok (.lconst 0, 1) := by decide +kernel
theorem dm_cloth_3 : decode prog_12_method_27_code 3 = .ok (.ldc2_w 136, 3) := by decide +kernel
theorem dm_cloth_6 : decode prog_12_method_27_code 6 = .ok (.invokestatic 126, 3) := by decide +kernel
theorem dm_cloth_9 : decode prog_12_method_27_code 9 = .ok (.ifCond .eq 27, 3) := by decide +kernel
theorem dm_cloth_12 : decode prog_12_method_27_code 12 = .ok (.iload_n 2, 1) := by decide +kernel
theorem dm_cloth_13 : decode prog_12_method_27_code 13 = .ok (.i2l, 1) := by decide +kernel
theorem dm_cloth_14 : decode prog_12_method_27_code 14 = .ok (.lconst 0, 1) := by decide +kernel
theorem dm_cloth_15 : decode prog_12_method_27_code 15 = .ok (.ldc2_w 138, 3) := by decide +kernel
theorem dm_cloth_18 : decode prog_12_method_27_code 18 = .ok (.invokestatic 126, 3) := by decide +kernel
theorem dm_cloth_21 : decode prog_12_method_27_code 21 = .ok (.ifCond .eq 15, 3) := by decide +kernel
theorem dm_cloth_24 : decode prog_12_method_27_code 24 = .ok (.iload_n 3, 1) := by decide +kernel
theorem dm_cloth_25 : decode prog_12_method_27_code 25 = .ok (.i2l, 1) := by decide +kernel
theorem dm_cloth_26 : decode prog_12_method_27_code 26 = .ok (.lconst 0, 1) := by decide +kernel
theorem dm_cloth_27 : decode prog_12_method_27_code 27 = .ok (.ldc2_w 140, 3) := by decide +kernel
theorem dm_cloth_30 : decode prog_12_method_27_code 30 = .ok (.invokestatic 126, 3) := by decide +kernel
theorem dm_cloth_33 : decode prog_12_method_27_code 33 = .ok (.ifCond .ne 10, 3) := by decide +kernel
theorem dm_cloth_36 : decode prog_12_method_27_code 36 = .ok (.aload_n 0, 1) := by decide +kernel
theorem dm_cloth_37 : decode prog_12_method_27_code 37 = .ok (.bipush (-2), 2) := by decide +kernel
theorem dm_cloth_39 : decode prog_12_method_27_code 39 = .ok (.invokevirtual 142, 3) := by decide +kernel
theorem dm_cloth_42 : decode prog_12_method_27_code 42 = .ok (.ireturn, 1) := by decide +kernel
theorem dm_cloth_43 : decode prog_12_method_27_code 43 = .ok (.aload_n 0, 1) := by decide +kernel
theorem dm_cloth_44 : decode prog_12_method_27_code 44 = .ok (.invokevirtual 122, 3) := by decide +kernel
theorem dm_cloth_47 : decode prog_12_method_27_code 47 = .ok (.istore 4, 2) := by decide +kernel
theorem dm_cloth_49 : decode prog_12_method_27_code 49 = .ok (.iload 4, 2) := by decide +kernel
theorem dm_cloth_51 : decode prog_12_method_27_code 51 = .ok (.iconst 4, 1) := by decide +kernel
theorem dm_cloth_52 : decode prog_12_method_27_code 52 = .ok (.if_icmp .ne 8, 3) := by decide +kernel
theorem dm_cloth_55 : decode prog_12_method_27_code 55 = .ok (.aload_n 0, 1) := by decide +kernel
theorem dm_cloth_56 : decode prog_12_method_27_code 56 = .ok (.invokevirtual 146, 3) := by decide +kernel
theorem dm_cloth_59 : decode prog_12_method_27_code 59 = .ok (.ireturn, 1) := by decide +kernel
theorem dm_cloth_60 : decode prog_12_method_27_code 60 = .ok (.aload_n 0, 1) := by decide +kernel
theorem dm_cloth_61 : decode prog_12_method_27_code 61 = .ok (.iload 4, 2) := by decide +kernel
theorem dm_cloth_63 : decode prog_12_method_27_code 63 = .ok (.iload_n 1, 1) := by decide +kernel
theorem dm_cloth_64 : decode prog_12_method_27_code 64 = .ok (.iload_n 2, 1) := by decide +kernel
theorem dm_cloth_65 : decode prog_12_method_27_code 65 = .ok (.invokevirtual 149, 3) := by decide +kernel
theorem dm_cloth_68 : decode prog_12_method_27_code 68 = .ok (.aload_n 0, 1) := by decide +kernel
theorem dm_cloth_69 : decode prog_12_method_27_code 69 = .ok (.bipush 19, 2) := by decide +kernel
theorem dm_cloth_71 : decode prog_12_method_27_code 71 = .ok (.iload 4, 2) := by decide +kernel
theorem dm_cloth_73 : decode prog_12_method_27_code 73 = .ok (.iadd, 1) := by decide +kernel
theorem dm_cloth_74 : decode prog_12_method_27_code 74 = .ok (.bipush 23, 2) := by decide +kernel
theorem dm_cloth_76 : decode prog_12_method_27_code 76 = .ok (.invokevirtual 84, 3) := by decide +kernel
theorem dm_cloth_79 : decode prog_12_method_27_code 79 = .ok (.aload_n 0, 1) := by decide +kernel
theorem dm_cloth_80 : decode prog_12_method_27_code 80 = .ok (.bipush 19, 2) := by decide +kernel
theorem dm_cloth_82 : decode prog_12_method_27_code 82 = .ok (.iload 4, 2) := by decide +kernel
theorem dm_cloth_84 : decode prog_12_method_27_code 84 = .ok (.iadd, 1) := by decide +kernel
theorem dm_cloth_85 : decode prog_12_method_27_code 85 = .ok (.iload_n 3, 1) := by decide +kernel
theorem dm_cloth_86 : decode prog_12_method_27_code 86 = .ok (.i2l, 1) := by decide +kernel
theorem dm_cloth_87 : decode prog_12_method_27_code 87 = .ok (.invokevirtual 102, 3) := by decide +kernel
theorem dm_cloth_90 : decode prog_12_method_27_code 90 = .ok (.aload_n 0, 1) := by decide +kernel
theorem dm_cloth_91 : decode prog_12_method_27_code 91 = .ok (.getfield 7, 3) := by decide +kernel
theorem dm_cloth_94 : decode prog_12_method_27_code 94 = .ok (.bipush 76, 2) := by decide +kernel
theorem dm_cloth_96 : decode prog_12_method_27_code 96 = .ok (.dup2, 1) := by decide +kernel
theorem dm_cloth_97 : decode prog_12_method_27_code 97 = .ok (.iaload, 1) := by decide +kernel
theorem dm_cloth_98 : decode prog_12_method_27_code 98 = .ok (.iconst 1, 1) := by decide +kernel
theorem dm_cloth_99 : decode prog_12_method_27_code 99 = .ok (.iadd, 1) := by decide +kernel
theorem dm_cloth_100 : decode prog_12_method_27_code 100 = .ok (.iastore, 1) := by decide +kernel
theorem dm_cloth_101 : decode prog_12_method_27_code 101 = .ok (.aload_n 0, 1) := by decide +kernel
theorem dm_cloth_102 : decode prog_12_method_27_code 102 = .ok (.getfield 7, 3) := by decide +kernel
theorem dm_cloth_105 : decode prog_12_method_27_code 105 = .ok (.bipush 79, 2) := by decide +kernel
theorem dm_cloth_107 : decode prog_12_method_27_code 107 = .ok (.iconst 0, 1) := by decide +kernel
theorem dm_cloth_108 : decode prog_12_method_27_code 108 = .ok (.iastore, 1) := by decide +kernel
theorem dm_cloth_109 : decode prog_12_method_27_code 109 = .ok (.iload 4, 2) := by decide +kernel
theorem dm_cloth_111 : decode prog_12_method_27_code 111 = .ok (.ireturn, 1) := by decide +kernel
theorem dm_thing_0 : decode prog_12_method_29_code 0 = .ok (.iload_n 1, 1) := by decide +kernel
theorem dm_thing_1 : decode prog_12_method_29_code 1 = .ok (.i2l, 1) := by decide +kernel
theorem dm_thing_2 : decode prog_12_method_29_code 2 = .ok (.lconst 0, 1) := by decide +kernel
theorem dm_thing_3 : decode prog_12_method_29_code 3 = .ok (.ldc2_w 140, 3) := by decide +kernel
theorem dm_thing_6 : decode prog_12_method_29_code 6 = .ok (.invokestatic 126, 3) := by decide +kernel
theorem dm_thing_9 : decode prog_12_method_29_code 9 = .ok (.ifCond .ne 10, 3) := by decide +kernel
theorem dm_thing_12 : decode prog_12_method_29_code 12 = .ok (.aload_n 0, 1) := by decide +kernel
theorem dm_thing_13 : decode prog_12_method_29_code 13 = .ok (.bipush (-2), 2) := by decide +kernel
theorem dm_thing_15 : decode prog_12_method_29_code 15 = .ok (.invokevirtual 142, 3) := by decide +kernel
theorem dm_thing_18 : decode prog_12_method_29_code 18 = .ok (.ireturn, 1) := by decide +kernel
theorem dm_thing_19 : decode prog_12_method_29_code 19 = .ok (.aload_n 0, 1) := by decide +kernel
theorem dm_thing_20 : decode prog_12_method_29_code 20 = .ok (.invokevirtual 130, 3) := by decide +kernel
theorem dm_thing_23 : decode prog_12_method_29_code 23 = .ok (.istore_n 2, 1) := by decide +kernel
theorem dm_thing_24 : decode prog_12_method_29_code 24 = .ok (.iload_n 2, 1) := by decide +kernel
theorem dm_thing_25 : decode prog_12_method_29_code 25 = .ok (.iconst 4, 1) := by decide +kernel
theorem dm_thing_26 : decode prog_12_method_29_code 26 = .ok (.if_icmp .ne 8, 3) := by decide +kernel
theorem dm_thing_29 : decode prog_12_method_29_code 29 = .ok (.aload_n 0, 1) := by decide +kernel
theorem dm_thing_30 : decode prog_12_method_29_code 30 = .ok (.invokevirtual 146, 3) := by decide +kernel
theorem dm_thing_33 : decode prog_12_method_29_code 33 = .ok (.ireturn, 1) := by decide +kernel
theorem dm_thing_34 : decode prog_12_method_29_code 34 = .ok (.aload_n 0, 1) := by decide +kernel
theorem dm_thing_35 : decode prog_12_method_29_code 35 = .ok (.getfield 7, 3) := by decide +kernel
theorem dm_thing_38 : decode prog_12_method_29_code 38 = .ok (.bipush 48, 2) := by decide +kernel
theorem dm_thing_40 : decode prog_12_method_29_code 40 = .ok (.iload_n 2, 1) := by decide +kernel
theorem dm_thing_41 : decode prog_12_method_29_code 41 = .ok (.iadd, 1) := by decide +kernel
theorem dm_thing_42 : decode prog_12_method_29_code 42 = .ok (.iload_n 1, 1) := by decide +kernel
theorem dm_thing_43 : decode prog_12_method_29_code 43 = .ok (.iastore, 1) := by decide +kernel
theorem dm_thing_44 : decode prog_12_method_29_code 44 = .ok (.aload_n 0, 1) := by decide +kernel
theorem dm_thing_45 : decode prog_12_method_29_code 45 = .ok (.getfield 7, 3) := by decide +kernel
theorem dm_thing_48 : decode prog_12_method_29_code 48 = .ok (.bipush 77, 2) := by decide +kernel
theorem dm_thing_50 : decode prog_12_method_29_code 50 = .ok (.dup2, 1) := by decide +kernel
theorem dm_thing_51 : decode prog_12_method_29_code 51 = .ok (.iaload, 1) := by decide +kernel
theorem dm_thing_52 : decode prog_12_method_29_code 52 = .ok (.iconst 1, 1) := by decide +kernel
theorem dm_thing_53 : decode prog_12_method_29_code 53 = .ok (.iadd, 1) := by decide +kernel
theorem dm_thing_54 : decode prog_12_method_29_code 54 = .ok (.iastore, 1) := by decide +kernel
theorem dm_thing_55 : decode prog_12_method_29_code 55 = .ok (.iload_n 2, 1) := by decide +kernel
theorem dm_thing_56 : decode prog_12_method_29_code 56 = .ok (.ireturn, 1) := by decide +kernel
theorem dm_putHours_0 : decode prog_12_method_30_code 0 = .ok (.iload_n 2, 1) := by decide +kernel
theorem dm_putHours_1 : decode prog_12_method_30_code 1 = .ok (.iconst 4, 1) := by decide +kernel
theorem dm_putHours_2 : decode prog_12_method_30_code 2 = .ok (.if_icmp .ge 15, 3) := by decide +kernel
theorem dm_putHours_5 : decode prog_12_method_30_code 5 = .ok (.aload_n 0, 1) := by decide +kernel
theorem dm_putHours_6 : decode prog_12_method_30_code 6 = .ok (.iload_n 1, 1) := by decide +kernel
theorem dm_putHours_7 : decode prog_12_method_30_code 7 = .ok (.bipush 8, 2) := by decide +kernel
theorem dm_putHours_9 : decode prog_12_method_30_code 9 = .ok (.iload_n 2, 1) := by decide +kernel
theorem dm_putHours_10 : decode prog_12_method_30_code 10 = .ok (.imul, 1) := by decide +kernel
theorem dm_putHours_11 : decode prog_12_method_30_code 11 = .ok (.iadd, 1) := by decide +kernel
theorem dm_putHours_12 : decode prog_12_method_30_code 12 = .ok (.iload_n 3, 1) := by decide +kernel
theorem dm_putHours_13 : decode prog_12_method_30_code 13 = .ok (.iadd, 1) := by decide +kernel
theorem dm_putHours_14 : decode prog_12_method_30_code 14 = .ok (.iload 4, 2) := by decide +kernel
theorem dm_putHours_16 : decode prog_12_method_30_code 16 = .ok (.iastore, 1) := by decide +kernel
theorem dm_putHours_17 : decode prog_12_method_30_code 17 = .ok (.iload_n 3, 1) := by decide +kernel
theorem dm_putHours_18 : decode prog_12_method_30_code 18 = .ok (.iconst 4, 1) := by decide +kernel
theorem dm_putHours_19 : decode prog_12_method_30_code 19 = .ok (.if_icmp .ge 15, 3) := by decide +kernel
theorem dm_putHours_22 : decode prog_12_method_30_code 22 = .ok (.aload_n 0, 1) := by decide +kernel
theorem dm_putHours_23 : decode prog_12_method_30_code 23 = .ok (.iload_n 1, 1) := by decide +kernel
theorem dm_putHours_24 : decode prog_12_method_30_code 24 = .ok (.bipush 8, 2) := by decide +kernel
theorem dm_putHours_26 : decode prog_12_method_30_code 26 = .ok (.iload_n 3, 1) := by decide +kernel
theorem dm_putHours_27 : decode prog_12_method_30_code 27 = .ok (.imul, 1) := by decide +kernel
theorem dm_putHours_28 : decode prog_12_method_30_code 28 = .ok (.iadd, 1) := by decide +kernel
theorem dm_putHours_29 : decode prog_12_method_30_code 29 = .ok (.iload_n 2, 1) := by decide +kernel
theorem dm_putHours_30 : decode prog_12_method_30_code 30 = .ok (.iadd, 1) := by decide +kernel
theorem dm_putHours_31 : decode prog_12_method_30_code 31 = .ok (.iload 4, 2) := by decide +kernel
theorem dm_putHours_33 : decode prog_12_method_30_code 33 = .ok (.iastore, 1) := by decide +kernel
theorem dm_putHours_34 : decode prog_12_method_30_code 34 = .ok (.return_, 1) := by decide +kernel
theorem dm_touch_0 : decode prog_12_method_31_code 0 = .ok (.aload_n 0, 1) := by decide +kernel
theorem dm_touch_1 : decode prog_12_method_31_code 1 = .ok (.iload_n 1, 1) := by decide +kernel
theorem dm_touch_2 : decode prog_12_method_31_code 2 = .ok (.invokevirtual 153, 3) := by decide +kernel
theorem dm_touch_5 : decode prog_12_method_31_code 5 = .ok (.ifCond .eq 38, 3) := by decide +kernel
theorem dm_touch_8 : decode prog_12_method_31_code 8 = .ok (.aload_n 0, 1) := by decide +kernel
theorem dm_touch_9 : decode prog_12_method_31_code 9 = .ok (.iload_n 2, 1) := by decide +kernel
theorem dm_touch_10 : decode prog_12_method_31_code 10 = .ok (.invokevirtual 153, 3) := by decide +kernel
theorem dm_touch_13 : decode prog_12_method_31_code 13 = .ok (.ifCond .eq 30, 3) := by decide +kernel
theorem dm_touch_16 : decode prog_12_method_31_code 16 = .ok (.iload_n 1, 1) := by decide +kernel
theorem dm_touch_17 : decode prog_12_method_31_code 17 = .ok (.iload_n 2, 1) := by decide +kernel
theorem dm_touch_18 : decode prog_12_method_31_code 18 = .ok (.if_icmp .eq 25, 3) := by decide +kernel
theorem dm_touch_21 : decode prog_12_method_31_code 21 = .ok (.iload_n 1, 1) := by decide +kernel
theorem dm_touch_22 : decode prog_12_method_31_code 22 = .ok (.iconst 3, 1) := by decide +kernel
theorem dm_touch_23 : decode prog_12_method_31_code 23 = .ok (.if_icmp .le 8, 3) := by decide +kernel
theorem dm_touch_26 : decode prog_12_method_31_code 26 = .ok (.iload_n 2, 1) := by decide +kernel
theorem dm_touch_27 : decode prog_12_method_31_code 27 = .ok (.iconst 3, 1) := by decide +kernel
theorem dm_touch_28 : decode prog_12_method_31_code 28 = .ok (.if_icmp .gt 15, 3) := by decide +kernel
theorem dm_touch_31 : decode prog_12_method_31_code 31 = .ok (.iload_n 3, 1) := by decide +kernel
theorem dm_touch_32 : decode prog_12_method_31_code 32 = .ok (.i2l, 1) := by decide +kernel
theorem dm_touch_33 : decode prog_12_method_31_code 33 = .ok (.lconst 0, 1) := by decide +kernel
theorem dm_touch_34 : decode prog_12_method_31_code 34 = .ok (.ldc2_w 138, 3) := by decide +kernel
theorem dm_touch_37 : decode prog_12_method_31_code 37 = .ok (.invokestatic 126, 3) := by decide +kernel
theorem dm_touch_40 : decode prog_12_method_31_code 40 = .ok (.ifCond .ne 10, 3) := by decide +kernel
theorem dm_touch_43 : decode prog_12_method_31_code 43 = .ok (.aload_n 0, 1) := by decide +kernel
theorem dm_touch_44 : decode prog_12_method_31_code 44 = .ok (.bipush (-2), 2) := by decide +kernel
theorem dm_touch_46 : decode prog_12_method_31_code 46 = .ok (.invokevirtual 142, 3) := by decide +kernel
theorem dm_touch_49 : decode prog_12_method_31_code 49 = .ok (.ireturn, 1) := by decide +kernel
theorem dm_touch_50 : decode prog_12_method_31_code 50 = .ok (.iload_n 1, 1) := by decide +kernel
theorem dm_touch_51 : decode prog_12_method_31_code 51 = .ok (.iconst 4, 1) := by decide +kernel
theorem dm_touch_52 : decode prog_12_method_31_code 52 = .ok (.if_icmp .ge 20, 3) := by decide +kernel
theorem dm_touch_55 : decode prog_12_method_31_code 55 = .ok (.aload_n 0, 1) := by decide +kernel
theorem dm_touch_56 : decode prog_12_method_31_code 56 = .ok (.getfield 7, 3) := by decide +kernel
theorem dm_touch_59 : decode prog_12_method_31_code 59 = .ok (.bipush 16, 2) := by decide +kernel
theorem dm_touch_61 : decode prog_12_method_31_code 61 = .ok (.bipush 8, 2) := by decide +kernel
theorem dm_touch_63 : decode prog_12_method_31_code 63 = .ok (.iload_n 1, 1) := by decide +kernel
theorem dm_touch_64 : decode prog_12_method_31_code 64 = .ok (.imul, 1) := by decide +kernel
theorem dm_touch_65 : decode prog_12_method_31_code 65 = .ok (.iadd, 1) := by decide +kernel
theorem dm_touch_66 : decode prog_12_method_31_code 66 = .ok (.iload_n 2, 1) := by decide +kernel
theorem dm_touch_67 : decode prog_12_method_31_code 67 = .ok (.iadd, 1) := by decide +kernel
theorem dm_touch_68 : decode prog_12_method_31_code 68 = .ok (.iaload, 1) := by decide +kernel
theorem dm_touch_69 : decode prog_12_method_31_code 69 = .ok (.goto 17, 3) := by decide +kernel
theorem dm_touch_72 : decode prog_12_method_31_code 72 = .ok (.aload_n 0, 1) := by decide +kernel
theorem dm_touch_73 : decode prog_12_method_31_code 73 = .ok (.getfield 7, 3) := by decide +kernel
theorem dm_touch_76 : decode prog_12_method_31_code 76 = .ok (.bipush 16, 2) := by decide +kernel
theorem dm_touch_78 : decode prog_12_method_31_code 78 = .ok (.bipush 8, 2) := by decide +kernel
theorem dm_touch_80 : decode prog_12_method_31_code 80 = .ok (.iload_n 2, 1) := by decide +kernel
theorem dm_touch_81 : decode prog_12_method_31_code 81 = .ok (.imul, 1) := by decide +kernel
theorem dm_touch_82 : decode prog_12_method_31_code 82 = .ok (.iadd, 1) := by decide +kernel
theorem dm_touch_83 : decode prog_12_method_31_code 83 = .ok (.iload_n 1, 1) := by decide +kernel
theorem dm_touch_84 : decode prog_12_method_31_code 84 = .ok (.iadd, 1) := by decide +kernel
theorem dm_touch_85 : decode prog_12_method_31_code 85 = .ok (.iaload, 1) := by decide +kernel
theorem dm_touch_86 : decode prog_12_method_31_code 86 = .ok (.istore 4, 2) := by decide +kernel
theorem dm_touch_88 : decode prog_12_method_31_code 88 = .ok (.aload_n 0, 1) := by decide +kernel
theorem dm_touch_89 : decode prog_12_method_31_code 89 = .ok (.getfield 7, 3) := by decide +kernel
theorem dm_touch_92 : decode prog_12_method_31_code 92 = .ok (.bipush 16, 2) := by decide +kernel
theorem dm_touch_94 : decode prog_12_method_31_code 94 = .ok (.iload_n 1, 1) := by decide +kernel
theorem dm_touch_95 : decode prog_12_method_31_code 95 = .ok (.iload_n 2, 1) := by decide +kernel
theorem dm_touch_96 : decode prog_12_method_31_code 96 = .ok (.iload_n 3, 1) := by decide +kernel
theorem dm_touch_97 : decode prog_12_method_31_code 97 = .ok (.invokestatic 156, 3) := by decide +kernel
theorem dm_touch_100 : decode prog_12_method_31_code 100 = .ok (.iload 4, 2) := by decide +kernel
theorem dm_touch_102 : decode prog_12_method_31_code 102 = .ok (.ireturn, 1) := by decide +kernel
theorem dm_colour_0 : decode prog_12_method_32_code 0 = .ok (.aload_n 0, 1) := by decide +kernel
theorem dm_colour_1 : decode prog_12_method_32_code 1 = .ok (.iload_n 1, 1) := by decide +kernel
theorem dm_colour_2 : decode prog_12_method_32_code 2 = .ok (.invokevirtual 160, 3) := by decide +kernel
theorem dm_colour_5 : decode prog_12_method_32_code 5 = .ok (.ifCond .eq 15, 3) := by decide +kernel
theorem dm_colour_8 : decode prog_12_method_32_code 8 = .ok (.iload_n 2, 1) := by decide +kernel
theorem dm_colour_9 : decode prog_12_method_32_code 9 = .ok (.i2l, 1) := by decide +kernel
theorem dm_colour_10 : decode prog_12_method_32_code 10 = .ok (.lconst 0, 1) := by decide +kernel
theorem dm_colour_11 : decode prog_12_method_32_code 11 = .ok (.ldc2_w 140, 3) := by decide +kernel
theorem dm_colour_14 : decode prog_12_method_32_code 14 = .ok (.invokestatic 126, 3) := by decide +kernel
theorem dm_colour_17 : decode prog_12_method_32_code 17 = .ok (.ifCond .ne 10, 3) := by decide +kernel
theorem dm_colour_20 : decode prog_12_method_32_code 20 = .ok (.aload_n 0, 1) := by decide +kernel
theorem dm_colour_21 : decode prog_12_method_32_code 21 = .ok (.bipush (-2), 2) := by decide +kernel
theorem dm_colour_23 : decode prog_12_method_32_code 23 = .ok (.invokevirtual 142, 3) := by decide +kernel
theorem dm_colour_26 : decode prog_12_method_32_code 26 = .ok (.ireturn, 1) := by decide +kernel
theorem dm_colour_27 : decode prog_12_method_32_code 27 = .ok (.aload_n 0, 1) := by decide +kernel
theorem dm_colour_28 : decode prog_12_method_32_code 28 = .ok (.getfield 7, 3) := by decide +kernel
theorem dm_colour_31 : decode prog_12_method_32_code 31 = .ok (.bipush 48, 2) := by decide +kernel
theorem dm_colour_33 : decode prog_12_method_32_code 33 = .ok (.iload_n 1, 1) := by decide +kernel
theorem dm_colour_34 : decode prog_12_method_32_code 34 = .ok (.iadd, 1) := by decide +kernel
theorem dm_colour_35 : decode prog_12_method_32_code 35 = .ok (.iaload, 1) := by decide +kernel
theorem dm_colour_36 : decode prog_12_method_32_code 36 = .ok (.istore_n 3, 1) := by decide +kernel
theorem dm_colour_37 : decode prog_12_method_32_code 37 = .ok (.aload_n 0, 1) := by decide +kernel
theorem dm_colour_38 : decode prog_12_method_32_code 38 = .ok (.getfield 7, 3) := by decide +kernel
theorem dm_colour_41 : decode prog_12_method_32_code 41 = .ok (.bipush 48, 2) := by decide +kernel
theorem dm_colour_43 : decode prog_12_method_32_code 43 = .ok (.iload_n 1, 1) := by decide +kernel
theorem dm_colour_44 : decode prog_12_method_32_code 44 = .ok (.iadd, 1) := by decide +kernel
theorem dm_colour_45 : decode prog_12_method_32_code 45 = .ok (.iload_n 2, 1) := by decide +kernel
theorem dm_colour_46 : decode prog_12_method_32_code 46 = .ok (.iastore, 1) := by decide +kernel
theorem dm_colour_47 : decode prog_12_method_32_code 47 = .ok (.iload_n 3, 1) := by decide +kernel
theorem dm_colour_48 : decode prog_12_method_32_code 48 = .ok (.ireturn, 1) := by decide +kernel
theorem dm_takeNow_0 : decode prog_12_method_33_code 0 = .ok (.iconst 0, 1) := by decide +kernel
theorem dm_takeNow_1 : decode prog_12_method_33_code 1 = .ok (.istore_n 1, 1) := by decide +kernel
theorem dm_takeNow_2 : decode prog_12_method_33_code 2 = .ok (.iload_n 1, 1) := by decide +kernel
theorem dm_takeNow_3 : decode prog_12_method_33_code 3 = .ok (.bipush 32, 2) := by decide +kernel
theorem dm_takeNow_5 : decode prog_12_method_33_code 5 = .ok (.if_icmp .ge 24, 3) := by decide +kernel
theorem dm_takeNow_8 : decode prog_12_method_33_code 8 = .ok (.aload_n 0, 1) := by decide +kernel
theorem dm_takeNow_9 : decode prog_12_method_33_code 9 = .ok (.getfield 30, 3) := by decide +kernel
theorem dm_takeNow_12 : decode prog_12_method_33_code 12 = .ok (.iload_n 1, 1) := by decide +kernel
theorem dm_takeNow_13 : decode prog_12_method_33_code 13 = .ok (.aload_n 0, 1) := by decide +kernel
theorem dm_takeNow_14 : decode prog_12_method_33_code 14 = .ok (.getfield 7, 3) := by decide +kernel
theorem dm_takeNow_17 : decode prog_12_method_33_code 17 = .ok (.bipush 16, 2) := by decide +kernel
theorem dm_takeNow_19 : decode prog_12_method_33_code 19 = .ok (.iload_n 1, 1) := by decide +kernel
theorem dm_takeNow_20 : decode prog_12_method_33_code 20 = .ok (.iadd, 1) := by decide +kernel
theorem dm_takeNow_21 : decode prog_12_method_33_code 21 = .ok (.iaload, 1) := by decide +kernel
theorem dm_takeNow_22 : decode prog_12_method_33_code 22 = .ok (.iastore, 1) := by decide +kernel
theorem dm_takeNow_23 : decode prog_12_method_33_code 23 = .ok (.iinc 1 1, 3) := by decide +kernel
theorem dm_takeNow_26 : decode prog_12_method_33_code 26 = .ok (.goto (-24), 3) := by decide +kernel
theorem dm_takeNow_29 : decode prog_12_method_33_code 29 = .ok (.iconst 0, 1) := by decide +kernel
theorem dm_takeNow_30 : decode prog_12_method_33_code 30 = .ok (.istore_n 1, 1) := by decide +kernel
theorem dm_takeNow_31 : decode prog_12_method_33_code 31 = .ok (.iload_n 1, 1) := by decide +kernel
theorem dm_takeNow_32 : decode prog_12_method_33_code 32 = .ok (.iconst 4, 1) := by decide +kernel
theorem dm_takeNow_33 : decode prog_12_method_33_code 33 = .ok (.if_icmp .ge 24, 3) := by decide +kernel
theorem dm_takeNow_36 : decode prog_12_method_33_code 36 = .ok (.aload_n 0, 1) := by decide +kernel
theorem dm_takeNow_37 : decode prog_12_method_33_code 37 = .ok (.getfield 33, 3) := by decide +kernel
theorem dm_takeNow_40 : decode prog_12_method_33_code 40 = .ok (.iload_n 1, 1) := by decide +kernel
theorem dm_takeNow_41 : decode prog_12_method_33_code 41 = .ok (.aload_n 0, 1) := by decide +kernel
theorem dm_takeNow_42 : decode prog_12_method_33_code 42 = .ok (.getfield 7, 3) := by decide +kernel
theorem dm_takeNow_45 : decode prog_12_method_33_code 45 = .ok (.bipush 48, 2) := by decide +kernel
theorem dm_takeNow_47 : decode prog_12_method_33_code 47 = .ok (.iload_n 1, 1) := by decide +kernel
theorem dm_takeNow_48 : decode prog_12_method_33_code 48 = .ok (.iadd, 1) := by decide +kernel
theorem dm_takeNow_49 : decode prog_12_method_33_code 49 = .ok (.iaload, 1) := by decide +kernel
theorem dm_takeNow_50 : decode prog_12_method_33_code 50 = .ok (.iastore, 1) := by decide +kernel
theorem dm_takeNow_51 : decode prog_12_method_33_code 51 = .ok (.iinc 1 1, 3) := by decide +kernel
theorem dm_takeNow_54 : decode prog_12_method_33_code 54 = .ok (.goto (-23), 3) := by decide +kernel
theorem dm_takeNow_57 : decode prog_12_method_33_code 57 = .ok (.iconst 0, 1) := by decide +kernel
theorem dm_takeNow_58 : decode prog_12_method_33_code 58 = .ok (.istore_n 1, 1) := by decide +kernel
theorem dm_takeNow_59 : decode prog_12_method_33_code 59 = .ok (.iload_n 1, 1) := by decide +kernel
theorem dm_takeNow_60 : decode prog_12_method_33_code 60 = .ok (.iconst 5, 1) := by decide +kernel
theorem dm_takeNow_61 : decode prog_12_method_33_code 61 = .ok (.if_icmp .ge 21, 3) := by decide +kernel
theorem dm_takeNow_64 : decode prog_12_method_33_code 64 = .ok (.aload_n 0, 1) := by decide +kernel
theorem dm_takeNow_65 : decode prog_12_method_33_code 65 = .ok (.bipush 14, 2) := by decide +kernel
theorem dm_takeNow_67 : decode prog_12_method_33_code 67 = .ok (.iload_n 1, 1) := by decide +kernel
theorem dm_takeNow_68 : decode prog_12_method_33_code 68 = .ok (.iadd, 1) := by decide +kernel
theorem dm_takeNow_69 : decode prog_12_method_33_code 69 = .ok (.bipush 19, 2) := by decide +kernel
theorem dm_takeNow_71 : decode prog_12_method_33_code 71 = .ok (.iload_n 1, 1) := by decide +kernel
theorem dm_takeNow_72 : decode prog_12_method_33_code 72 = .ok (.iadd, 1) := by decide +kernel
theorem dm_takeNow_73 : decode prog_12_method_33_code 73 = .ok (.invokevirtual 84, 3) := by decide +kernel
theorem dm_takeNow_76 : decode prog_12_method_33_code 76 = .ok (.iinc 1 1, 3) := by decide +kernel
theorem dm_takeNow_79 : decode prog_12_method_33_code 79 = .ok (.goto (-20), 3) := by decide +kernel
theorem dm_takeNow_82 : decode prog_12_method_33_code 82 = .ok (.return_, 1) := by decide +kernel
theorem dm_gives_0 : decode prog_12_method_34_code 0 = .ok (.aload_n 0, 1) := by decide +kernel
theorem dm_gives_1 : decode prog_12_method_34_code 1 = .ok (.iload_n 1, 1) := by decide +kernel
theorem dm_gives_2 : decode prog_12_method_34_code 2 = .ok (.invokevirtual 163, 3) := by decide +kernel
theorem dm_gives_5 : decode prog_12_method_34_code 5 = .ok (.iconst 2, 1) := by decide +kernel
theorem dm_gives_6 : decode prog_12_method_34_code 6 = .ok (.if_icmp .eq 16, 3) := by decide +kernel
theorem dm_gives_9 : decode prog_12_method_34_code 9 = .ok (.aload_n 0, 1) := by decide +kernel
theorem dm_gives_10 : decode prog_12_method_34_code 10 = .ok (.iload_n 1, 1) := by decide +kernel
theorem dm_gives_11 : decode prog_12_method_34_code 11 = .ok (.invokevirtual 163, 3) := by decide +kernel
theorem dm_gives_14 : decode prog_12_method_34_code 14 = .ok (.iconst 4, 1) := by decide +kernel
theorem dm_gives_15 : decode prog_12_method_34_code 15 = .ok (.if_icmp .eq 7, 3) := by decide +kernel
theorem dm_gives_18 : decode prog_12_method_34_code 18 = .ok (.iconst 1, 1) := by decide +kernel
theorem dm_gives_19 : decode prog_12_method_34_code 19 = .ok (.goto 4, 3) := by decide +kernel
theorem dm_gives_22 : decode prog_12_method_34_code 22 = .ok (.iconst 0, 1) := by decide +kernel
theorem dm_gives_23 : decode prog_12_method_34_code 23 = .ok (.ireturn, 1) := by decide +kernel
theorem dm_takes_0 : decode prog_12_method_35_code 0 = .ok (.aload_n 0, 1) := by decide +kernel
theorem dm_takes_1 : decode prog_12_method_35_code 1 = .ok (.iload_n 1, 1) := by decide +kernel
theorem dm_takes_2 : decode prog_12_method_35_code 2 = .ok (.invokevirtual 163, 3) := by decide +kernel
theorem dm_takes_5 : decode prog_12_method_35_code 5 = .ok (.istore_n 3, 1) := by decide +kernel
theorem dm_takes_6 : decode prog_12_method_35_code 6 = .ok (.iload_n 3, 1) := by decide +kernel
theorem dm_takes_7 : decode prog_12_method_35_code 7 = .ok (.iconst 1, 1) := by decide +kernel
theorem dm_takes_8 : decode prog_12_method_35_code 8 = .ok (.if_icmp .eq 8, 3) := by decide +kernel
theorem dm_takes_11 : decode prog_12_method_35_code 11 = .ok (.iload_n 3, 1) := by decide +kernel
theorem dm_takes_12 : decode prog_12_method_35_code 12 = .ok (.iconst 3, 1) := by decide +kernel
theorem dm_takes_13 : decode prog_12_method_35_code 13 = .ok (.if_icmp .ne 7, 3) := by decide +kernel
theorem dm_takes_16 : decode prog_12_method_35_code 16 = .ok (.iconst 1, 1) := by decide +kernel
theorem dm_takes_17 : decode prog_12_method_35_code 17 = .ok (.goto 4, 3) := by decide +kernel
theorem dm_takes_20 : decode prog_12_method_35_code 20 = .ok (.iconst 0, 1) := by decide +kernel
theorem dm_takes_21 : decode prog_12_method_35_code 21 = .ok (.istore 4, 2) := by decide +kernel
theorem dm_takes_23 : decode prog_12_method_35_code 23 = .ok (.iload_n 2, 1) := by decide +kernel
theorem dm_takes_24 : decode prog_12_method_35_code 24 = .ok (.iload_n 1, 1) := by decide +kernel
theorem dm_takes_25 : decode prog_12_method_35_code 25 = .ok (.if_icmp .ne 27, 3) := by decide +kernel
theorem dm_takes_28 : decode prog_12_method_35_code 28 = .ok (.iload 4, 2) := by decide +kernel
theorem dm_takes_30 : decode prog_12_method_35_code 30 = .ok (.ifCond .eq 20, 3) := by decide +kernel
theorem dm_takes_33 : decode prog_12_method_35_code 33 = .ok (.aload_n 0, 1) := by decide +kernel
theorem dm_takes_34 : decode prog_12_method_35_code 34 = .ok (.getfield 7, 3) := by decide +kernel
theorem dm_takes_37 : decode prog_12_method_35_code 37 = .ok (.iconst 0, 1) := by decide +kernel
theorem dm_takes_38 : decode prog_12_method_35_code 38 = .ok (.iconst 4, 1) := by decide +kernel
theorem dm_takes_39 : decode prog_12_method_35_code 39 = .ok (.iload_n 1, 1) := by decide +kernel
theorem dm_takes_40 : decode prog_12_method_35_code 40 = .ok (.imul, 1) := by decide +kernel
theorem dm_takes_41 : decode prog_12_method_35_code 41 = .ok (.iadd, 1) := by decide +kernel
theorem dm_takes_42 : decode prog_12_method_35_code 42 = .ok (.iconst 1, 1) := by decide +kernel
theorem dm_takes_43 : decode prog_12_method_35_code 43 = .ok (.iadd, 1) := by decide +kernel
theorem dm_takes_44 : decode prog_12_method_35_code 44 = .ok (.iaload, 1) := by decide +kernel
theorem dm_takes_45 : decode prog_12_method_35_code 45 = .ok (.iconst 1, 1) := by decide +kernel
theorem dm_takes_46 : decode prog_12_method_35_code 46 = .ok (.iadd, 1) := by decide +kernel
theorem dm_takes_47 : decode prog_12_method_35_code 47 = .ok (.goto 4, 3) := by decide +kernel
theorem dm_takes_50 : decode prog_12_method_35_code 50 = .ok (.iconst 0, 1) := by decide +kernel
theorem dm_takes_51 : decode prog_12_method_35_code 51 = .ok (.ireturn, 1) := by decide +kernel
theorem dm_takes_52 : decode prog_12_method_35_code 52 = .ok (.iload_n 2, 1) := by decide +kernel
theorem dm_takes_53 : decode prog_12_method_35_code 53 = .ok (.iconst 4, 1) := by decide +kernel
theorem dm_takes_54 : decode prog_12_method_35_code 54 = .ok (.if_icmp .ge 35, 3) := by decide +kernel
theorem dm_takes_57 : decode prog_12_method_35_code 57 = .ok (.aload_n 0, 1) := by decide +kernel
theorem dm_takes_58 : decode prog_12_method_35_code 58 = .ok (.iload_n 2, 1) := by decide +kernel
theorem dm_takes_59 : decode prog_12_method_35_code 59 = .ok (.invokevirtual 133, 3) := by decide +kernel
theorem dm_takes_62 : decode prog_12_method_35_code 62 = .ok (.ifCond .eq 25, 3) := by decide +kernel
theorem dm_takes_65 : decode prog_12_method_35_code 65 = .ok (.aload_n 0, 1) := by decide +kernel
theorem dm_takes_66 : decode prog_12_method_35_code 66 = .ok (.iload_n 2, 1) := by decide +kernel
theorem dm_takes_67 : decode prog_12_method_35_code 67 = .ok (.invokevirtual 166, 3) := by decide +kernel
theorem dm_takes_70 : decode prog_12_method_35_code 70 = .ok (.ifCond .eq 17, 3) := by decide +kernel
theorem dm_takes_73 : decode prog_12_method_35_code 73 = .ok (.aload_n 0, 1) := by decide +kernel
theorem dm_takes_74 : decode prog_12_method_35_code 74 = .ok (.getfield 30, 3) := by decide +kernel
theorem dm_takes_77 : decode prog_12_method_35_code 77 = .ok (.bipush 8, 2) := by decide +kernel
theorem dm_takes_79 : decode prog_12_method_35_code 79 = .ok (.iload_n 1, 1) := by decide +kernel
theorem dm_takes_80 : decode prog_12_method_35_code 80 = .ok (.imul, 1) := by decide +kernel
theorem dm_takes_81 : decode prog_12_method_35_code 81 = .ok (.iload_n 2, 1) := by decide +kernel
theorem dm_takes_82 : decode prog_12_method_35_code 82 = .ok (.iadd, 1) := by decide +kernel
theorem dm_takes_83 : decode prog_12_method_35_code 83 = .ok (.iaload, 1) := by decide +kernel
theorem dm_takes_84 : decode prog_12_method_35_code 84 = .ok (.goto 4, 3) := by decide +kernel
theorem dm_takes_87 : decode prog_12_method_35_code 87 = .ok (.iconst 0, 1) := by decide +kernel
theorem dm_takes_88 : decode prog_12_method_35_code 88 = .ok (.ireturn, 1) := by decide +kernel
theorem dm_takes_89 : decode prog_12_method_35_code 89 = .ok (.aload_n 0, 1) := by decide +kernel
theorem dm_takes_90 : decode prog_12_method_35_code 90 = .ok (.iload_n 2, 1) := by decide +kernel
theorem dm_takes_91 : decode prog_12_method_35_code 91 = .ok (.iconst 4, 1) := by decide +kernel
theorem dm_takes_92 : decode prog_12_method_35_code 92 = .ok (.isub, 1) := by decide +kernel
theorem dm_takes_93 : decode prog_12_method_35_code 93 = .ok (.invokevirtual 160, 3) := by decide +kernel
theorem dm_takes_96 : decode prog_12_method_35_code 96 = .ok (.ifCond .ne 7, 3) := by decide +kernel
theorem dm_takes_99 : decode prog_12_method_35_code 99 = .ok (.iconst 0, 1) := by decide +kernel
theorem dm_takes_100 : decode prog_12_method_35_code 100 = .ok (.goto 35, 3) := by decide +kernel
theorem dm_takes_103 : decode prog_12_method_35_code 103 = .ok (.iload_n 3, 1) := by decide +kernel
theorem dm_takes_104 : decode prog_12_method_35_code 104 = .ok (.iconst 3, 1) := by decide +kernel
theorem dm_takes_105 : decode prog_12_method_35_code 105 = .ok (.if_icmp .ne 19, 3) := by decide +kernel
theorem dm_takes_108 : decode prog_12_method_35_code 108 = .ok (.iconst 2, 1) := by decide +kernel
theorem dm_takes_109 : decode prog_12_method_35_code 109 = .ok (.aload_n 0, 1) := by decide +kernel
theorem dm_takes_110 : decode prog_12_method_35_code 110 = .ok (.getfield 30, 3) := by decide +kernel
theorem dm_takes_113 : decode prog_12_method_35_code 113 = .ok (.bipush 8, 2) := by decide +kernel
theorem dm_takes_115 : decode prog_12_method_35_code 115 = .ok (.iload_n 1, 1) := by decide +kernel
theorem dm_takes_116 : decode prog_12_method_35_code 116 = .ok (.imul, 1) := by decide +kernel
theorem dm_takes_117 : decode prog_12_method_35_code 117 = .ok (.iload_n 2, 1) := by decide +kernel
theorem dm_takes_118 : decode prog_12_method_35_code 118 = .ok (.iadd, 1) := by decide +kernel
theorem dm_takes_119 : decode prog_12_method_35_code 119 = .ok (.iaload, 1) := by decide +kernel
theorem dm_takes_120 : decode prog_12_method_35_code 120 = .ok (.imul, 1) := by decide +kernel
theorem dm_takes_121 : decode prog_12_method_35_code 121 = .ok (.goto 14, 3) := by decide +kernel
theorem dm_takes_124 : decode prog_12_method_35_code 124 = .ok (.aload_n 0, 1) := by decide +kernel
theorem dm_takes_125 : decode prog_12_method_35_code 125 = .ok (.getfield 30, 3) := by decide +kernel
theorem dm_takes_128 : decode prog_12_method_35_code 128 = .ok (.bipush 8, 2) := by decide +kernel
theorem dm_takes_130 : decode prog_12_method_35_code 130 = .ok (.iload_n 1, 1) := by decide +kernel
theorem dm_takes_131 : decode prog_12_method_35_code 131 = .ok (.imul, 1) := by decide +kernel
theorem dm_takes_132 : decode prog_12_method_35_code 132 = .ok (.iload_n 2, 1) := by decide +kernel
theorem dm_takes_133 : decode prog_12_method_35_code 133 = .ok (.iadd, 1) := by decide +kernel
theorem dm_takes_134 : decode prog_12_method_35_code 134 = .ok (.iaload, 1) := by decide +kernel
theorem dm_takes_135 : decode prog_12_method_35_code 135 = .ok (.ireturn, 1) := by decide +kernel
theorem dm_takesAll_0 : decode prog_12_method_36_code 0 = .ok (.iconst 0, 1) := by decide +kernel
theorem dm_takesAll_1 : decode prog_12_method_36_code 1 = .ok (.istore_n 2, 1) := by decide +kernel
theorem dm_takesAll_2 : decode prog_12_method_36_code 2 = .ok (.iconst 0, 1) := by decide +kernel
theorem dm_takesAll_3 : decode prog_12_method_36_code 3 = .ok (.istore_n 3, 1) := by decide +kernel
theorem dm_takesAll_4 : decode prog_12_method_36_code 4 = .ok (.iload_n 3, 1) := by decide +kernel
theorem dm_takesAll_5 : decode prog_12_method_36_code 5 = .ok (.bipush 8, 2) := by decide +kernel
theorem dm_takesAll_7 : decode prog_12_method_36_code 7 = .ok (.if_icmp .ge 18, 3) := by decide +kernel
theorem dm_takesAll_10 : decode prog_12_method_36_code 10 = .ok (.iload_n 2, 1) := by decide +kernel
theorem dm_takesAll_11 : decode prog_12_method_36_code 11 = .ok (.aload_n 0, 1) := by decide +kernel
theorem dm_takesAll_12 : decode prog_12_method_36_code 12 = .ok (.iload_n 1, 1) := by decide +kernel
theorem dm_takesAll_13 : decode prog_12_method_36_code 13 = .ok (.iload_n 3, 1) := by decide +kernel
theorem dm_takesAll_14 : decode prog_12_method_36_code 14 = .ok (.invokevirtual 169, 3) := by decide +kernel
theorem dm_takesAll_17 : decode prog_12_method_36_code 17 = .ok (.iadd, 1) := by decide +kernel
theorem dm_takesAll_18 : decode prog_12_method_36_code 18 = .ok (.istore_n 2, 1) := by decide +kernel
theorem dm_takesAll_19 : decode prog_12_method_36_code 19 = .ok (.iinc 3 1, 3) := by decide +kernel
theorem dm_takesAll_22 : decode prog_12_method_36_code 22 = .ok (.goto (-18), 3) := by decide +kernel
theorem dm_takesAll_25 : decode prog_12_method_36_code 25 = .ok (.iload_n 2, 1) := by decide +kernel
theorem dm_takesAll_26 : decode prog_12_method_36_code 26 = .ok (.ireturn, 1) := by decide +kernel
theorem dm_lay_0 : decode prog_12_method_37_code 0 = .ok (.iload_n 2, 1) := by decide +kernel
theorem dm_lay_1 : decode prog_12_method_37_code 1 = .ok (.iconst 4, 1) := by decide +kernel
theorem dm_lay_2 : decode prog_12_method_37_code 2 = .ok (.if_icmp .ge 15, 3) := by decide +kernel
theorem dm_lay_5 : decode prog_12_method_37_code 5 = .ok (.aload_n 0, 1) := by decide +kernel
theorem dm_lay_6 : decode prog_12_method_37_code 6 = .ok (.iload_n 1, 1) := by decide +kernel
theorem dm_lay_7 : decode prog_12_method_37_code 7 = .ok (.bipush 14, 2) := by decide +kernel
theorem dm_lay_9 : decode prog_12_method_37_code 9 = .ok (.iload_n 2, 1) := by decide +kernel
theorem dm_lay_10 : decode prog_12_method_37_code 10 = .ok (.iadd, 1) := by decide +kernel
theorem dm_lay_11 : decode prog_12_method_37_code 11 = .ok (.invokevirtual 84, 3) := by decide +kernel
theorem dm_lay_14 : decode prog_12_method_37_code 14 = .ok (.goto 24, 3) := by decide +kernel
theorem dm_lay_17 : decode prog_12_method_37_code 17 = .ok (.aload_n 0, 1) := by decide +kernel
theorem dm_lay_18 : decode prog_12_method_37_code 18 = .ok (.iload_n 1, 1) := by decide +kernel
theorem dm_lay_19 : decode prog_12_method_37_code 19 = .ok (.bipush 18, 2) := by decide +kernel
theorem dm_lay_21 : decode prog_12_method_37_code 21 = .ok (.invokevirtual 84, 3) := by decide +kernel
theorem dm_lay_24 : decode prog_12_method_37_code 24 = .ok (.aload_n 0, 1) := by decide +kernel
theorem dm_lay_25 : decode prog_12_method_37_code 25 = .ok (.iload_n 1, 1) := by decide +kernel
theorem dm_lay_26 : decode prog_12_method_37_code 26 = .ok (.aload_n 0, 1) := by decide +kernel
theorem dm_lay_27 : decode prog_12_method_37_code 27 = .ok (.getfield 33, 3) := by decide +kernel
theorem dm_lay_30 : decode prog_12_method_37_code 30 = .ok (.iload_n 2, 1) := by decide +kernel
theorem dm_lay_31 : decode prog_12_method_37_code 31 = .ok (.iconst 4, 1) := by decide +kernel
theorem dm_lay_32 : decode prog_12_method_37_code 32 = .ok (.isub, 1) := by decide +kernel
theorem dm_lay_33 : decode prog_12_method_37_code 33 = .ok (.iaload, 1) := by decide +kernel
theorem dm_lay_34 : decode prog_12_method_37_code 34 = .ok (.i2l, 1) := by decide +kernel
theorem dm_lay_35 : decode prog_12_method_37_code 35 = .ok (.invokevirtual 102, 3) := by decide +kernel
theorem dm_lay_38 : decode prog_12_method_37_code 38 = .ok (.return_, 1) := by decide +kernel
theorem dm_divisor_0 : decode prog_12_method_38_code 0 = .ok (.iload_n 0, 1) := by decide +kernel
theorem dm_divisor_1 : decode prog_12_method_38_code 1 = .ok (.istore_n 2, 1) := by decide +kernel
theorem dm_divisor_2 : decode prog_12_method_38_code 2 = .ok (.iload_n 1, 1) := by decide +kernel
theorem dm_divisor_3 : decode prog_12_method_38_code 3 = .ok (.istore_n 3, 1) := by decide +kernel
theorem dm_divisor_4 : decode prog_12_method_38_code 4 = .ok (.iload_n 3, 1) := by decide +kernel
theorem dm_divisor_5 : decode prog_12_method_38_code 5 = .ok (.ifCond .eq 16, 3) := by decide +kernel
theorem dm_divisor_8 : decode prog_12_method_38_code 8 = .ok (.iload_n 2, 1) := by decide +kernel
theorem dm_divisor_9 : decode prog_12_method_38_code 9 = .ok (.iload_n 3, 1) := by decide +kernel
theorem dm_divisor_10 : decode prog_12_method_38_code 10 = .ok (.irem, 1) := by decide +kernel
theorem dm_divisor_11 : decode prog_12_method_38_code 11 = .ok (.istore 4, 2) := by decide +kernel
theorem dm_divisor_13 : decode prog_12_method_38_code 13 = .ok (.iload_n 3, 1) := by decide +kernel
theorem dm_divisor_14 : decode prog_12_method_38_code 14 = .ok (.istore_n 2, 1) := by decide +kernel
theorem dm_divisor_15 : decode prog_12_method_38_code 15 = .ok (.iload 4, 2) := by decide +kernel
theorem dm_divisor_17 : decode prog_12_method_38_code 17 = .ok (.istore_n 3, 1) := by decide +kernel
theorem dm_divisor_18 : decode prog_12_method_38_code 18 = .ok (.goto (-14), 3) := by decide +kernel
theorem dm_divisor_21 : decode prog_12_method_38_code 21 = .ok (.iload_n 2, 1) := by decide +kernel
theorem dm_divisor_22 : decode prog_12_method_38_code 22 = .ok (.ireturn, 1) := by decide +kernel
theorem dm_isMean_0 : decode prog_12_method_39_code 0 = .ok (.aload_n 0, 1) := by decide +kernel
theorem dm_isMean_1 : decode prog_12_method_39_code 1 = .ok (.iload_n 1, 1) := by decide +kernel
theorem dm_isMean_2 : decode prog_12_method_39_code 2 = .ok (.invokevirtual 163, 3) := by decide +kernel
theorem dm_isMean_5 : decode prog_12_method_39_code 5 = .ok (.iconst 4, 1) := by decide +kernel
theorem dm_isMean_6 : decode prog_12_method_39_code 6 = .ok (.if_icmp .eq 15, 3) := by decide +kernel
theorem dm_isMean_9 : decode prog_12_method_39_code 9 = .ok (.aload_n 0, 1) := by decide +kernel
theorem dm_isMean_10 : decode prog_12_method_39_code 10 = .ok (.iload_n 1, 1) := by decide +kernel
theorem dm_isMean_11 : decode prog_12_method_39_code 11 = .ok (.invokevirtual 172, 3) := by decide +kernel
theorem dm_isMean_14 : decode prog_12_method_39_code 14 = .ok (.ifCond .le 7, 3) := by decide +kernel
theorem dm_isMean_17 : decode prog_12_method_39_code 17 = .ok (.iconst 1, 1) := by decide +kernel
theorem dm_isMean_18 : decode prog_12_method_39_code 18 = .ok (.goto 4, 3) := by decide +kernel
theorem dm_isMean_21 : decode prog_12_method_39_code 21 = .ok (.iconst 0, 1) := by decide +kernel
theorem dm_isMean_22 : decode prog_12_method_39_code 22 = .ok (.ireturn, 1) := by decide +kernel
theorem dm_layMean_0 : decode prog_12_method_40_code 0 = .ok (.aload_n 0, 1) := by decide +kernel
theorem dm_layMean_1 : decode prog_12_method_40_code 1 = .ok (.bipush 7, 2) := by decide +kernel
theorem dm_layMean_3 : decode prog_12_method_40_code 3 = .ok (.lconst 0, 1) := by decide +kernel
theorem dm_layMean_4 : decode prog_12_method_40_code 4 = .ok (.invokevirtual 72, 3) := by decide +kernel
theorem dm_layMean_7 : decode prog_12_method_40_code 7 = .ok (.iconst 0, 1) := by decide +kernel
theorem dm_layMean_8 : decode prog_12_method_40_code 8 = .ok (.istore_n 3, 1) := by decide +kernel
theorem dm_layMean_9 : decode prog_12_method_40_code 9 = .ok (.iload_n 3, 1) := by decide +kernel
theorem dm_layMean_10 : decode prog_12_method_40_code 10 = .ok (.bipush 8, 2) := by decide +kernel
theorem dm_layMean_12 : decode prog_12_method_40_code 12 = .ok (.if_icmp .ge 46, 3) := by decide +kernel
theorem dm_layMean_15 : decode prog_12_method_40_code 15 = .ok (.aload_n 0, 1) := by decide +kernel
theorem dm_layMean_16 : decode prog_12_method_40_code 16 = .ok (.iload_n 1, 1) := by decide +kernel
theorem dm_layMean_17 : decode prog_12_method_40_code 17 = .ok (.iload_n 3, 1) := by decide +kernel
theorem dm_layMean_18 : decode prog_12_method_40_code 18 = .ok (.invokevirtual 169, 3) := by decide +kernel
theorem dm_layMean_21 : decode prog_12_method_40_code 21 = .ok (.ifCond .le 31, 3) := by decide +kernel
theorem dm_layMean_24 : decode prog_12_method_40_code 24 = .ok (.aload_n 0, 1) := by decide +kernel
theorem dm_layMean_25 : decode prog_12_method_40_code 25 = .ok (.bipush 8, 2) := by decide +kernel
theorem dm_layMean_27 : decode prog_12_method_40_code 27 = .ok (.iload_n 3, 1) := by decide +kernel
theorem dm_layMean_28 : decode prog_12_method_40_code 28 = .ok (.invokevirtual 175, 3) := by decide +kernel
theorem dm_layMean_31 : decode prog_12_method_40_code 31 = .ok (.aload_n 0, 1) := by decide +kernel
theorem dm_layMean_32 : decode prog_12_method_40_code 32 = .ok (.bipush 8, 2) := by decide +kernel
theorem dm_layMean_34 : decode prog_12_method_40_code 34 = .ok (.aload_n 0, 1) := by decide +kernel
theorem dm_layMean_35 : decode prog_12_method_40_code 35 = .ok (.iload_n 1, 1) := by decide +kernel
theorem dm_layMean_36 : decode prog_12_method_40_code 36 = .ok (.iload_n 3, 1) := by decide +kernel
theorem dm_layMean_37 : decode prog_12_method_40_code 37 = .ok (.invokevirtual 169, 3) := by decide +kernel
theorem dm_layMean_40 : decode prog_12_method_40_code 40 = .ok (.i2l, 1) := by decide +kernel
theorem dm_layMean_41 : decode prog_12_method_40_code 41 = .ok (.invokevirtual 102, 3) := by decide +kernel
theorem dm_layMean_44 : decode prog_12_method_40_code 44 = .ok (.aload_n 0, 1) := by decide +kernel
theorem dm_layMean_45 : decode prog_12_method_40_code 45 = .ok (.bipush 7, 2) := by decide +kernel
theorem dm_layMean_47 : decode prog_12_method_40_code 47 = .ok (.bipush 8, 2) := by decide +kernel
theorem dm_layMean_49 : decode prog_12_method_40_code 49 = .ok (.invokevirtual 178, 3) := by decide +kernel
theorem dm_layMean_52 : decode prog_12_method_40_code 52 = .ok (.iinc 3 1, 3) := by decide +kernel
theorem dm_layMean_55 : decode prog_12_method_40_code 55 = .ok (.goto (-46), 3) := by decide +kernel
theorem dm_layMean_58 : decode prog_12_method_40_code 58 = .ok (.aload_n 0, 1) := by decide +kernel
theorem dm_layMean_59 : decode prog_12_method_40_code 59 = .ok (.bipush 7, 2) := by decide +kernel
theorem dm_layMean_61 : decode prog_12_method_40_code 61 = .ok (.iload_n 2, 1) := by decide +kernel
theorem dm_layMean_62 : decode prog_12_method_40_code 62 = .ok (.aload_n 0, 1) := by decide +kernel
theorem dm_layMean_63 : decode prog_12_method_40_code 63 = .ok (.iload_n 1, 1) := by decide +kernel
theorem dm_layMean_64 : decode prog_12_method_40_code 64 = .ok (.invokevirtual 172, 3) := by decide +kernel
theorem dm_layMean_67 : decode prog_12_method_40_code 67 = .ok (.idiv, 1) := by decide +kernel
theorem dm_layMean_68 : decode prog_12_method_40_code 68 = .ok (.i2l, 1) := by decide +kernel
theorem dm_layMean_69 : decode prog_12_method_40_code 69 = .ok (.invokevirtual 102, 3) := by decide +kernel
theorem dm_layMean_72 : decode prog_12_method_40_code 72 = .ok (.aload_n 0, 1) := by decide +kernel
theorem dm_layMean_73 : decode prog_12_method_40_code 73 = .ok (.bipush 10, 2) := by decide +kernel
theorem dm_layMean_75 : decode prog_12_method_40_code 75 = .ok (.iload_n 1, 1) := by decide +kernel
theorem dm_layMean_76 : decode prog_12_method_40_code 76 = .ok (.iadd, 1) := by decide +kernel
theorem dm_layMean_77 : decode prog_12_method_40_code 77 = .ok (.bipush 7, 2) := by decide +kernel
theorem dm_layMean_79 : decode prog_12_method_40_code 79 = .ok (.invokevirtual 84, 3) := by decide +kernel
theorem dm_layMean_82 : decode prog_12_method_40_code 82 = .ok (.return_, 1) := by decide +kernel
theorem dm_layGreatest_0 : decode prog_12_method_41_code 0 = .ok (.iconst 0, 1) := by decide +kernel
theorem dm_layGreatest_1 : decode prog_12_method_41_code 1 = .ok (.istore_n 3, 1) := by decide +kernel
theorem dm_layGreatest_2 : decode prog_12_method_41_code 2 = .ok (.iconst 0, 1) := by decide +kernel
theorem dm_layGreatest_3 : decode prog_12_method_41_code 3 = .ok (.istore 4, 2) := by decide +kernel
theorem dm_layGreatest_5 : decode prog_12_method_41_code 5 = .ok (.iload 4, 2) := by decide +kernel
theorem dm_layGreatest_7 : decode prog_12_method_41_code 7 = .ok (.bipush 8, 2) := by decide +kernel
theorem dm_layGreatest_9 : decode prog_12_method_41_code 9 = .ok (.if_icmp .ge 99, 3) := by decide +kernel
theorem dm_layGreatest_12 : decode prog_12_method_41_code 12 = .ok (.iload 4, 2) := by decide +kernel
theorem dm_layGreatest_14 : decode prog_12_method_41_code 14 = .ok (.iload_n 1, 1) := by decide +kernel
theorem dm_layGreatest_15 : decode prog_12_method_41_code 15 = .ok (.if_icmp .eq 46, 3) := by decide +kernel
theorem dm_layGreatest_18 : decode prog_12_method_41_code 18 = .ok (.aload_n 0, 1) := by decide +kernel
theorem dm_layGreatest_19 : decode prog_12_method_41_code 19 = .ok (.iload 4, 2) := by decide +kernel
theorem dm_layGreatest_21 : decode prog_12_method_41_code 21 = .ok (.invokevirtual 153, 3) := by decide +kernel
theorem dm_layGreatest_24 : decode prog_12_method_41_code 24 = .ok (.ifCond .eq 37, 3) := by decide +kernel
theorem dm_layGreatest_27 : decode prog_12_method_41_code 27 = .ok (.aload_n 0, 1) := by decide +kernel
theorem dm_layGreatest_28 : decode prog_12_method_41_code 28 = .ok (.getfield 30, 3) := by decide +kernel
theorem dm_layGreatest_31 : decode prog_12_method_41_code 31 = .ok (.bipush 8, 2) := by decide +kernel
theorem dm_layGreatest_33 : decode prog_12_method_41_code 33 = .ok (.iload_n 1, 1) := by decide +kernel
theorem dm_layGreatest_34 : decode prog_12_method_41_code 34 = .ok (.imul, 1) := by decide +kernel
theorem dm_layGreatest_35 : decode prog_12_method_41_code 35 = .ok (.iload 4, 2) := by decide +kernel
theorem dm_layGreatest_37 : decode prog_12_method_41_code 37 = .ok (.iadd, 1) := by decide +kernel
theorem dm_layGreatest_38 : decode prog_12_method_41_code 38 = .ok (.iaload, 1) := by decide +kernel
theorem dm_layGreatest_39 : decode prog_12_method_41_code 39 = .ok (.ifCond .le 22, 3) := by decide +kernel
theorem dm_layGreatest_42 : decode prog_12_method_41_code 42 = .ok (.iload 4, 2) := by decide +kernel
theorem dm_layGreatest_44 : decode prog_12_method_41_code 44 = .ok (.iconst 3, 1) := by decide +kernel
theorem dm_layGreatest_45 : decode prog_12_method_41_code 45 = .ok (.if_icmp .gt 12, 3) := by decide +kernel
theorem dm_layGreatest_48 : decode prog_12_method_41_code 48 = .ok (.aload_n 0, 1) := by decide +kernel
theorem dm_layGreatest_49 : decode prog_12_method_41_code 49 = .ok (.iload 4, 2) := by decide +kernel
theorem dm_layGreatest_51 : decode prog_12_method_41_code 51 = .ok (.invokevirtual 166, 3) := by decide +kernel
theorem dm_layGreatest_54 : decode prog_12_method_41_code 54 = .ok (.ifCond .eq 7, 3) := by decide +kernel
theorem dm_layGreatest_57 : decode prog_12_method_41_code 57 = .ok (.iconst 1, 1) := by decide +kernel
theorem dm_layGreatest_58 : decode prog_12_method_41_code 58 = .ok (.goto 4, 3) := by decide +kernel
theorem dm_layGreatest_61 : decode prog_12_method_41_code 61 = .ok (.iconst 0, 1) := by decide +kernel
theorem dm_layGreatest_62 : decode prog_12_method_41_code 62 = .ok (.istore 5, 2) := by decide +kernel
theorem dm_layGreatest_64 : decode prog_12_method_41_code 64 = .ok (.iload 5, 2) := by decide +kernel
theorem dm_layGreatest_66 : decode prog_12_method_41_code 66 = .ok (.ifCond .eq 36, 3) := by decide +kernel
theorem dm_layGreatest_69 : decode prog_12_method_41_code 69 = .ok (.aload_n 0, 1) := by decide +kernel
theorem dm_layGreatest_70 : decode prog_12_method_41_code 70 = .ok (.bipush 8, 2) := by decide +kernel
theorem dm_layGreatest_72 : decode prog_12_method_41_code 72 = .ok (.iload 4, 2) := by decide +kernel
theorem dm_layGreatest_74 : decode prog_12_method_41_code 74 = .ok (.invokevirtual 175, 3) := by decide +kernel
theorem dm_layGreatest_77 : decode prog_12_method_41_code 77 = .ok (.iload_n 3, 1) := by decide +kernel
theorem dm_layGreatest_78 : decode prog_12_method_41_code 78 = .ok (.ifCond .eq 14, 3) := by decide +kernel
theorem dm_layGreatest_81 : decode prog_12_method_41_code 81 = .ok (.aload_n 0, 1) := by decide +kernel
theorem dm_layGreatest_82 : decode prog_12_method_41_code 82 = .ok (.bipush 8, 2) := by decide +kernel
theorem dm_layGreatest_84 : decode prog_12_method_41_code 84 = .ok (.bipush 9, 2) := by decide +kernel
theorem dm_layGreatest_86 : decode prog_12_method_41_code 86 = .ok (.invokevirtual 95, 3) := by decide +kernel
theorem dm_layGreatest_89 : decode prog_12_method_41_code 89 = .ok (.ifCond .le 11, 3) := by decide +kernel
theorem dm_layGreatest_92 : decode prog_12_method_41_code 92 = .ok (.aload_n 0, 1) := by decide +kernel
theorem dm_layGreatest_93 : decode prog_12_method_41_code 93 = .ok (.bipush 9, 2) := by decide +kernel
theorem dm_layGreatest_95 : decode prog_12_method_41_code 95 = .ok (.bipush 8, 2) := by decide +kernel
theorem dm_layGreatest_97 : decode prog_12_method_41_code 97 = .ok (.invokevirtual 84, 3) := by decide +kernel
theorem dm_layGreatest_100 : decode prog_12_method_41_code 100 = .ok (.iconst 1, 1) := by decide +kernel
theorem dm_layGreatest_101 : decode prog_12_method_41_code 101 = .ok (.istore_n 3, 1) := by decide +kernel
theorem dm_layGreatest_102 : decode prog_12_method_41_code 102 = .ok (.iinc 4 1, 3) := by decide +kernel
theorem dm_layGreatest_105 : decode prog_12_method_41_code 105 = .ok (.goto (-100), 3) := by decide +kernel
theorem dm_layGreatest_108 : decode prog_12_method_41_code 108 = .ok (.aload_n 0, 1) := by decide +kernel
theorem dm_layGreatest_109 : decode prog_12_method_41_code 109 = .ok (.bipush 10, 2) := by decide +kernel
theorem dm_layGreatest_111 : decode prog_12_method_41_code 111 = .ok (.iload_n 1, 1) := by decide +kernel
theorem dm_layGreatest_112 : decode prog_12_method_41_code 112 = .ok (.iadd, 1) := by decide +kernel
theorem dm_layGreatest_113 : decode prog_12_method_41_code 113 = .ok (.iload_n 3, 1) := by decide +kernel
theorem dm_layGreatest_114 : decode prog_12_method_41_code 114 = .ok (.ifCond .eq 8, 3) := by decide +kernel
theorem dm_layGreatest_117 : decode prog_12_method_41_code 117 = .ok (.bipush 9, 2) := by decide +kernel
theorem dm_layGreatest_119 : decode prog_12_method_41_code 119 = .ok (.goto 7, 3) := by decide +kernel
theorem dm_layGreatest_122 : decode prog_12_method_41_code 122 = .ok (.bipush 14, 2) := by decide +kernel
theorem dm_layGreatest_124 : decode prog_12_method_41_code 124 = .ok (.iload_n 1, 1) := by decide +kernel
theorem dm_layGreatest_125 : decode prog_12_method_41_code 125 = .ok (.iadd, 1) := by decide +kernel
theorem dm_layGreatest_126 : decode prog_12_method_41_code 126 = .ok (.invokevirtual 84, 3) := by decide +kernel
theorem dm_layGreatest_129 : decode prog_12_method_41_code 129 = .ok (.aload_n 0, 1) := by decide +kernel
theorem dm_layGreatest_130 : decode prog_12_method_41_code 130 = .ok (.bipush 10, 2) := by decide +kernel
theorem dm_layGreatest_132 : decode prog_12_method_41_code 132 = .ok (.iload_n 1, 1) := by decide +kernel
theorem dm_layGreatest_133 : decode prog_12_method_41_code 133 = .ok (.iadd, 1) := by decide +kernel
theorem dm_layGreatest_134 : decode prog_12_method_41_code 134 = .ok (.iload_n 2, 1) := by decide +kernel
theorem dm_layGreatest_135 : decode prog_12_method_41_code 135 = .ok (.i2l, 1) := by decide +kernel
theorem dm_layGreatest_136 : decode prog_12_method_41_code 136 = .ok (.invokevirtual 102, 3) := by decide +kernel
theorem dm_layGreatest_139 : decode prog_12_method_41_code 139 = .ok (.return_, 1) := by decide +kernel
theorem dm_night_0 : decode prog_12_method_42_code 0 = .ok (.iconst 1, 1) := by decide +kernel
theorem dm_night_1 : decode prog_12_method_42_code 1 = .ok (.istore_n 1, 1) := by decide +kernel
theorem dm_night_2 : decode prog_12_method_42_code 2 = .ok (.iconst 0, 1) := by decide +kernel
theorem dm_night_3 : decode prog_12_method_42_code 3 = .ok (.istore_n 2, 1) := by decide +kernel
theorem dm_night_4 : decode prog_12_method_42_code 4 = .ok (.iload_n 2, 1) := by decide +kernel
theorem dm_night_5 : decode prog_12_method_42_code 5 = .ok (.aload_n 0, 1) := by decide +kernel
theorem dm_night_6 : decode prog_12_method_42_code 6 = .ok (.invokevirtual 122, 3) := by decide +kernel
theorem dm_night_9 : decode prog_12_method_42_code 9 = .ok (.if_icmp .ge 37, 3) := by decide +kernel
theorem dm_night_12 : decode prog_12_method_42_code 12 = .ok (.aload_n 0, 1) := by decide +kernel
theorem dm_night_13 : decode prog_12_method_42_code 13 = .ok (.iload_n 2, 1) := by decide +kernel
theorem dm_night_14 : decode prog_12_method_42_code 14 = .ok (.invokevirtual 181, 3) := by decide +kernel
theorem dm_night_17 : decode prog_12_method_42_code 17 = .ok (.ifCond .eq 11, 3) := by decide +kernel
theorem dm_night_20 : decode prog_12_method_42_code 20 = .ok (.aload_n 0, 1) := by decide +kernel
theorem dm_night_21 : decode prog_12_method_42_code 21 = .ok (.iload_n 2, 1) := by decide +kernel
theorem dm_night_22 : decode prog_12_method_42_code 22 = .ok (.invokevirtual 172, 3) := by decide +kernel
theorem dm_night_25 : decode prog_12_method_42_code 25 = .ok (.goto 4, 3) := by decide +kernel
theorem dm_night_28 : decode prog_12_method_42_code 28 = .ok (.iconst 1, 1) := by decide +kernel
theorem dm_night_29 : decode prog_12_method_42_code 29 = .ok (.istore_n 3, 1) := by decide +kernel
theorem dm_night_30 : decode prog_12_method_42_code 30 = .ok (.iload_n 1, 1) := by decide +kernel
theorem dm_night_31 : decode prog_12_method_42_code 31 = .ok (.iload_n 1, 1) := by decide +kernel
theorem dm_night_32 : decode prog_12_method_42_code 32 = .ok (.iload_n 3, 1) := by decide +kernel
theorem dm_night_33 : decode prog_12_method_42_code 33 = .ok (.invokestatic 184, 3) := by decide +kernel
theorem dm_night_36 : decode prog_12_method_42_code 36 = .ok (.idiv, 1) := by decide +kernel
theorem dm_night_37 : decode prog_12_method_42_code 37 = .ok (.iload_n 3, 1) := by decide +kernel
theorem dm_night_38 : decode prog_12_method_42_code 38 = .ok (.imul, 1) := by decide +kernel
theorem dm_night_39 : decode prog_12_method_42_code 39 = .ok (.istore_n 1, 1) := by decide +kernel
theorem dm_night_40 : decode prog_12_method_42_code 40 = .ok (.iinc 2 1, 3) := by decide +kernel
theorem dm_night_43 : decode prog_12_method_42_code 43 = .ok (.goto (-39), 3) := by decide +kernel
theorem dm_night_46 : decode prog_12_method_42_code 46 = .ok (.iconst 0, 1) := by decide +kernel
theorem dm_night_47 : decode prog_12_method_42_code 47 = .ok (.istore_n 2, 1) := by decide +kernel
theorem dm_night_48 : decode prog_12_method_42_code 48 = .ok (.iload_n 2, 1) := by decide +kernel
theorem dm_night_49 : decode prog_12_method_42_code 49 = .ok (.aload_n 0, 1) := by decide +kernel
theorem dm_night_50 : decode prog_12_method_42_code 50 = .ok (.invokevirtual 122, 3) := by decide +kernel
theorem dm_night_53 : decode prog_12_method_42_code 53 = .ok (.if_icmp .ge 66, 3) := by decide +kernel
theorem dm_night_56 : decode prog_12_method_42_code 56 = .ok (.aload_n 0, 1) := by decide +kernel
theorem dm_night_57 : decode prog_12_method_42_code 57 = .ok (.iload_n 2, 1) := by decide +kernel
theorem dm_night_58 : decode prog_12_method_42_code 58 = .ok (.invokevirtual 181, 3) := by decide +kernel
theorem dm_night_61 : decode prog_12_method_42_code 61 = .ok (.ifCond .eq 12, 3) := by decide +kernel
theorem dm_night_64 : decode prog_12_method_42_code 64 = .ok (.aload_n 0, 1) := by decide +kernel
theorem dm_night_65 : decode prog_12_method_42_code 65 = .ok (.iload_n 2, 1) := by decide +kernel
theorem dm_night_66 : decode prog_12_method_42_code 66 = .ok (.iload_n 1, 1) := by decide +kernel
theorem dm_night_67 : decode prog_12_method_42_code 67 = .ok (.invokevirtual 187, 3) := by decide +kernel
theorem dm_night_70 : decode prog_12_method_42_code 70 = .ok (.goto 43, 3) := by decide +kernel
theorem dm_night_73 : decode prog_12_method_42_code 73 = .ok (.aload_n 0, 1) := by decide +kernel
theorem dm_night_74 : decode prog_12_method_42_code 74 = .ok (.iload_n 2, 1) := by decide +kernel
theorem dm_night_75 : decode prog_12_method_42_code 75 = .ok (.invokevirtual 163, 3) := by decide +kernel
theorem dm_night_78 : decode prog_12_method_42_code 78 = .ok (.iconst 4, 1) := by decide +kernel
theorem dm_night_79 : decode prog_12_method_42_code 79 = .ok (.if_icmp .ne 12, 3) := by decide +kernel
theorem dm_night_82 : decode prog_12_method_42_code 82 = .ok (.aload_n 0, 1) := by decide +kernel
theorem dm_night_83 : decode prog_12_method_42_code 83 = .ok (.iload_n 2, 1) := by decide +kernel
theorem dm_night_84 : decode prog_12_method_42_code 84 = .ok (.iload_n 1, 1) := by decide +kernel
theorem dm_night_85 : decode prog_12_method_42_code 85 = .ok (.invokevirtual 190, 3) := by decide +kernel
theorem dm_night_88 : decode prog_12_method_42_code 88 = .ok (.goto 25, 3) := by decide +kernel
theorem dm_night_91 : decode prog_12_method_42_code 91 = .ok (.aload_n 0, 1) := by decide +kernel
theorem dm_night_92 : decode prog_12_method_42_code 92 = .ok (.bipush 10, 2) := by decide +kernel
theorem dm_night_94 : decode prog_12_method_42_code 94 = .ok (.iload_n 2, 1) := by decide +kernel
theorem dm_night_95 : decode prog_12_method_42_code 95 = .ok (.iadd, 1) := by decide +kernel
theorem dm_night_96 : decode prog_12_method_42_code 96 = .ok (.bipush 14, 2) := by decide +kernel
theorem dm_night_98 : decode prog_12_method_42_code 98 = .ok (.iload_n 2, 1) := by decide +kernel
theorem dm_night_99 : decode prog_12_method_42_code 99 = .ok (.iadd, 1) := by decide +kernel
theorem dm_night_100 : decode prog_12_method_42_code 100 = .ok (.invokevirtual 84, 3) := by decide +kernel
theorem dm_night_103 : decode prog_12_method_42_code 103 = .ok (.aload_n 0, 1) := by decide +kernel
theorem dm_night_104 : decode prog_12_method_42_code 104 = .ok (.bipush 10, 2) := by decide +kernel
theorem dm_night_106 : decode prog_12_method_42_code 106 = .ok (.iload_n 2, 1) := by decide +kernel
theorem dm_night_107 : decode prog_12_method_42_code 107 = .ok (.iadd, 1) := by decide +kernel
theorem dm_night_108 : decode prog_12_method_42_code 108 = .ok (.iload_n 1, 1) := by decide +kernel
theorem dm_night_109 : decode prog_12_method_42_code 109 = .ok (.i2l, 1) := by decide +kernel
theorem dm_night_110 : decode prog_12_method_42_code 110 = .ok (.invokevirtual 102, 3) := by decide +kernel
theorem dm_night_113 : decode prog_12_method_42_code 113 = .ok (.iinc 2 1, 3) := by decide +kernel
theorem dm_night_116 : decode prog_12_method_42_code 116 = .ok (.goto (-68), 3) := by decide +kernel
theorem dm_night_119 : decode prog_12_method_42_code 119 = .ok (.iconst 0, 1) := by decide +kernel
theorem dm_night_120 : decode prog_12_method_42_code 120 = .ok (.istore_n 2, 1) := by decide +kernel
theorem dm_night_121 : decode prog_12_method_42_code 121 = .ok (.iload_n 2, 1) := by decide +kernel
theorem dm_night_122 : decode prog_12_method_42_code 122 = .ok (.aload_n 0, 1) := by decide +kernel
theorem dm_night_123 : decode prog_12_method_42_code 123 = .ok (.invokevirtual 122, 3) := by decide +kernel
theorem dm_night_126 : decode prog_12_method_42_code 126 = .ok (.if_icmp .ge 21, 3) := by decide +kernel
theorem dm_night_129 : decode prog_12_method_42_code 129 = .ok (.aload_n 0, 1) := by decide +kernel
theorem dm_night_130 : decode prog_12_method_42_code 130 = .ok (.bipush 14, 2) := by decide +kernel
theorem dm_night_132 : decode prog_12_method_42_code 132 = .ok (.iload_n 2, 1) := by decide +kernel
theorem dm_night_133 : decode prog_12_method_42_code 133 = .ok (.iadd, 1) := by decide +kernel
theorem dm_night_134 : decode prog_12_method_42_code 134 = .ok (.bipush 10, 2) := by decide +kernel
theorem dm_night_136 : decode prog_12_method_42_code 136 = .ok (.iload_n 2, 1) := by decide +kernel
theorem dm_night_137 : decode prog_12_method_42_code 137 = .ok (.iadd, 1) := by decide +kernel
theorem dm_night_138 : decode prog_12_method_42_code 138 = .ok (.invokevirtual 84, 3) := by decide +kernel
theorem dm_night_141 : decode prog_12_method_42_code 141 = .ok (.iinc 2 1, 3) := by decide +kernel
theorem dm_night_144 : decode prog_12_method_42_code 144 = .ok (.goto (-23), 3) := by decide +kernel
theorem dm_night_147 : decode prog_12_method_42_code 147 = .ok (.aload_n 0, 1) := by decide +kernel
theorem dm_night_148 : decode prog_12_method_42_code 148 = .ok (.bipush 18, 2) := by decide +kernel
theorem dm_night_150 : decode prog_12_method_42_code 150 = .ok (.iload_n 1, 1) := by decide +kernel
theorem dm_night_151 : decode prog_12_method_42_code 151 = .ok (.i2l, 1) := by decide +kernel
theorem dm_night_152 : decode prog_12_method_42_code 152 = .ok (.invokevirtual 102, 3) := by decide +kernel
theorem dm_night_155 : decode prog_12_method_42_code 155 = .ok (.return_, 1) := by decide +kernel
theorem dm_nights_0 : decode prog_12_method_43_code 0 = .ok (.iconst 0, 1) := by decide +kernel
theorem dm_nights_1 : decode prog_12_method_43_code 1 = .ok (.istore_n 2, 1) := by decide +kernel
theorem dm_nights_2 : decode prog_12_method_43_code 2 = .ok (.iload_n 2, 1) := by decide +kernel
theorem dm_nights_3 : decode prog_12_method_43_code 3 = .ok (.iload_n 1, 1) := by decide +kernel
theorem dm_nights_4 : decode prog_12_method_43_code 4 = .ok (.if_icmp .ge 13, 3) := by decide +kernel
theorem dm_nights_7 : decode prog_12_method_43_code 7 = .ok (.aload_n 0, 1) := by decide +kernel
theorem dm_nights_8 : decode prog_12_method_43_code 8 = .ok (.invokevirtual 193, 3) := by decide +kernel
theorem dm_nights_11 : decode prog_12_method_43_code 11 = .ok (.iinc 2 1, 3) := by decide +kernel
theorem dm_nights_14 : decode prog_12_method_43_code 14 = .ok (.goto (-12), 3) := by decide +kernel
theorem dm_nights_17 : decode prog_12_method_43_code 17 = .ok (.return_, 1) := by decide +kernel
theorem dm_hasLeast_0 : decode prog_12_method_44_code 0 = .ok (.aload_n 0, 1) := by decide +kernel
theorem dm_hasLeast_1 : decode prog_12_method_44_code 1 = .ok (.bipush 8, 2) := by decide +kernel
theorem dm_hasLeast_3 : decode prog_12_method_44_code 3 = .ok (.bipush 18, 2) := by decide +kernel
theorem dm_hasLeast_5 : decode prog_12_method_44_code 5 = .ok (.invokevirtual 84, 3) := by decide +kernel
theorem dm_hasLeast_8 : decode prog_12_method_44_code 8 = .ok (.aload_n 0, 1) := by decide +kernel
theorem dm_hasLeast_9 : decode prog_12_method_44_code 9 = .ok (.bipush 8, 2) := by decide +kernel
theorem dm_hasLeast_11 : decode prog_12_method_44_code 11 = .ok (.iload_n 2, 1) := by decide +kernel
theorem dm_hasLeast_12 : decode prog_12_method_44_code 12 = .ok (.i2l, 1) := by decide +kernel
theorem dm_hasLeast_13 : decode prog_12_method_44_code 13 = .ok (.invokevirtual 102, 3) := by decide +kernel
theorem dm_hasLeast_16 : decode prog_12_method_44_code 16 = .ok (.aload_n 0, 1) := by decide +kernel
theorem dm_hasLeast_17 : decode prog_12_method_44_code 17 = .ok (.bipush 14, 2) := by decide +kernel
theorem dm_hasLeast_19 : decode prog_12_method_44_code 19 = .ok (.iload_n 1, 1) := by decide +kernel
theorem dm_hasLeast_20 : decode prog_12_method_44_code 20 = .ok (.iadd, 1) := by decide +kernel
theorem dm_hasLeast_21 : decode prog_12_method_44_code 21 = .ok (.bipush 8, 2) := by decide +kernel
theorem dm_hasLeast_23 : decode prog_12_method_44_code 23 = .ok (.invokevirtual 95, 3) := by decide +kernel
theorem dm_hasLeast_26 : decode prog_12_method_44_code 26 = .ok (.ifCond .lt 7, 3) := by decide +kernel
theorem dm_hasLeast_29 : decode prog_12_method_44_code 29 = .ok (.iconst 1, 1) := by decide +kernel
theorem dm_hasLeast_30 : decode prog_12_method_44_code 30 = .ok (.goto 4, 3) := by decide +kernel
theorem dm_hasLeast_33 : decode prog_12_method_44_code 33 = .ok (.iconst 0, 1) := by decide +kernel
theorem dm_hasLeast_34 : decode prog_12_method_44_code 34 = .ok (.ireturn, 1) := by decide +kernel
theorem dm_hasMost_0 : decode prog_12_method_45_code 0 = .ok (.aload_n 0, 1) := by decide +kernel
theorem dm_hasMost_1 : decode prog_12_method_45_code 1 = .ok (.bipush 8, 2) := by decide +kernel
theorem dm_hasMost_3 : decode prog_12_method_45_code 3 = .ok (.bipush 18, 2) := by decide +kernel
theorem dm_hasMost_5 : decode prog_12_method_45_code 5 = .ok (.invokevirtual 84, 3) := by decide +kernel
theorem dm_hasMost_8 : decode prog_12_method_45_code 8 = .ok (.aload_n 0, 1) := by decide +kernel
theorem dm_hasMost_9 : decode prog_12_method_45_code 9 = .ok (.bipush 8, 2) := by decide +kernel
theorem dm_hasMost_11 : decode prog_12_method_45_code 11 = .ok (.iload_n 2, 1) := by decide +kernel
theorem dm_hasMost_12 : decode prog_12_method_45_code 12 = .ok (.i2l, 1) := by decide +kernel
theorem dm_hasMost_13 : decode prog_12_method_45_code 13 = .ok (.invokevirtual 102, 3) := by decide +kernel
theorem dm_hasMost_16 : decode prog_12_method_45_code 16 = .ok (.aload_n 0, 1) := by decide +kernel
theorem dm_hasMost_17 : decode prog_12_method_45_code 17 = .ok (.bipush 14, 2) := by decide +kernel
theorem dm_hasMost_19 : decode prog_12_method_45_code 19 = .ok (.iload_n 1, 1) := by decide +kernel
theorem dm_hasMost_20 : decode prog_12_method_45_code 20 = .ok (.iadd, 1) := by decide +kernel
theorem dm_hasMost_21 : decode prog_12_method_45_code 21 = .ok (.bipush 8, 2) := by decide +kernel
theorem dm_hasMost_23 : decode prog_12_method_45_code 23 = .ok (.invokevirtual 95, 3) := by decide +kernel
theorem dm_hasMost_26 : decode prog_12_method_45_code 26 = .ok (.ifCond .gt 7, 3) := by decide +kernel
theorem dm_hasMost_29 : decode prog_12_method_45_code 29 = .ok (.iconst 1, 1) := by decide +kernel
theorem dm_hasMost_30 : decode prog_12_method_45_code 30 = .ok (.goto 4, 3) := by decide +kernel
theorem dm_hasMost_33 : decode prog_12_method_45_code 33 = .ok (.iconst 0, 1) := by decide +kernel
theorem dm_hasMost_34 : decode prog_12_method_45_code 34 = .ok (.ireturn, 1) := by decide +kernel
theorem dm_tellOver_0 : decode prog_12_method_46_code 0 = .ok (.aload_n 0, 1) := by decide +kernel
theorem dm_tellOver_1 : decode prog_12_method_46_code 1 = .ok (.iconst 2, 1) := by decide +kernel
theorem dm_tellOver_2 : decode prog_12_method_46_code 2 = .ok (.iload_n 1, 1) := by decide +kernel
theorem dm_tellOver_3 : decode prog_12_method_46_code 3 = .ok (.invokevirtual 84, 3) := by decide +kernel
theorem dm_tellOver_6 : decode prog_12_method_46_code 6 = .ok (.aload_n 0, 1) := by decide +kernel
theorem dm_tellOver_7 : decode prog_12_method_46_code 7 = .ok (.iconst 3, 1) := by decide +kernel
theorem dm_tellOver_8 : decode prog_12_method_46_code 8 = .ok (.bipush 18, 2) := by decide +kernel
theorem dm_tellOver_10 : decode prog_12_method_46_code 10 = .ok (.invokevirtual 84, 3) := by decide +kernel
theorem dm_tellOver_13 : decode prog_12_method_46_code 13 = .ok (.aload_n 0, 1) := by decide +kernel
theorem dm_tellOver_14 : decode prog_12_method_46_code 14 = .ok (.iconst 3, 1) := by decide +kernel
theorem dm_tellOver_15 : decode prog_12_method_46_code 15 = .ok (.lload_n 2, 1) := by decide +kernel
theorem dm_tellOver_16 : decode prog_12_method_46_code 16 = .ok (.invokevirtual 102, 3) := by decide +kernel
theorem dm_tellOver_19 : decode prog_12_method_46_code 19 = .ok (.aload_n 0, 1) := by decide +kernel
theorem dm_tellOver_20 : decode prog_12_method_46_code 20 = .ok (.iconst 2, 1) := by decide +kernel
theorem dm_tellOver_21 : decode prog_12_method_46_code 21 = .ok (.iconst 3, 1) := by decide +kernel
theorem dm_tellOver_22 : decode prog_12_method_46_code 22 = .ok (.iconst 0, 1) := by decide +kernel
theorem dm_tellOver_23 : decode prog_12_method_46_code 23 = .ok (.invokevirtual 118, 3) := by decide +kernel
theorem dm_tellOver_26 : decode prog_12_method_46_code 26 = .ok (.iconst 1, 1) := by decide +kernel
theorem dm_tellOver_27 : decode prog_12_method_46_code 27 = .ok (.ireturn, 1) := by decide +kernel
theorem dm_shade_0 : decode prog_12_method_47_code 0 = .ok (.aload_n 0, 1) := by decide +kernel
theorem dm_shade_1 : decode prog_12_method_47_code 1 = .ok (.iload_n 1, 1) := by decide +kernel
theorem dm_shade_2 : decode prog_12_method_47_code 2 = .ok (.invokevirtual 133, 3) := by decide +kernel
theorem dm_shade_5 : decode prog_12_method_47_code 5 = .ok (.ifCond .eq 15, 3) := by decide +kernel
theorem dm_shade_8 : decode prog_12_method_47_code 8 = .ok (.iload_n 2, 1) := by decide +kernel
theorem dm_shade_9 : decode prog_12_method_47_code 9 = .ok (.i2l, 1) := by decide +kernel
theorem dm_shade_10 : decode prog_12_method_47_code 10 = .ok (.lconst 0, 1) := by decide +kernel
theorem dm_shade_11 : decode prog_12_method_47_code 11 = .ok (.ldc2_w 140, 3) := by decide +kernel
theorem dm_shade_14 : decode prog_12_method_47_code 14 = .ok (.invokestatic 126, 3) := by decide +kernel
theorem dm_shade_17 : decode prog_12_method_47_code 17 = .ok (.ifCond .ne 10, 3) := by decide +kernel
theorem dm_shade_20 : decode prog_12_method_47_code 20 = .ok (.aload_n 0, 1) := by decide +kernel
theorem dm_shade_21 : decode prog_12_method_47_code 21 = .ok (.bipush (-2), 2) := by decide +kernel
theorem dm_shade_23 : decode prog_12_method_47_code 23 = .ok (.invokevirtual 142, 3) := by decide +kernel
theorem dm_shade_26 : decode prog_12_method_47_code 26 = .ok (.ireturn, 1) := by decide +kernel
theorem dm_shade_27 : decode prog_12_method_47_code 27 = .ok (.aload_n 0, 1) := by decide +kernel
theorem dm_shade_28 : decode prog_12_method_47_code 28 = .ok (.invokevirtual 196, 3) := by decide +kernel
theorem dm_shade_31 : decode prog_12_method_47_code 31 = .ok (.aload_n 0, 1) := by decide +kernel
theorem dm_shade_32 : decode prog_12_method_47_code 32 = .ok (.iload_n 2, 1) := by decide +kernel
theorem dm_shade_33 : decode prog_12_method_47_code 33 = .ok (.invokevirtual 199, 3) := by decide +kernel
theorem dm_shade_36 : decode prog_12_method_47_code 36 = .ok (.aload_n 0, 1) := by decide +kernel
theorem dm_shade_37 : decode prog_12_method_47_code 37 = .ok (.bipush 14, 2) := by decide +kernel
theorem dm_shade_39 : decode prog_12_method_47_code 39 = .ok (.iload_n 1, 1) := by decide +kernel
theorem dm_shade_40 : decode prog_12_method_47_code 40 = .ok (.iadd, 1) := by decide +kernel
theorem dm_shade_41 : decode prog_12_method_47_code 41 = .ok (.ldc2_w 140, 3) := by decide +kernel
theorem dm_shade_44 : decode prog_12_method_47_code 44 = .ok (.invokevirtual 202, 3) := by decide +kernel
theorem dm_shade_47 : decode prog_12_method_47_code 47 = .ok (.ireturn, 1) := by decide +kernel
theorem dm_copyState_0 : decode prog_12_method_48_code 0 = .ok (.iconst 0, 1) := by decide +kernel
theorem dm_copyState_1 : decode prog_12_method_48_code 1 = .ok (.istore_n 3, 1) := by decide +kernel
theorem dm_copyState_2 : decode prog_12_method_48_code 2 = .ok (.iload_n 3, 1) := by decide +kernel
theorem dm_copyState_3 : decode prog_12_method_48_code 3 = .ok (.iconst 5, 1) := by decide +kernel
theorem dm_copyState_4 : decode prog_12_method_48_code 4 = .ok (.if_icmp .ge 19, 3) := by decide +kernel
theorem dm_copyState_7 : decode prog_12_method_48_code 7 = .ok (.aload_n 0, 1) := by decide +kernel
theorem dm_copyState_8 : decode prog_12_method_48_code 8 = .ok (.iload_n 1, 1) := by decide +kernel
theorem dm_copyState_9 : decode prog_12_method_48_code 9 = .ok (.iload_n 3, 1) := by decide +kernel
theorem dm_copyState_10 : decode prog_12_method_48_code 10 = .ok (.iadd, 1) := by decide +kernel
theorem dm_copyState_11 : decode prog_12_method_48_code 11 = .ok (.iload_n 2, 1) := by decide +kernel
theorem dm_copyState_12 : decode prog_12_method_48_code 12 = .ok (.iload_n 3, 1) := by decide +kernel
theorem dm_copyState_13 : decode prog_12_method_48_code 13 = .ok (.iadd, 1) := by decide +kernel
theorem dm_copyState_14 : decode prog_12_method_48_code 14 = .ok (.invokevirtual 84, 3) := by decide +kernel
theorem dm_copyState_17 : decode prog_12_method_48_code 17 = .ok (.iinc 3 1, 3) := by decide +kernel
theorem dm_copyState_20 : decode prog_12_method_48_code 20 = .ok (.goto (-18), 3) := by decide +kernel
theorem dm_copyState_23 : decode prog_12_method_48_code 23 = .ok (.return_, 1) := by decide +kernel
theorem dm_sleep_0 : decode prog_12_method_49_code 0 = .ok (.aload_n 0, 1) := by decide +kernel
theorem dm_sleep_1 : decode prog_12_method_49_code 1 = .ok (.getfield 7, 3) := by decide +kernel
theorem dm_sleep_4 : decode prog_12_method_49_code 4 = .ok (.bipush 78, 2) := by decide +kernel
theorem dm_sleep_6 : decode prog_12_method_49_code 6 = .ok (.iaload, 1) := by decide +kernel
theorem dm_sleep_7 : decode prog_12_method_49_code 7 = .ok (.bipush 12, 2) := by decide +kernel
theorem dm_sleep_9 : decode prog_12_method_49_code 9 = .ok (.if_icmp .ne 8, 3) := by decide +kernel
theorem dm_sleep_12 : decode prog_12_method_49_code 12 = .ok (.aload_n 0, 1) := by decide +kernel
theorem dm_sleep_13 : decode prog_12_method_49_code 13 = .ok (.invokevirtual 206, 3) := by decide +kernel
theorem dm_sleep_16 : decode prog_12_method_49_code 16 = .ok (.ireturn, 1) := by decide +kernel
theorem dm_sleep_17 : decode prog_12_method_49_code 17 = .ok (.aload_n 0, 1) := by decide +kernel
theorem dm_sleep_18 : decode prog_12_method_49_code 18 = .ok (.getfield 7, 3) := by decide +kernel
theorem dm_sleep_21 : decode prog_12_method_49_code 21 = .ok (.bipush 79, 2) := by decide +kernel
theorem dm_sleep_23 : decode prog_12_method_49_code 23 = .ok (.iaload, 1) := by decide +kernel
theorem dm_sleep_24 : decode prog_12_method_49_code 24 = .ok (.bipush 6, 2) := by decide +kernel
theorem dm_sleep_26 : decode prog_12_method_49_code 26 = .ok (.if_icmp .ne 42, 3) := by decide +kernel
theorem dm_sleep_29 : decode prog_12_method_49_code 29 = .ok (.iconst 0, 1) := by decide +kernel
theorem dm_sleep_30 : decode prog_12_method_49_code 30 = .ok (.istore_n 1, 1) := by decide +kernel
theorem dm_sleep_31 : decode prog_12_method_49_code 31 = .ok (.iload_n 1, 1) := by decide +kernel
theorem dm_sleep_32 : decode prog_12_method_49_code 32 = .ok (.iconst 5, 1) := by decide +kernel
theorem dm_sleep_33 : decode prog_12_method_49_code 33 = .ok (.if_icmp .ge 27, 3) := by decide +kernel
theorem dm_sleep_36 : decode prog_12_method_49_code 36 = .ok (.aload_n 0, 1) := by decide +kernel
theorem dm_sleep_37 : decode prog_12_method_49_code 37 = .ok (.bipush 24, 2) := by decide +kernel
theorem dm_sleep_39 : decode prog_12_method_49_code 39 = .ok (.iconst 5, 1) := by decide +kernel
theorem dm_sleep_40 : decode prog_12_method_49_code 40 = .ok (.iload_n 1, 1) := by decide +kernel
theorem dm_sleep_41 : decode prog_12_method_49_code 41 = .ok (.imul, 1) := by decide +kernel
theorem dm_sleep_42 : decode prog_12_method_49_code 42 = .ok (.iadd, 1) := by decide +kernel
theorem dm_sleep_43 : decode prog_12_method_49_code 43 = .ok (.bipush 24, 2) := by decide +kernel
theorem dm_sleep_45 : decode prog_12_method_49_code 45 = .ok (.iconst 5, 1) := by decide +kernel
theorem dm_sleep_46 : decode prog_12_method_49_code 46 = .ok (.iload_n 1, 1) := by decide +kernel
theorem dm_sleep_47 : decode prog_12_method_49_code 47 = .ok (.imul, 1) := by decide +kernel
theorem dm_sleep_48 : decode prog_12_method_49_code 48 = .ok (.iadd, 1) := by decide +kernel
theorem dm_sleep_49 : decode prog_12_method_49_code 49 = .ok (.iconst 5, 1) := by decide +kernel
theorem dm_sleep_50 : decode prog_12_method_49_code 50 = .ok (.iadd, 1) := by decide +kernel
theorem dm_sleep_51 : decode prog_12_method_49_code 51 = .ok (.invokevirtual 209, 3) := by decide +kernel
theorem dm_sleep_54 : decode prog_12_method_49_code 54 = .ok (.iinc 1 1, 3) := by decide +kernel
theorem dm_sleep_57 : decode prog_12_method_49_code 57 = .ok (.goto (-26), 3) := by decide +kernel
theorem dm_sleep_60 : decode prog_12_method_49_code 60 = .ok (.aload_n 0, 1) := by decide +kernel
theorem dm_sleep_61 : decode prog_12_method_49_code 61 = .ok (.getfield 7, 3) := by decide +kernel
theorem dm_sleep_64 : decode prog_12_method_49_code 64 = .ok (.bipush 79, 2) := by decide +kernel
theorem dm_sleep_66 : decode prog_12_method_49_code 66 = .ok (.iconst 5, 1) := by decide +kernel
theorem dm_sleep_67 : decode prog_12_method_49_code 67 = .ok (.iastore, 1) := by decide +kernel
theorem dm_sleep_68 : decode prog_12_method_49_code 68 = .ok (.aload_n 0, 1) := by decide +kernel
theorem dm_sleep_69 : decode prog_12_method_49_code 69 = .ok (.bipush 24, 2) := by decide +kernel
theorem dm_sleep_71 : decode prog_12_method_49_code 71 = .ok (.iconst 5, 1) := by decide +kernel
theorem dm_sleep_72 : decode prog_12_method_49_code 72 = .ok (.aload_n 0, 1) := by decide +kernel
theorem dm_sleep_73 : decode prog_12_method_49_code 73 = .ok (.getfield 7, 3) := by decide +kernel
theorem dm_sleep_76 : decode prog_12_method_49_code 76 = .ok (.bipush 79, 2) := by decide +kernel
theorem dm_sleep_78 : decode prog_12_method_49_code 78 = .ok (.iaload, 1) := by decide +kernel
theorem dm_sleep_79 : decode prog_12_method_49_code 79 = .ok (.imul, 1) := by decide +kernel
theorem dm_sleep_80 : decode prog_12_method_49_code 80 = .ok (.iadd, 1) := by decide +kernel
theorem dm_sleep_81 : decode prog_12_method_49_code 81 = .ok (.bipush 19, 2) := by decide +kernel
theorem dm_sleep_83 : decode prog_12_method_49_code 83 = .ok (.invokevirtual 209, 3) := by decide +kernel
theorem dm_sleep_86 : decode prog_12_method_49_code 86 = .ok (.aload_n 0, 1) := by decide +kernel
theorem dm_sleep_87 : decode prog_12_method_49_code 87 = .ok (.getfield 7, 3) := by decide +kernel
theorem dm_sleep_90 : decode prog_12_method_49_code 90 = .ok (.bipush 79, 2) := by decide +kernel
theorem dm_sleep_92 : decode prog_12_method_49_code 92 = .ok (.dup2, 1) := by decide +kernel
theorem dm_sleep_93 : decode prog_12_method_49_code 93 = .ok (.iaload, 1) := by decide +kernel
theorem dm_sleep_94 : decode prog_12_method_49_code 94 = .ok (.iconst 1, 1) := by decide +kernel
theorem dm_sleep_95 : decode prog_12_method_49_code 95 = .ok (.iadd, 1) := by decide +kernel
theorem dm_sleep_96 : decode prog_12_method_49_code 96 = .ok (.iastore, 1) := by decide +kernel
theorem dm_sleep_97 : decode prog_12_method_49_code 97 = .ok (.aload_n 0, 1) := by decide +kernel
theorem dm_sleep_98 : decode prog_12_method_49_code 98 = .ok (.invokevirtual 196, 3) := by decide +kernel
theorem dm_sleep_101 : decode prog_12_method_49_code 101 = .ok (.aload_n 0, 1) := by decide +kernel
theorem dm_sleep_102 : decode prog_12_method_49_code 102 = .ok (.invokevirtual 193, 3) := by decide +kernel
theorem dm_sleep_105 : decode prog_12_method_49_code 105 = .ok (.aload_n 0, 1) := by decide +kernel
theorem dm_sleep_106 : decode prog_12_method_49_code 106 = .ok (.bipush 19, 2) := by decide +kernel
theorem dm_sleep_108 : decode prog_12_method_49_code 108 = .ok (.bipush 14, 2) := by decide +kernel
theorem dm_sleep_110 : decode prog_12_method_49_code 110 = .ok (.invokevirtual 209, 3) := by decide +kernel
theorem dm_sleep_113 : decode prog_12_method_49_code 113 = .ok (.aload_n 0, 1) := by decide +kernel
theorem dm_sleep_114 : decode prog_12_method_49_code 114 = .ok (.getfield 7, 3) := by decide +kernel
theorem dm_sleep_117 : decode prog_12_method_49_code 117 = .ok (.bipush 78, 2) := by decide +kernel
theorem dm_sleep_119 : decode prog_12_method_49_code 119 = .ok (.dup2, 1) := by decide +kernel
theorem dm_sleep_120 : decode prog_12_method_49_code 120 = .ok (.iaload, 1) := by decide +kernel
theorem dm_sleep_121 : decode prog_12_method_49_code 121 = .ok (.iconst 1, 1) := by decide +kernel
theorem dm_sleep_122 : decode prog_12_method_49_code 122 = .ok (.iadd, 1) := by decide +kernel
theorem dm_sleep_123 : decode prog_12_method_49_code 123 = .ok (.iastore, 1) := by decide +kernel
theorem dm_sleep_124 : decode prog_12_method_49_code 124 = .ok (.aload_n 0, 1) := by decide +kernel
theorem dm_sleep_125 : decode prog_12_method_49_code 125 = .ok (.getfield 7, 3) := by decide +kernel
theorem dm_sleep_128 : decode prog_12_method_49_code 128 = .ok (.bipush 78, 2) := by decide +kernel
theorem dm_sleep_130 : decode prog_12_method_49_code 130 = .ok (.iaload, 1) := by decide +kernel
theorem dm_sleep_131 : decode prog_12_method_49_code 131 = .ok (.ireturn, 1) := by decide +kernel
theorem dm_undo_0 : decode prog_12_method_50_code 0 = .ok (.aload_n 0, 1) := by decide +kernel
theorem dm_undo_1 : decode prog_12_method_50_code 1 = .ok (.getfield 7, 3) := by decide +kernel
theorem dm_undo_4 : decode prog_12_method_50_code 4 = .ok (.bipush 79, 2) := by decide +kernel
theorem dm_undo_6 : decode prog_12_method_50_code 6 = .ok (.iaload, 1) := by decide +kernel
theorem dm_undo_7 : decode prog_12_method_50_code 7 = .ok (.ifCond .ne 8, 3) := by decide +kernel
theorem dm_undo_10 : decode prog_12_method_50_code 10 = .ok (.aload_n 0, 1) := by decide +kernel
theorem dm_undo_11 : decode prog_12_method_50_code 11 = .ok (.invokevirtual 206, 3) := by decide +kernel
theorem dm_undo_14 : decode prog_12_method_50_code 14 = .ok (.ireturn, 1) := by decide +kernel
theorem dm_undo_15 : decode prog_12_method_50_code 15 = .ok (.aload_n 0, 1) := by decide +kernel
theorem dm_undo_16 : decode prog_12_method_50_code 16 = .ok (.getfield 7, 3) := by decide +kernel
theorem dm_undo_19 : decode prog_12_method_50_code 19 = .ok (.bipush 79, 2) := by decide +kernel
theorem dm_undo_21 : decode prog_12_method_50_code 21 = .ok (.dup2, 1) := by decide +kernel
theorem dm_undo_22 : decode prog_12_method_50_code 22 = .ok (.iaload, 1) := by decide +kernel
theorem dm_undo_23 : decode prog_12_method_50_code 23 = .ok (.iconst 1, 1) := by decide +kernel
theorem dm_undo_24 : decode prog_12_method_50_code 24 = .ok (.isub, 1) := by decide +kernel
theorem dm_undo_25 : decode prog_12_method_50_code 25 = .ok (.iastore, 1) := by decide +kernel
theorem dm_undo_26 : decode prog_12_method_50_code 26 = .ok (.aload_n 0, 1) := by decide +kernel
theorem dm_undo_27 : decode prog_12_method_50_code 27 = .ok (.getfield 7, 3) := by decide +kernel
theorem dm_undo_30 : decode prog_12_method_50_code 30 = .ok (.bipush 78, 2) := by decide +kernel
theorem dm_undo_32 : decode prog_12_method_50_code 32 = .ok (.dup2, 1) := by decide +kernel
theorem dm_undo_33 : decode prog_12_method_50_code 33 = .ok (.iaload, 1) := by decide +kernel
theorem dm_undo_34 : decode prog_12_method_50_code 34 = .ok (.iconst 1, 1) := by decide +kernel
theorem dm_undo_35 : decode prog_12_method_50_code 35 = .ok (.isub, 1) := by decide +kernel
theorem dm_undo_36 : decode prog_12_method_50_code 36 = .ok (.iastore, 1) := by decide +kernel
theorem dm_undo_37 : decode prog_12_method_50_code 37 = .ok (.aload_n 0, 1) := by decide +kernel
theorem dm_undo_38 : decode prog_12_method_50_code 38 = .ok (.bipush 19, 2) := by decide +kernel
theorem dm_undo_40 : decode prog_12_method_50_code 40 = .ok (.bipush 24, 2) := by decide +kernel
theorem dm_undo_42 : decode prog_12_method_50_code 42 = .ok (.iconst 5, 1) := by decide +kernel
theorem dm_undo_43 : decode prog_12_method_50_code 43 = .ok (.aload_n 0, 1) := by decide +kernel
theorem dm_undo_44 : decode prog_12_method_50_code 44 = .ok (.getfield 7, 3) := by decide +kernel
theorem dm_undo_47 : decode prog_12_method_50_code 47 = .ok (.bipush 79, 2) := by decide +kernel
theorem dm_undo_49 : decode prog_12_method_50_code 49 = .ok (.iaload, 1) := by decide +kernel
theorem dm_undo_50 : decode prog_12_method_50_code 50 = .ok (.imul, 1) := by decide +kernel
theorem dm_undo_51 : decode prog_12_method_50_code 51 = .ok (.iadd, 1) := by decide +kernel
theorem dm_undo_52 : decode prog_12_method_50_code 52 = .ok (.invokevirtual 209, 3) := by decide +kernel
theorem dm_undo_55 : decode prog_12_method_50_code 55 = .ok (.iconst 1, 1) := by decide +kernel
theorem dm_undo_56 : decode prog_12_method_50_code 56 = .ok (.ireturn, 1) := by decide +kernel
theorem dm_soRed_0 : decode prog_12_method_51_code 0 = .ok (.aload_n 0, 1) := by decide +kernel
theorem dm_soRed_1 : decode prog_12_method_51_code 1 = .ok (.iload_n 1, 1) := by decide +kernel
theorem dm_soRed_2 : decode prog_12_method_51_code 2 = .ok (.invokevirtual 133, 3) := by decide +kernel
theorem dm_soRed_5 : decode prog_12_method_51_code 5 = .ok (.ifCond .eq 15, 3) := by decide +kernel
theorem dm_soRed_8 : decode prog_12_method_51_code 8 = .ok (.iload_n 2, 1) := by decide +kernel
theorem dm_soRed_9 : decode prog_12_method_51_code 9 = .ok (.i2l, 1) := by decide +kernel
theorem dm_soRed_10 : decode prog_12_method_51_code 10 = .ok (.lconst 0, 1) := by decide +kernel
theorem dm_soRed_11 : decode prog_12_method_51_code 11 = .ok (.ldc2_w 140, 3) := by decide +kernel
theorem dm_soRed_14 : decode prog_12_method_51_code 14 = .ok (.invokestatic 126, 3) := by decide +kernel
theorem dm_soRed_17 : decode prog_12_method_51_code 17 = .ok (.ifCond .ne 10, 3) := by decide +kernel
theorem dm_soRed_20 : decode prog_12_method_51_code 20 = .ok (.aload_n 0, 1) := by decide +kernel
theorem dm_soRed_21 : decode prog_12_method_51_code 21 = .ok (.bipush (-2), 2) := by decide +kernel
theorem dm_soRed_23 : decode prog_12_method_51_code 23 = .ok (.invokevirtual 142, 3) := by decide +kernel
theorem dm_soRed_26 : decode prog_12_method_51_code 26 = .ok (.ireturn, 1) := by decide +kernel
theorem dm_soRed_27 : decode prog_12_method_51_code 27 = .ok (.aload_n 0, 1) := by decide +kernel
theorem dm_soRed_28 : decode prog_12_method_51_code 28 = .ok (.invokevirtual 196, 3) := by decide +kernel
theorem dm_soRed_31 : decode prog_12_method_51_code 31 = .ok (.iconst 0, 1) := by decide +kernel
theorem dm_soRed_32 : decode prog_12_method_51_code 32 = .ok (.istore_n 3, 1) := by decide +kernel
theorem dm_soRed_33 : decode prog_12_method_51_code 33 = .ok (.iload_n 3, 1) := by decide +kernel
theorem dm_soRed_34 : decode prog_12_method_51_code 34 = .ok (.bipush 12, 2) := by decide +kernel
theorem dm_soRed_36 : decode prog_12_method_51_code 36 = .ok (.if_icmp .gt 24, 3) := by decide +kernel
theorem dm_soRed_39 : decode prog_12_method_51_code 39 = .ok (.aload_n 0, 1) := by decide +kernel
theorem dm_soRed_40 : decode prog_12_method_51_code 40 = .ok (.iload_n 1, 1) := by decide +kernel
theorem dm_soRed_41 : decode prog_12_method_51_code 41 = .ok (.iload_n 2, 1) := by decide +kernel
theorem dm_soRed_42 : decode prog_12_method_51_code 42 = .ok (.invokevirtual 212, 3) := by decide +kernel
theorem dm_soRed_45 : decode prog_12_method_51_code 45 = .ok (.ifCond .eq 5, 3) := by decide +kernel
theorem dm_soRed_48 : decode prog_12_method_51_code 48 = .ok (.iload_n 3, 1) := by decide +kernel
theorem dm_soRed_49 : decode prog_12_method_51_code 49 = .ok (.ireturn, 1) := by decide +kernel
theorem dm_soRed_50 : decode prog_12_method_51_code 50 = .ok (.aload_n 0, 1) := by decide +kernel
theorem dm_soRed_51 : decode prog_12_method_51_code 51 = .ok (.invokevirtual 193, 3) := by decide +kernel
theorem dm_soRed_54 : decode prog_12_method_51_code 54 = .ok (.iinc 3 1, 3) := by decide +kernel
theorem dm_soRed_57 : decode prog_12_method_51_code 57 = .ok (.goto (-24), 3) := by decide +kernel
theorem dm_soRed_60 : decode prog_12_method_51_code 60 = .ok (.iconst (-1), 1) := by decide +kernel
theorem dm_soRed_61 : decode prog_12_method_51_code 61 = .ok (.ireturn, 1) := by decide +kernel
theorem dm_layRows_0 : decode prog_12_method_52_code 0 = .ok (.iconst 0, 1) := by decide +kernel
theorem dm_layRows_1 : decode prog_12_method_52_code 1 = .ok (.istore_n 1, 1) := by decide +kernel
theorem dm_layRows_2 : decode prog_12_method_52_code 2 = .ok (.iload_n 1, 1) := by decide +kernel
theorem dm_layRows_3 : decode prog_12_method_52_code 3 = .ok (.bipush 16, 2) := by decide +kernel
theorem dm_layRows_5 : decode prog_12_method_52_code 5 = .ok (.if_icmp .ge 16, 3) := by decide +kernel
theorem dm_layRows_8 : decode prog_12_method_52_code 8 = .ok (.aload_n 0, 1) := by decide +kernel
theorem dm_layRows_9 : decode prog_12_method_52_code 9 = .ok (.getfield 36, 3) := by decide +kernel
theorem dm_layRows_12 : decode prog_12_method_52_code 12 = .ok (.iload_n 1, 1) := by decide +kernel
theorem dm_layRows_13 : decode prog_12_method_52_code 13 = .ok (.lconst 0, 1) := by decide +kernel
theorem dm_layRows_14 : decode prog_12_method_52_code 14 = .ok (.lastore, 1) := by decide +kernel
theorem dm_layRows_15 : decode prog_12_method_52_code 15 = .ok (.iinc 1 1, 3) := by decide +kernel
theorem dm_layRows_18 : decode prog_12_method_52_code 18 = .ok (.goto (-16), 3) := by decide +kernel
theorem dm_layRows_21 : decode prog_12_method_52_code 21 = .ok (.iconst 0, 1) := by decide +kernel
theorem dm_layRows_22 : decode prog_12_method_52_code 22 = .ok (.istore_n 1, 1) := by decide +kernel
theorem dm_layRows_23 : decode prog_12_method_52_code 23 = .ok (.iload_n 1, 1) := by decide +kernel
theorem dm_layRows_24 : decode prog_12_method_52_code 24 = .ok (.iconst 4, 1) := by decide +kernel
theorem dm_layRows_25 : decode prog_12_method_52_code 25 = .ok (.if_icmp .ge 106, 3) := by decide +kernel
theorem dm_layRows_28 : decode prog_12_method_52_code 28 = .ok (.iload_n 1, 1) := by decide +kernel
theorem dm_layRows_29 : decode prog_12_method_52_code 29 = .ok (.aload_n 0, 1) := by decide +kernel
theorem dm_layRows_30 : decode prog_12_method_52_code 30 = .ok (.invokevirtual 122, 3) := by decide +kernel
theorem dm_layRows_33 : decode prog_12_method_52_code 33 = .ok (.if_icmp .ge 15, 3) := by decide +kernel
theorem dm_layRows_36 : decode prog_12_method_52_code 36 = .ok (.aload_n 0, 1) := by decide +kernel
theorem dm_layRows_37 : decode prog_12_method_52_code 37 = .ok (.iload_n 1, 1) := by decide +kernel
theorem dm_layRows_38 : decode prog_12_method_52_code 38 = .ok (.invokevirtual 172, 3) := by decide +kernel
theorem dm_layRows_41 : decode prog_12_method_52_code 41 = .ok (.ifCond .le 7, 3) := by decide +kernel
theorem dm_layRows_44 : decode prog_12_method_52_code 44 = .ok (.iconst 1, 1) := by decide +kernel
theorem dm_layRows_45 : decode prog_12_method_52_code 45 = .ok (.goto 4, 3) := by decide +kernel
theorem dm_layRows_48 : decode prog_12_method_52_code 48 = .ok (.iconst 0, 1) := by decide +kernel
theorem dm_layRows_49 : decode prog_12_method_52_code 49 = .ok (.istore_n 2, 1) := by decide +kernel
theorem dm_layRows_50 : decode prog_12_method_52_code 50 = .ok (.aload_n 0, 1) := by decide +kernel
theorem dm_layRows_51 : decode prog_12_method_52_code 51 = .ok (.getfield 36, 3) := by decide +kernel
theorem dm_layRows_54 : decode prog_12_method_52_code 54 = .ok (.iconst 5, 1) := by decide +kernel
theorem dm_layRows_55 : decode prog_12_method_52_code 55 = .ok (.iload_n 1, 1) := by decide +kernel
theorem dm_layRows_56 : decode prog_12_method_52_code 56 = .ok (.imul, 1) := by decide +kernel
theorem dm_layRows_57 : decode prog_12_method_52_code 57 = .ok (.iload_n 2, 1) := by decide +kernel
theorem dm_layRows_58 : decode prog_12_method_52_code 58 = .ok (.ifCond .eq 19, 3) := by decide +kernel
theorem dm_layRows_61 : decode prog_12_method_52_code 61 = .ok (.aload_n 0, 1) := by decide +kernel
theorem dm_layRows_62 : decode prog_12_method_52_code 62 = .ok (.iload_n 1, 1) := by decide +kernel
theorem dm_layRows_63 : decode prog_12_method_52_code 63 = .ok (.invokevirtual 172, 3) := by decide +kernel
theorem dm_layRows_66 : decode prog_12_method_52_code 66 = .ok (.aload_n 0, 1) := by decide +kernel
theorem dm_layRows_67 : decode prog_12_method_52_code 67 = .ok (.iload_n 1, 1) := by decide +kernel
theorem dm_layRows_68 : decode prog_12_method_52_code 68 = .ok (.iload_n 1, 1) := by decide +kernel
theorem dm_layRows_69 : decode prog_12_method_52_code 69 = .ok (.invokevirtual 169, 3) := by decide +kernel
theorem dm_layRows_72 : decode prog_12_method_52_code 72 = .ok (.isub, 1) := by decide +kernel
theorem dm_layRows_73 : decode prog_12_method_52_code 73 = .ok (.i2l, 1) := by decide +kernel
theorem dm_layRows_74 : decode prog_12_method_52_code 74 = .ok (.goto 4, 3) := by decide +kernel
theorem dm_layRows_77 : decode prog_12_method_52_code 77 = .ok (.lconst 1, 1) := by decide +kernel
theorem dm_layRows_78 : decode prog_12_method_52_code 78 = .ok (.lastore, 1) := by decide +kernel
theorem dm_layRows_79 : decode prog_12_method_52_code 79 = .ok (.iconst 0, 1) := by decide +kernel
theorem dm_layRows_80 : decode prog_12_method_52_code 80 = .ok (.istore_n 3, 1) := by decide +kernel
theorem dm_layRows_81 : decode prog_12_method_52_code 81 = .ok (.iload_n 3, 1) := by decide +kernel
theorem dm_layRows_82 : decode prog_12_method_52_code 82 = .ok (.iconst 4, 1) := by decide +kernel
theorem dm_layRows_83 : decode prog_12_method_52_code 83 = .ok (.if_icmp .ge 42, 3) := by decide +kernel
theorem dm_layRows_86 : decode prog_12_method_52_code 86 = .ok (.iload_n 2, 1) := by decide +kernel
theorem dm_layRows_87 : decode prog_12_method_52_code 87 = .ok (.ifCond .eq 38, 3) := by decide +kernel
theorem dm_layRows_90 : decode prog_12_method_52_code 90 = .ok (.aload_n 0, 1) := by decide +kernel
theorem dm_layRows_91 : decode prog_12_method_52_code 91 = .ok (.getfield 36, 3) := by decide +kernel
theorem dm_layRows_94 : decode prog_12_method_52_code 94 = .ok (.iconst 4, 1) := by decide +kernel
theorem dm_layRows_95 : decode prog_12_method_52_code 95 = .ok (.iload_n 1, 1) := by decide +kernel
theorem dm_layRows_96 : decode prog_12_method_52_code 96 = .ok (.imul, 1) := by decide +kernel
theorem dm_layRows_97 : decode prog_12_method_52_code 97 = .ok (.iload_n 3, 1) := by decide +kernel
theorem dm_layRows_98 : decode prog_12_method_52_code 98 = .ok (.iadd, 1) := by decide +kernel
theorem dm_layRows_99 : decode prog_12_method_52_code 99 = .ok (.dup2, 1) := by decide +kernel
theorem dm_layRows_100 : decode prog_12_method_52_code 100 = .ok (.laload, 1) := by decide +kernel
theorem dm_layRows_101 : decode prog_12_method_52_code 101 = .ok (.iload_n 3, 1) := by decide +kernel
theorem dm_layRows_102 : decode prog_12_method_52_code 102 = .ok (.iload_n 1, 1) := by decide +kernel
theorem dm_layRows_103 : decode prog_12_method_52_code 103 = .ok (.if_icmp .ne 7, 3) := by decide +kernel
theorem dm_layRows_106 : decode prog_12_method_52_code 106 = .ok (.lconst 0, 1) := by decide +kernel
theorem dm_layRows_107 : decode prog_12_method_52_code 107 = .ok (.goto 10, 3) := by decide +kernel
theorem dm_layRows_110 : decode prog_12_method_52_code 110 = .ok (.aload_n 0, 1) := by decide +kernel
theorem dm_layRows_111 : decode prog_12_method_52_code 111 = .ok (.iload_n 1, 1) := by decide +kernel
theorem dm_layRows_112 : decode prog_12_method_52_code 112 = .ok (.iload_n 3, 1) := by decide +kernel
theorem dm_layRows_113 : decode prog_12_method_52_code 113 = .ok (.invokevirtual 169, 3) := by decide +kernel
theorem dm_layRows_116 : decode prog_12_method_52_code 116 = .ok (.i2l, 1) := by decide +kernel
theorem dm_layRows_117 : decode prog_12_method_52_code 117 = .ok (.lsub, 1) := by decide +kernel
theorem dm_layRows_118 : decode prog_12_method_52_code 118 = .ok (.lastore, 1) := by decide +kernel
theorem dm_layRows_119 : decode prog_12_method_52_code 119 = .ok (.iinc 3 1, 3) := by decide +kernel
theorem dm_layRows_122 : decode prog_12_method_52_code 122 = .ok (.goto (-41), 3) := by decide +kernel
theorem dm_layRows_125 : decode prog_12_method_52_code 125 = .ok (.iinc 1 1, 3) := by decide +kernel
theorem dm_layRows_128 : decode prog_12_method_52_code 128 = .ok (.goto (-105), 3) := by decide +kernel
theorem dm_layRows_131 : decode prog_12_method_52_code 131 = .ok (.return_, 1) := by decide +kernel
theorem dm_productBy_0 : decode prog_12_method_54_code 0 = .ok (.iload_n 1, 1) := by decide +kernel
theorem dm_productBy_1 : decode prog_12_method_54_code 1 = .ok (.istore_n 3, 1) := by decide +kernel
theorem dm_productBy_2 : decode prog_12_method_54_code 2 = .ok (.lconst 1, 1) := by decide +kernel
theorem dm_productBy_3 : decode prog_12_method_54_code 3 = .ok (.lstore 4, 2) := by decide +kernel
theorem dm_productBy_5 : decode prog_12_method_54_code 5 = .ok (.iconst 0, 1) := by decide +kernel
theorem dm_productBy_6 : decode prog_12_method_54_code 6 = .ok (.istore 6, 2) := by decide +kernel
theorem dm_productBy_8 : decode prog_12_method_54_code 8 = .ok (.iload 6, 2) := by decide +kernel
theorem dm_productBy_10 : decode prog_12_method_54_code 10 = .ok (.iload_n 2, 1) := by decide +kernel
theorem dm_productBy_11 : decode prog_12_method_54_code 11 = .ok (.if_icmp .ge 119, 3) := by decide +kernel
theorem dm_productBy_14 : decode prog_12_method_54_code 14 = .ok (.aload_n 0, 1) := by decide +kernel
theorem dm_productBy_15 : decode prog_12_method_54_code 15 = .ok (.getfield 45, 3) := by decide +kernel
theorem dm_productBy_18 : decode prog_12_method_54_code 18 = .ok (.iload 6, 2) := by decide +kernel
theorem dm_productBy_20 : decode prog_12_method_54_code 20 = .ok (.iload_n 3, 1) := by decide +kernel
theorem dm_productBy_21 : decode prog_12_method_54_code 21 = .ok (.iload_n 2, 1) := by decide +kernel
theorem dm_productBy_22 : decode prog_12_method_54_code 22 = .ok (.irem, 1) := by decide +kernel
theorem dm_productBy_23 : decode prog_12_method_54_code 23 = .ok (.iastore, 1) := by decide +kernel
theorem dm_productBy_24 : decode prog_12_method_54_code 24 = .ok (.iload_n 3, 1) := by decide +kernel
theorem dm_productBy_25 : decode prog_12_method_54_code 25 = .ok (.iload_n 2, 1) := by decide +kernel
theorem dm_productBy_26 : decode prog_12_method_54_code 26 = .ok (.idiv, 1) := by decide +kernel
theorem dm_productBy_27 : decode prog_12_method_54_code 27 = .ok (.istore_n 3, 1) := by decide +kernel
theorem dm_productBy_28 : decode prog_12_method_54_code 28 = .ok (.lload 4, 2) := by decide +kernel
theorem dm_productBy_30 : decode prog_12_method_54_code 30 = .ok (.aload_n 0, 1) := by decide +kernel
theorem dm_productBy_31 : decode prog_12_method_54_code 31 = .ok (.getfield 36, 3) := by decide +kernel
theorem dm_productBy_34 : decode prog_12_method_54_code 34 = .ok (.iconst 4, 1) := by decide +kernel
theorem dm_productBy_35 : decode prog_12_method_54_code 35 = .ok (.aload_n 0, 1) := by decide +kernel
theorem dm_productBy_36 : decode prog_12_method_54_code 36 = .ok (.getfield 39, 3) := by decide +kernel
theorem dm_productBy_39 : decode prog_12_method_54_code 39 = .ok (.iload 6, 2) := by decide +kernel
theorem dm_productBy_41 : decode prog_12_method_54_code 41 = .ok (.iaload, 1) := by decide +kernel
theorem dm_productBy_42 : decode prog_12_method_54_code 42 = .ok (.imul, 1) := by decide +kernel
theorem dm_productBy_43 : decode prog_12_method_54_code 43 = .ok (.aload_n 0, 1) := by decide +kernel
theorem dm_productBy_44 : decode prog_12_method_54_code 44 = .ok (.getfield 42, 3) := by decide +kernel
theorem dm_productBy_47 : decode prog_12_method_54_code 47 = .ok (.aload_n 0, 1) := by decide +kernel
theorem dm_productBy_48 : decode prog_12_method_54_code 48 = .ok (.getfield 45, 3) := by decide +kernel
theorem dm_productBy_51 : decode prog_12_method_54_code 51 = .ok (.iload 6, 2) := by decide +kernel
theorem dm_productBy_53 : decode prog_12_method_54_code 53 = .ok (.iaload, 1) := by decide +kernel
theorem dm_productBy_54 : decode prog_12_method_54_code 54 = .ok (.iaload, 1) := by decide +kernel
theorem dm_productBy_55 : decode prog_12_method_54_code 55 = .ok (.iadd, 1) := by decide +kernel
theorem dm_productBy_56 : decode prog_12_method_54_code 56 = .ok (.laload, 1) := by decide +kernel
theorem dm_productBy_57 : decode prog_12_method_54_code 57 = .ok (.lmul, 1) := by decide +kernel
theorem dm_productBy_58 : decode prog_12_method_54_code 58 = .ok (.lstore 4, 2) := by decide +kernel
theorem dm_productBy_60 : decode prog_12_method_54_code 60 = .ok (.iconst 0, 1) := by decide +kernel
theorem dm_productBy_61 : decode prog_12_method_54_code 61 = .ok (.istore 7, 2) := by decide +kernel
theorem dm_productBy_63 : decode prog_12_method_54_code 63 = .ok (.iload 7, 2) := by decide +kernel
theorem dm_productBy_65 : decode prog_12_method_54_code 65 = .ok (.iload 6, 2) := by decide +kernel
theorem dm_productBy_67 : decode prog_12_method_54_code 67 = .ok (.if_icmp .ge 57, 3) := by decide +kernel
theorem dm_productBy_70 : decode prog_12_method_54_code 70 = .ok (.aload_n 0, 1) := by decide +kernel
theorem dm_productBy_71 : decode prog_12_method_54_code 71 = .ok (.getfield 45, 3) := by decide +kernel
theorem dm_productBy_74 : decode prog_12_method_54_code 74 = .ok (.iload 7, 2) := by decide +kernel
theorem dm_productBy_76 : decode prog_12_method_54_code 76 = .ok (.iaload, 1) := by decide +kernel
theorem dm_productBy_77 : decode prog_12_method_54_code 77 = .ok (.aload_n 0, 1) := by decide +kernel
theorem dm_productBy_78 : decode prog_12_method_54_code 78 = .ok (.getfield 45, 3) := by decide +kernel
theorem dm_productBy_81 : decode prog_12_method_54_code 81 = .ok (.iload 6, 2) := by decide +kernel
theorem dm_productBy_83 : decode prog_12_method_54_code 83 = .ok (.iaload, 1) := by decide +kernel
theorem dm_productBy_84 : decode prog_12_method_54_code 84 = .ok (.if_icmp .ne 7, 3) := by decide +kernel
theorem dm_productBy_87 : decode prog_12_method_54_code 87 = .ok (.lconst 0, 1) := by decide +kernel
theorem dm_productBy_88 : decode prog_12_method_54_code 88 = .ok (.goto 28, 3) := by decide +kernel
theorem dm_productBy_91 : decode prog_12_method_54_code 91 = .ok (.aload_n 0, 1) := by decide +kernel
theorem dm_productBy_92 : decode prog_12_method_54_code 92 = .ok (.getfield 45, 3) := by decide +kernel
theorem dm_productBy_95 : decode prog_12_method_54_code 95 = .ok (.iload 7, 2) := by decide +kernel
theorem dm_productBy_97 : decode prog_12_method_54_code 97 = .ok (.iaload, 1) := by decide +kernel
theorem dm_productBy_98 : decode prog_12_method_54_code 98 = .ok (.aload_n 0, 1) := by decide +kernel
theorem dm_productBy_99 : decode prog_12_method_54_code 99 = .ok (.getfield 45, 3) := by decide +kernel
theorem dm_productBy_102 : decode prog_12_method_54_code 102 = .ok (.iload 6, 2) := by decide +kernel
theorem dm_productBy_104 : decode prog_12_method_54_code 104 = .ok (.iaload, 1) := by decide +kernel
theorem dm_productBy_105 : decode prog_12_method_54_code 105 = .ok (.if_icmp .le 9, 3) := by decide +kernel
theorem dm_productBy_108 : decode prog_12_method_54_code 108 = .ok (.lload 4, 2) := by decide +kernel
theorem dm_productBy_110 : decode prog_12_method_54_code 110 = .ok (.lneg, 1) := by decide +kernel
theorem dm_productBy_111 : decode prog_12_method_54_code 111 = .ok (.goto 5, 3) := by decide +kernel
theorem dm_productBy_114 : decode prog_12_method_54_code 114 = .ok (.lload 4, 2) := by decide +kernel
theorem dm_productBy_116 : decode prog_12_method_54_code 116 = .ok (.lstore 4, 2) := by decide +kernel
theorem dm_productBy_118 : decode prog_12_method_54_code 118 = .ok (.iinc 7 1, 3) := by decide +kernel
theorem dm_productBy_121 : decode prog_12_method_54_code 121 = .ok (.goto (-58), 3) := by decide +kernel
theorem dm_productBy_124 : decode prog_12_method_54_code 124 = .ok (.iinc 6 1, 3) := by decide +kernel
theorem dm_productBy_127 : decode prog_12_method_54_code 127 = .ok (.goto (-119), 3) := by decide +kernel
theorem dm_productBy_130 : decode prog_12_method_54_code 130 = .ok (.lload 4, 2) := by decide +kernel
theorem dm_productBy_132 : decode prog_12_method_54_code 132 = .ok (.lreturn, 1) := by decide +kernel
theorem dm_whole_0 : decode prog_12_method_53_code 0 = .ok (.iconst 0, 1) := by decide +kernel
theorem dm_whole_1 : decode prog_12_method_53_code 1 = .ok (.istore_n 3, 1) := by decide +kernel
theorem dm_whole_2 : decode prog_12_method_53_code 2 = .ok (.iconst 0, 1) := by decide +kernel
theorem dm_whole_3 : decode prog_12_method_53_code 3 = .ok (.istore 4, 2) := by decide +kernel
theorem dm_whole_5 : decode prog_12_method_53_code 5 = .ok (.iload 4, 2) := by decide +kernel
theorem dm_whole_7 : decode prog_12_method_53_code 7 = .ok (.iconst 4, 1) := by decide +kernel
theorem dm_whole_8 : decode prog_12_method_53_code 8 = .ok (.if_icmp .ge 26, 3) := by decide +kernel
theorem dm_whole_11 : decode prog_12_method_53_code 11 = .ok (.iload 4, 2) := by decide +kernel
theorem dm_whole_13 : decode prog_12_method_53_code 13 = .ok (.iload_n 1, 1) := by decide +kernel
theorem dm_whole_14 : decode prog_12_method_53_code 14 = .ok (.if_icmp .eq 14, 3) := by decide +kernel
theorem dm_whole_17 : decode prog_12_method_53_code 17 = .ok (.aload_n 0, 1) := by decide +kernel
theorem dm_whole_18 : decode prog_12_method_53_code 18 = .ok (.getfield 39, 3) := by decide +kernel
theorem dm_whole_21 : decode prog_12_method_53_code 21 = .ok (.iload_n 3, 1) := by decide +kernel
theorem dm_whole_22 : decode prog_12_method_53_code 22 = .ok (.iload 4, 2) := by decide +kernel
theorem dm_whole_24 : decode prog_12_method_53_code 24 = .ok (.iastore, 1) := by decide +kernel
theorem dm_whole_25 : decode prog_12_method_53_code 25 = .ok (.iinc 3 1, 3) := by decide +kernel
theorem dm_whole_28 : decode prog_12_method_53_code 28 = .ok (.iinc 4 1, 3) := by decide +kernel
theorem dm_whole_31 : decode prog_12_method_53_code 31 = .ok (.goto (-26), 3) := by decide +kernel
theorem dm_whole_34 : decode prog_12_method_53_code 34 = .ok (.iconst 0, 1) := by decide +kernel
theorem dm_whole_35 : decode prog_12_method_53_code 35 = .ok (.istore_n 3, 1) := by decide +kernel
theorem dm_whole_36 : decode prog_12_method_53_code 36 = .ok (.iconst 0, 1) := by decide +kernel
theorem dm_whole_37 : decode prog_12_method_53_code 37 = .ok (.istore 4, 2) := by decide +kernel
theorem dm_whole_39 : decode prog_12_method_53_code 39 = .ok (.iload 4, 2) := by decide +kernel
theorem dm_whole_41 : decode prog_12_method_53_code 41 = .ok (.iconst 4, 1) := by decide +kernel
theorem dm_whole_42 : decode prog_12_method_53_code 42 = .ok (.if_icmp .ge 26, 3) := by decide +kernel
theorem dm_whole_45 : decode prog_12_method_53_code 45 = .ok (.iload 4, 2) := by decide +kernel
theorem dm_whole_47 : decode prog_12_method_53_code 47 = .ok (.iload_n 2, 1) := by decide +kernel
theorem dm_whole_48 : decode prog_12_method_53_code 48 = .ok (.if_icmp .eq 14, 3) := by decide +kernel
theorem dm_whole_51 : decode prog_12_method_53_code 51 = .ok (.aload_n 0, 1) := by decide +kernel
theorem dm_whole_52 : decode prog_12_method_53_code 52 = .ok (.getfield 42, 3) := by decide +kernel
theorem dm_whole_55 : decode prog_12_method_53_code 55 = .ok (.iload_n 3, 1) := by decide +kernel
theorem dm_whole_56 : decode prog_12_method_53_code 56 = .ok (.iload 4, 2) := by decide +kernel
theorem dm_whole_58 : decode prog_12_method_53_code 58 = .ok (.iastore, 1) := by decide +kernel
theorem dm_whole_59 : decode prog_12_method_53_code 59 = .ok (.iinc 3 1, 3) := by decide +kernel
theorem dm_whole_62 : decode prog_12_method_53_code 62 = .ok (.iinc 4 1, 3) := by decide +kernel
theorem dm_whole_65 : decode prog_12_method_53_code 65 = .ok (.goto (-26), 3) := by decide +kernel
theorem dm_whole_68 : decode prog_12_method_53_code 68 = .ok (.iload_n 3, 1) := by decide +kernel
theorem dm_whole_69 : decode prog_12_method_53_code 69 = .ok (.iconst 4, 1) := by decide +kernel
theorem dm_whole_70 : decode prog_12_method_53_code 70 = .ok (.if_icmp .ne 9, 3) := by decide +kernel
theorem dm_whole_73 : decode prog_12_method_53_code 73 = .ok (.sipush 256, 3) := by decide +kernel
theorem dm_whole_76 : decode prog_12_method_53_code 76 = .ok (.goto 5, 3) := by decide +kernel
theorem dm_whole_79 : decode prog_12_method_53_code 79 = .ok (.bipush 27, 2) := by decide +kernel
theorem dm_whole_81 : decode prog_12_method_53_code 81 = .ok (.istore 4, 2) := by decide +kernel
theorem dm_whole_83 : decode prog_12_method_53_code 83 = .ok (.lconst 0, 1) := by decide +kernel
theorem dm_whole_84 : decode prog_12_method_53_code 84 = .ok (.lstore 5, 2) := by decide +kernel
theorem dm_whole_86 : decode prog_12_method_53_code 86 = .ok (.iconst 0, 1) := by decide +kernel
theorem dm_whole_87 : decode prog_12_method_53_code 87 = .ok (.istore 7, 2) := by decide +kernel
theorem dm_whole_89 : decode prog_12_method_53_code 89 = .ok (.iload 7, 2) := by decide +kernel
theorem dm_whole_91 : decode prog_12_method_53_code 91 = .ok (.iload 4, 2) := by decide +kernel
theorem dm_whole_93 : decode prog_12_method_53_code 93 = .ok (.if_icmp .ge 21, 3) := by decide +kernel
theorem dm_whole_96 : decode prog_12_method_53_code 96 = .ok (.lload 5, 2) := by decide +kernel
theorem dm_whole_98 : decode prog_12_method_53_code 98 = .ok (.aload_n 0, 1) := by decide +kernel
theorem dm_whole_99 : decode prog_12_method_53_code 99 = .ok (.iload 7, 2) := by decide +kernel
theorem dm_whole_101 : decode prog_12_method_53_code 101 = .ok (.iload_n 3, 1) := by decide +kernel
theorem dm_whole_102 : decode prog_12_method_53_code 102 = .ok (.invokevirtual 216, 3) := by decide +kernel
theorem dm_whole_105 : decode prog_12_method_53_code 105 = .ok (.ladd, 1) := by decide +kernel
theorem dm_whole_106 : decode prog_12_method_53_code 106 = .ok (.lstore 5, 2) := by decide +kernel
theorem dm_whole_108 : decode prog_12_method_53_code 108 = .ok (.iinc 7 1, 3) := by decide +kernel
theorem dm_whole_111 : decode prog_12_method_53_code 111 = .ok (.goto (-22), 3) := by decide +kernel
theorem dm_whole_114 : decode prog_12_method_53_code 114 = .ok (.lload 5, 2) := by decide +kernel
theorem dm_whole_116 : decode prog_12_method_53_code 116 = .ok (.lreturn, 1) := by decide +kernel
theorem dm_isAnyVain_0 : decode prog_12_method_55_code 0 = .ok (.iconst 0, 1) := by decide +kernel
theorem dm_isAnyVain_1 : decode prog_12_method_55_code 1 = .ok (.istore_n 1, 1) := by decide +kernel
theorem dm_isAnyVain_2 : decode prog_12_method_55_code 2 = .ok (.iconst 0, 1) := by decide +kernel
theorem dm_isAnyVain_3 : decode prog_12_method_55_code 3 = .ok (.istore_n 2, 1) := by decide +kernel
theorem dm_isAnyVain_4 : decode prog_12_method_55_code 4 = .ok (.iload_n 2, 1) := by decide +kernel
theorem dm_isAnyVain_5 : decode prog_12_method_55_code 5 = .ok (.aload_n 0, 1) := by decide +kernel
theorem dm_isAnyVain_6 : decode prog_12_method_55_code 6 = .ok (.invokevirtual 122, 3) := by decide +kernel
theorem dm_isAnyVain_9 : decode prog_12_method_55_code 9 = .ok (.if_icmp .ge 28, 3) := by decide +kernel
theorem dm_isAnyVain_12 : decode prog_12_method_55_code 12 = .ok (.iload_n 1, 1) := by decide +kernel
theorem dm_isAnyVain_13 : decode prog_12_method_55_code 13 = .ok (.ifCond .ne 12, 3) := by decide +kernel
theorem dm_isAnyVain_16 : decode prog_12_method_55_code 16 = .ok (.aload_n 0, 1) := by decide +kernel
theorem dm_isAnyVain_17 : decode prog_12_method_55_code 17 = .ok (.iload_n 2, 1) := by decide +kernel
theorem dm_isAnyVain_18 : decode prog_12_method_55_code 18 = .ok (.invokevirtual 163, 3) := by decide +kernel
theorem dm_isAnyVain_21 : decode prog_12_method_55_code 21 = .ok (.iconst 4, 1) := by decide +kernel
theorem dm_isAnyVain_22 : decode prog_12_method_55_code 22 = .ok (.if_icmp .ne 7, 3) := by decide +kernel
theorem dm_isAnyVain_25 : decode prog_12_method_55_code 25 = .ok (.iconst 1, 1) := by decide +kernel
theorem dm_isAnyVain_26 : decode prog_12_method_55_code 26 = .ok (.goto 4, 3) := by decide +kernel
theorem dm_isAnyVain_29 : decode prog_12_method_55_code 29 = .ok (.iconst 0, 1) := by decide +kernel
theorem dm_isAnyVain_30 : decode prog_12_method_55_code 30 = .ok (.istore_n 1, 1) := by decide +kernel
theorem dm_isAnyVain_31 : decode prog_12_method_55_code 31 = .ok (.iinc 2 1, 3) := by decide +kernel
theorem dm_isAnyVain_34 : decode prog_12_method_55_code 34 = .ok (.goto (-30), 3) := by decide +kernel
theorem dm_isAnyVain_37 : decode prog_12_method_55_code 37 = .ok (.iload_n 1, 1) := by decide +kernel
theorem dm_isAnyVain_38 : decode prog_12_method_55_code 38 = .ok (.ireturn, 1) := by decide +kernel
theorem dm_layFixed_0 : decode prog_12_method_56_code 0 = .ok (.aload_n 0, 1) := by decide +kernel
theorem dm_layFixed_1 : decode prog_12_method_56_code 1 = .ok (.iload_n 1, 1) := by decide +kernel
theorem dm_layFixed_2 : decode prog_12_method_56_code 2 = .ok (.invokevirtual 172, 3) := by decide +kernel
theorem dm_layFixed_5 : decode prog_12_method_56_code 5 = .ok (.ifCond .ne 14, 3) := by decide +kernel
theorem dm_layFixed_8 : decode prog_12_method_56_code 8 = .ok (.aload_n 0, 1) := by decide +kernel
theorem dm_layFixed_9 : decode prog_12_method_56_code 9 = .ok (.bipush 7, 2) := by decide +kernel
theorem dm_layFixed_11 : decode prog_12_method_56_code 11 = .ok (.bipush 14, 2) := by decide +kernel
theorem dm_layFixed_13 : decode prog_12_method_56_code 13 = .ok (.iload_n 1, 1) := by decide +kernel
theorem dm_layFixed_14 : decode prog_12_method_56_code 14 = .ok (.iadd, 1) := by decide +kernel
theorem dm_layFixed_15 : decode prog_12_method_56_code 15 = .ok (.invokevirtual 84, 3) := by decide +kernel
theorem dm_layFixed_18 : decode prog_12_method_56_code 18 = .ok (.return_, 1) := by decide +kernel
theorem dm_layFixed_19 : decode prog_12_method_56_code 19 = .ok (.aload_n 0, 1) := by decide +kernel
theorem dm_layFixed_20 : decode prog_12_method_56_code 20 = .ok (.bipush 7, 2) := by decide +kernel
theorem dm_layFixed_22 : decode prog_12_method_56_code 22 = .ok (.lconst 0, 1) := by decide +kernel
theorem dm_layFixed_23 : decode prog_12_method_56_code 23 = .ok (.invokevirtual 72, 3) := by decide +kernel
theorem dm_layFixed_26 : decode prog_12_method_56_code 26 = .ok (.iconst 4, 1) := by decide +kernel
theorem dm_layFixed_27 : decode prog_12_method_56_code 27 = .ok (.istore_n 2, 1) := by decide +kernel
theorem dm_layFixed_28 : decode prog_12_method_56_code 28 = .ok (.iload_n 2, 1) := by decide +kernel
theorem dm_layFixed_29 : decode prog_12_method_56_code 29 = .ok (.bipush 8, 2) := by decide +kernel
theorem dm_layFixed_31 : decode prog_12_method_56_code 31 = .ok (.if_icmp .ge 46, 3) := by decide +kernel
theorem dm_layFixed_34 : decode prog_12_method_56_code 34 = .ok (.aload_n 0, 1) := by decide +kernel
theorem dm_layFixed_35 : decode prog_12_method_56_code 35 = .ok (.iload_n 1, 1) := by decide +kernel
theorem dm_layFixed_36 : decode prog_12_method_56_code 36 = .ok (.iload_n 2, 1) := by decide +kernel
theorem dm_layFixed_37 : decode prog_12_method_56_code 37 = .ok (.invokevirtual 169, 3) := by decide +kernel
theorem dm_layFixed_40 : decode prog_12_method_56_code 40 = .ok (.ifCond .le 31, 3) := by decide +kernel
theorem dm_layFixed_43 : decode prog_12_method_56_code 43 = .ok (.aload_n 0, 1) := by decide +kernel
theorem dm_layFixed_44 : decode prog_12_method_56_code 44 = .ok (.bipush 8, 2) := by decide +kernel
theorem dm_layFixed_46 : decode prog_12_method_56_code 46 = .ok (.iload_n 2, 1) := by decide +kernel
theorem dm_layFixed_47 : decode prog_12_method_56_code 47 = .ok (.invokevirtual 175, 3) := by decide +kernel
theorem dm_layFixed_50 : decode prog_12_method_56_code 50 = .ok (.aload_n 0, 1) := by decide +kernel
theorem dm_layFixed_51 : decode prog_12_method_56_code 51 = .ok (.bipush 8, 2) := by decide +kernel
theorem dm_layFixed_53 : decode prog_12_method_56_code 53 = .ok (.aload_n 0, 1) := by decide +kernel
theorem dm_layFixed_54 : decode prog_12_method_56_code 54 = .ok (.iload_n 1, 1) := by decide +kernel
theorem dm_layFixed_55 : decode prog_12_method_56_code 55 = .ok (.iload_n 2, 1) := by decide +kernel
theorem dm_layFixed_56 : decode prog_12_method_56_code 56 = .ok (.invokevirtual 169, 3) := by decide +kernel
theorem dm_layFixed_59 : decode prog_12_method_56_code 59 = .ok (.i2l, 1) := by decide +kernel
theorem dm_layFixed_60 : decode prog_12_method_56_code 60 = .ok (.invokevirtual 102, 3) := by decide +kernel
theorem dm_layFixed_63 : decode prog_12_method_56_code 63 = .ok (.aload_n 0, 1) := by decide +kernel
theorem dm_layFixed_64 : decode prog_12_method_56_code 64 = .ok (.bipush 7, 2) := by decide +kernel
theorem dm_layFixed_66 : decode prog_12_method_56_code 66 = .ok (.bipush 8, 2) := by decide +kernel
theorem dm_layFixed_68 : decode prog_12_method_56_code 68 = .ok (.invokevirtual 178, 3) := by decide +kernel
theorem dm_layFixed_71 : decode prog_12_method_56_code 71 = .ok (.iinc 2 1, 3) := by decide +kernel
theorem dm_layFixed_74 : decode prog_12_method_56_code 74 = .ok (.goto (-46), 3) := by decide +kernel
theorem dm_layFixed_77 : decode prog_12_method_56_code 77 = .ok (.return_, 1) := by decide +kernel
theorem dm_rest_0 : decode prog_12_method_57_code 0 = .ok (.aload_n 0, 1) := by decide +kernel
theorem dm_rest_1 : decode prog_12_method_57_code 1 = .ok (.iload_n 1, 1) := by decide +kernel
theorem dm_rest_2 : decode prog_12_method_57_code 2 = .ok (.invokevirtual 133, 3) := by decide +kernel
theorem dm_rest_5 : decode prog_12_method_57_code 5 = .ok (.ifCond .ne 10, 3) := by decide +kernel
theorem dm_rest_8 : decode prog_12_method_57_code 8 = .ok (.aload_n 0, 1) := by decide +kernel
theorem dm_rest_9 : decode prog_12_method_57_code 9 = .ok (.bipush (-2), 2) := by decide +kernel
theorem dm_rest_11 : decode prog_12_method_57_code 11 = .ok (.invokevirtual 142, 3) := by decide +kernel
theorem dm_rest_14 : decode prog_12_method_57_code 14 = .ok (.ireturn, 1) := by decide +kernel
theorem dm_rest_15 : decode prog_12_method_57_code 15 = .ok (.aload_n 0, 1) := by decide +kernel
theorem dm_rest_16 : decode prog_12_method_57_code 16 = .ok (.invokevirtual 220, 3) := by decide +kernel
theorem dm_rest_19 : decode prog_12_method_57_code 19 = .ok (.ifCond .eq 8, 3) := by decide +kernel
theorem dm_rest_22 : decode prog_12_method_57_code 22 = .ok (.aload_n 0, 1) := by decide +kernel
theorem dm_rest_23 : decode prog_12_method_57_code 23 = .ok (.invokevirtual 206, 3) := by decide +kernel
theorem dm_rest_26 : decode prog_12_method_57_code 26 = .ok (.ireturn, 1) := by decide +kernel
theorem dm_rest_27 : decode prog_12_method_57_code 27 = .ok (.aload_n 0, 1) := by decide +kernel
theorem dm_rest_28 : decode prog_12_method_57_code 28 = .ok (.invokevirtual 196, 3) := by decide +kernel
theorem dm_rest_31 : decode prog_12_method_57_code 31 = .ok (.aload_n 0, 1) := by decide +kernel
theorem dm_rest_32 : decode prog_12_method_57_code 32 = .ok (.invokevirtual 224, 3) := by decide +kernel
theorem dm_rest_35 : decode prog_12_method_57_code 35 = .ok (.aload_n 0, 1) := by decide +kernel
theorem dm_rest_36 : decode prog_12_method_57_code 36 = .ok (.iconst (-1), 1) := by decide +kernel
theorem dm_rest_37 : decode prog_12_method_57_code 37 = .ok (.iconst (-1), 1) := by decide +kernel
theorem dm_rest_38 : decode prog_12_method_57_code 38 = .ok (.invokevirtual 227, 3) := by decide +kernel
theorem dm_rest_41 : decode prog_12_method_57_code 41 = .ok (.lstore_n 2, 1) := by decide +kernel
theorem dm_rest_42 : decode prog_12_method_57_code 42 = .ok (.lload_n 2, 1) := by decide +kernel
theorem dm_rest_43 : decode prog_12_method_57_code 43 = .ok (.lconst 0, 1) := by decide +kernel
theorem dm_rest_44 : decode prog_12_method_57_code 44 = .ok (.lcmp, 1) := by decide +kernel
theorem dm_rest_45 : decode prog_12_method_57_code 45 = .ok (.ifCond .ne 8, 3) := by decide +kernel
theorem dm_rest_48 : decode prog_12_method_57_code 48 = .ok (.aload_n 0, 1) := by decide +kernel
theorem dm_rest_49 : decode prog_12_method_57_code 49 = .ok (.invokevirtual 206, 3) := by decide +kernel
theorem dm_rest_52 : decode prog_12_method_57_code 52 = .ok (.ireturn, 1) := by decide +kernel
theorem dm_rest_53 : decode prog_12_method_57_code 53 = .ok (.aload_n 0, 1) := by decide +kernel
theorem dm_rest_54 : decode prog_12_method_57_code 54 = .ok (.bipush 9, 2) := by decide +kernel
theorem dm_rest_56 : decode prog_12_method_57_code 56 = .ok (.lconst 0, 1) := by decide +kernel
theorem dm_rest_57 : decode prog_12_method_57_code 57 = .ok (.invokevirtual 72, 3) := by decide +kernel
theorem dm_rest_60 : decode prog_12_method_57_code 60 = .ok (.iconst 0, 1) := by decide +kernel
theorem dm_rest_61 : decode prog_12_method_57_code 61 = .ok (.istore 4, 2) := by decide +kernel
theorem dm_rest_63 : decode prog_12_method_57_code 63 = .ok (.iload 4, 2) := by decide +kernel
theorem dm_rest_65 : decode prog_12_method_57_code 65 = .ok (.aload_n 0, 1) := by decide +kernel
theorem dm_rest_66 : decode prog_12_method_57_code 66 = .ok (.invokevirtual 122, 3) := by decide +kernel
theorem dm_rest_69 : decode prog_12_method_57_code 69 = .ok (.if_icmp .ge 60, 3) := by decide +kernel
theorem dm_rest_72 : decode prog_12_method_57_code 72 = .ok (.aload_n 0, 1) := by decide +kernel
theorem dm_rest_73 : decode prog_12_method_57_code 73 = .ok (.iload 4, 2) := by decide +kernel
theorem dm_rest_75 : decode prog_12_method_57_code 75 = .ok (.iload_n 1, 1) := by decide +kernel
theorem dm_rest_76 : decode prog_12_method_57_code 76 = .ok (.invokevirtual 227, 3) := by decide +kernel
theorem dm_rest_79 : decode prog_12_method_57_code 79 = .ok (.lstore 5, 2) := by decide +kernel
theorem dm_rest_81 : decode prog_12_method_57_code 81 = .ok (.iload 4, 2) := by decide +kernel
theorem dm_rest_83 : decode prog_12_method_57_code 83 = .ok (.iload_n 1, 1) := by decide +kernel
theorem dm_rest_84 : decode prog_12_method_57_code 84 = .ok (.iadd, 1) := by decide +kernel
theorem dm_rest_85 : decode prog_12_method_57_code 85 = .ok (.iconst 2, 1) := by decide +kernel
theorem dm_rest_86 : decode prog_12_method_57_code 86 = .ok (.irem, 1) := by decide +kernel
theorem dm_rest_87 : decode prog_12_method_57_code 87 = .ok (.iconst 1, 1) := by decide +kernel
theorem dm_rest_88 : decode prog_12_method_57_code 88 = .ok (.if_icmp .ne 9, 3) := by decide +kernel
theorem dm_rest_91 : decode prog_12_method_57_code 91 = .ok (.lload 5, 2) := by decide +kernel
theorem dm_rest_93 : decode prog_12_method_57_code 93 = .ok (.lneg, 1) := by decide +kernel
theorem dm_rest_94 : decode prog_12_method_57_code 94 = .ok (.goto 5, 3) := by decide +kernel
theorem dm_rest_97 : decode prog_12_method_57_code 97 = .ok (.lload 5, 2) := by decide +kernel
theorem dm_rest_99 : decode prog_12_method_57_code 99 = .ok (.lstore 5, 2) := by decide +kernel
theorem dm_rest_101 : decode prog_12_method_57_code 101 = .ok (.aload_n 0, 1) := by decide +kernel
theorem dm_rest_102 : decode prog_12_method_57_code 102 = .ok (.iload 4, 2) := by decide +kernel
theorem dm_rest_104 : decode prog_12_method_57_code 104 = .ok (.invokevirtual 230, 3) := by decide +kernel
theorem dm_rest_107 : decode prog_12_method_57_code 107 = .ok (.aload_n 0, 1) := by decide +kernel
theorem dm_rest_108 : decode prog_12_method_57_code 108 = .ok (.bipush 7, 2) := by decide +kernel
theorem dm_rest_110 : decode prog_12_method_57_code 110 = .ok (.lload 5, 2) := by decide +kernel
theorem dm_rest_112 : decode prog_12_method_57_code 112 = .ok (.invokevirtual 102, 3) := by decide +kernel
theorem dm_rest_115 : decode prog_12_method_57_code 115 = .ok (.aload_n 0, 1) := by decide +kernel
theorem dm_rest_116 : decode prog_12_method_57_code 116 = .ok (.bipush 9, 2) := by decide +kernel
theorem dm_rest_118 : decode prog_12_method_57_code 118 = .ok (.bipush 7, 2) := by decide +kernel
theorem dm_rest_120 : decode prog_12_method_57_code 120 = .ok (.invokevirtual 178, 3) := by decide +kernel
theorem dm_rest_123 : decode prog_12_method_57_code 123 = .ok (.iinc 4 1, 3) := by decide +kernel
theorem dm_rest_126 : decode prog_12_method_57_code 126 = .ok (.goto (-63), 3) := by decide +kernel
theorem dm_rest_129 : decode prog_12_method_57_code 129 = .ok (.aload_n 0, 1) := by decide +kernel
theorem dm_rest_130 : decode prog_12_method_57_code 130 = .ok (.bipush 9, 2) := by decide +kernel
theorem dm_rest_132 : decode prog_12_method_57_code 132 = .ok (.ldc2_w 140, 3) := by decide +kernel
theorem dm_rest_135 : decode prog_12_method_57_code 135 = .ok (.lload_n 2, 1) := by decide +kernel
theorem dm_rest_136 : decode prog_12_method_57_code 136 = .ok (.lmul, 1) := by decide +kernel
theorem dm_rest_137 : decode prog_12_method_57_code 137 = .ok (.invokevirtual 202, 3) := by decide +kernel
theorem dm_rest_140 : decode prog_12_method_57_code 140 = .ok (.ireturn, 1) := by decide +kernel
theorem dm_findPairs_0 : decode prog_12_method_58_code 0 = .ok (.aload_n 0, 1) := by decide +kernel
theorem dm_findPairs_1 : decode prog_12_method_58_code 1 = .ok (.iconst 0, 1) := by decide +kernel
theorem dm_findPairs_2 : decode prog_12_method_58_code 2 = .ok (.putfield 233, 3) := by decide +kernel
theorem dm_findPairs_5 : decode prog_12_method_58_code 5 = .ok (.iconst 0, 1) := by decide +kernel
theorem dm_findPairs_6 : decode prog_12_method_58_code 6 = .ok (.istore_n 1, 1) := by decide +kernel
theorem dm_findPairs_7 : decode prog_12_method_58_code 7 = .ok (.iload_n 1, 1) := by decide +kernel
theorem dm_findPairs_8 : decode prog_12_method_58_code 8 = .ok (.iconst 4, 1) := by decide +kernel
theorem dm_findPairs_9 : decode prog_12_method_58_code 9 = .ok (.if_icmp .ge 71, 3) := by decide +kernel
theorem dm_findPairs_12 : decode prog_12_method_58_code 12 = .ok (.iload_n 1, 1) := by decide +kernel
theorem dm_findPairs_13 : decode prog_12_method_58_code 13 = .ok (.iconst 1, 1) := by decide +kernel
theorem dm_findPairs_14 : decode prog_12_method_58_code 14 = .ok (.iadd, 1) := by decide +kernel
theorem dm_findPairs_15 : decode prog_12_method_58_code 15 = .ok (.istore_n 2, 1) := by decide +kernel
theorem dm_findPairs_16 : decode prog_12_method_58_code 16 = .ok (.iload_n 2, 1) := by decide +kernel
theorem dm_findPairs_17 : decode prog_12_method_58_code 17 = .ok (.bipush 8, 2) := by decide +kernel
theorem dm_findPairs_19 : decode prog_12_method_58_code 19 = .ok (.if_icmp .ge 55, 3) := by decide +kernel
theorem dm_findPairs_22 : decode prog_12_method_58_code 22 = .ok (.aload_n 0, 1) := by decide +kernel
theorem dm_findPairs_23 : decode prog_12_method_58_code 23 = .ok (.iload_n 1, 1) := by decide +kernel
theorem dm_findPairs_24 : decode prog_12_method_58_code 24 = .ok (.invokevirtual 153, 3) := by decide +kernel
theorem dm_findPairs_27 : decode prog_12_method_58_code 27 = .ok (.ifCond .eq 41, 3) := by decide +kernel
theorem dm_findPairs_30 : decode prog_12_method_58_code 30 = .ok (.aload_n 0, 1) := by decide +kernel
theorem dm_findPairs_31 : decode prog_12_method_58_code 31 = .ok (.iload_n 2, 1) := by decide +kernel
theorem dm_findPairs_32 : decode prog_12_method_58_code 32 = .ok (.invokevirtual 153, 3) := by decide +kernel
theorem dm_findPairs_35 : decode prog_12_method_58_code 35 = .ok (.ifCond .eq 33, 3) := by decide +kernel
theorem dm_findPairs_38 : decode prog_12_method_58_code 38 = .ok (.aload_n 0, 1) := by decide +kernel
theorem dm_findPairs_39 : decode prog_12_method_58_code 39 = .ok (.getfield 48, 3) := by decide +kernel
theorem dm_findPairs_42 : decode prog_12_method_58_code 42 = .ok (.aload_n 0, 1) := by decide +kernel
theorem dm_findPairs_43 : decode prog_12_method_58_code 43 = .ok (.getfield 233, 3) := by decide +kernel
theorem dm_findPairs_46 : decode prog_12_method_58_code 46 = .ok (.iload_n 1, 1) := by decide +kernel
theorem dm_findPairs_47 : decode prog_12_method_58_code 47 = .ok (.iastore, 1) := by decide +kernel
theorem dm_findPairs_48 : decode prog_12_method_58_code 48 = .ok (.aload_n 0, 1) := by decide +kernel
theorem dm_findPairs_49 : decode prog_12_method_58_code 49 = .ok (.getfield 51, 3) := by decide +kernel
theorem dm_findPairs_52 : decode prog_12_method_58_code 52 = .ok (.aload_n 0, 1) := by decide +kernel
theorem dm_findPairs_53 : decode prog_12_method_58_code 53 = .ok (.getfield 233, 3) := by decide +kernel
theorem dm_findPairs_56 : decode prog_12_method_58_code 56 = .ok (.iload_n 2, 1) := by decide +kernel
theorem dm_findPairs_57 : decode prog_12_method_58_code 57 = .ok (.iastore, 1) := by decide +kernel
theorem dm_findPairs_58 : decode prog_12_method_58_code 58 = .ok (.aload_n 0, 1) := by decide +kernel
theorem dm_findPairs_59 : decode prog_12_method_58_code 59 = .ok (.dup, 1) := by decide +kernel
theorem dm_findPairs_60 : decode prog_12_method_58_code 60 = .ok (.getfield 233, 3) := by decide +kernel
theorem dm_findPairs_63 : decode prog_12_method_58_code 63 = .ok (.iconst 1, 1) := by decide +kernel
theorem dm_findPairs_64 : decode prog_12_method_58_code 64 = .ok (.iadd, 1) := by decide +kernel
theorem dm_findPairs_65 : decode prog_12_method_58_code 65 = .ok (.putfield 233, 3) := by decide +kernel
theorem dm_findPairs_68 : decode prog_12_method_58_code 68 = .ok (.iinc 2 1, 3) := by decide +kernel
theorem dm_findPairs_71 : decode prog_12_method_58_code 71 = .ok (.goto (-55), 3) := by decide +kernel
theorem dm_findPairs_74 : decode prog_12_method_58_code 74 = .ok (.iinc 1 1, 3) := by decide +kernel
theorem dm_findPairs_77 : decode prog_12_method_58_code 77 = .ok (.goto (-70), 3) := by decide +kernel
theorem dm_findPairs_80 : decode prog_12_method_58_code 80 = .ok (.return_, 1) := by decide +kernel
theorem dm_comesSo_0 : decode prog_12_method_59_code 0 = .ok (.aload_n 0, 1) := by decide +kernel
theorem dm_comesSo_1 : decode prog_12_method_59_code 1 = .ok (.invokevirtual 196, 3) := by decide +kernel
theorem dm_comesSo_4 : decode prog_12_method_59_code 4 = .ok (.iload 5, 2) := by decide +kernel
theorem dm_comesSo_6 : decode prog_12_method_59_code 6 = .ok (.iconst (-1), 1) := by decide +kernel
theorem dm_comesSo_7 : decode prog_12_method_59_code 7 = .ok (.if_icmp .eq 35, 3) := by decide +kernel
theorem dm_comesSo_10 : decode prog_12_method_59_code 10 = .ok (.aload_n 0, 1) := by decide +kernel
theorem dm_comesSo_11 : decode prog_12_method_59_code 11 = .ok (.getfield 30, 3) := by decide +kernel
theorem dm_comesSo_14 : decode prog_12_method_59_code 14 = .ok (.iconst 0, 1) := by decide +kernel
theorem dm_comesSo_15 : decode prog_12_method_59_code 15 = .ok (.aload_n 0, 1) := by decide +kernel
theorem dm_comesSo_16 : decode prog_12_method_59_code 16 = .ok (.getfield 48, 3) := by decide +kernel
theorem dm_comesSo_19 : decode prog_12_method_59_code 19 = .ok (.iload 5, 2) := by decide +kernel
theorem dm_comesSo_21 : decode prog_12_method_59_code 21 = .ok (.iconst 2, 1) := by decide +kernel
theorem dm_comesSo_22 : decode prog_12_method_59_code 22 = .ok (.idiv, 1) := by decide +kernel
theorem dm_comesSo_23 : decode prog_12_method_59_code 23 = .ok (.iaload, 1) := by decide +kernel
theorem dm_comesSo_24 : decode prog_12_method_59_code 24 = .ok (.aload_n 0, 1) := by decide +kernel
theorem dm_comesSo_25 : decode prog_12_method_59_code 25 = .ok (.getfield 51, 3) := by decide +kernel
theorem dm_comesSo_28 : decode prog_12_method_59_code 28 = .ok (.iload 5, 2) := by decide +kernel
theorem dm_comesSo_30 : decode prog_12_method_59_code 30 = .ok (.iconst 2, 1) := by decide +kernel
theorem dm_comesSo_31 : decode prog_12_method_59_code 31 = .ok (.idiv, 1) := by decide +kernel
theorem dm_comesSo_32 : decode prog_12_method_59_code 32 = .ok (.iaload, 1) := by decide +kernel
theorem dm_comesSo_33 : decode prog_12_method_59_code 33 = .ok (.iload 5, 2) := by decide +kernel
theorem dm_comesSo_35 : decode prog_12_method_59_code 35 = .ok (.iconst 2, 1) := by decide +kernel
theorem dm_comesSo_36 : decode prog_12_method_59_code 36 = .ok (.irem, 1) := by decide +kernel
theorem dm_comesSo_37 : decode prog_12_method_59_code 37 = .ok (.iconst 3, 1) := by decide +kernel
theorem dm_comesSo_38 : decode prog_12_method_59_code 38 = .ok (.imul, 1) := by decide +kernel
theorem dm_comesSo_39 : decode prog_12_method_59_code 39 = .ok (.invokestatic 156, 3) := by decide +kernel
theorem dm_comesSo_42 : decode prog_12_method_59_code 42 = .ok (.iload 6, 2) := by decide +kernel
theorem dm_comesSo_44 : decode prog_12_method_59_code 44 = .ok (.iconst (-1), 1) := by decide +kernel
theorem dm_comesSo_45 : decode prog_12_method_59_code 45 = .ok (.if_icmp .eq 35, 3) := by decide +kernel
theorem dm_comesSo_48 : decode prog_12_method_59_code 48 = .ok (.aload_n 0, 1) := by decide +kernel
theorem dm_comesSo_49 : decode prog_12_method_59_code 49 = .ok (.getfield 30, 3) := by decide +kernel
theorem dm_comesSo_52 : decode prog_12_method_59_code 52 = .ok (.iconst 0, 1) := by decide +kernel
theorem dm_comesSo_53 : decode prog_12_method_59_code 53 = .ok (.aload_n 0, 1) := by decide +kernel
theorem dm_comesSo_54 : decode prog_12_method_59_code 54 = .ok (.getfield 48, 3) := by decide +kernel
theorem dm_comesSo_57 : decode prog_12_method_59_code 57 = .ok (.iload 6, 2) := by decide +kernel
theorem dm_comesSo_59 : decode prog_12_method_59_code 59 = .ok (.iconst 2, 1) := by decide +kernel
theorem dm_comesSo_60 : decode prog_12_method_59_code 60 = .ok (.idiv, 1) := by decide +kernel
theorem dm_comesSo_61 : decode prog_12_method_59_code 61 = .ok (.iaload, 1) := by decide +kernel
theorem dm_comesSo_62 : decode prog_12_method_59_code 62 = .ok (.aload_n 0, 1) := by decide +kernel
theorem dm_comesSo_63 : decode prog_12_method_59_code 63 = .ok (.getfield 51, 3) := by decide +kernel
theorem dm_comesSo_66 : decode prog_12_method_59_code 66 = .ok (.iload 6, 2) := by decide +kernel
theorem dm_comesSo_68 : decode prog_12_method_59_code 68 = .ok (.iconst 2, 1) := by decide +kernel
theorem dm_comesSo_69 : decode prog_12_method_59_code 69 = .ok (.idiv, 1) := by decide +kernel
theorem dm_comesSo_70 : decode prog_12_method_59_code 70 = .ok (.iaload, 1) := by decide +kernel
theorem dm_comesSo_71 : decode prog_12_method_59_code 71 = .ok (.iload 6, 2) := by decide +kernel
theorem dm_comesSo_73 : decode prog_12_method_59_code 73 = .ok (.iconst 2, 1) := by decide +kernel
theorem dm_comesSo_74 : decode prog_12_method_59_code 74 = .ok (.irem, 1) := by decide +kernel
theorem dm_comesSo_75 : decode prog_12_method_59_code 75 = .ok (.iconst 3, 1) := by decide +kernel
theorem dm_comesSo_76 : decode prog_12_method_59_code 76 = .ok (.imul, 1) := by decide +kernel
theorem dm_comesSo_77 : decode prog_12_method_59_code 77 = .ok (.invokestatic 156, 3) := by decide +kernel
theorem dm_comesSo_80 : decode prog_12_method_59_code 80 = .ok (.aload_n 0, 1) := by decide +kernel
theorem dm_comesSo_81 : decode prog_12_method_59_code 81 = .ok (.iload 4, 2) := by decide +kernel
theorem dm_comesSo_83 : decode prog_12_method_59_code 83 = .ok (.invokevirtual 199, 3) := by decide +kernel
theorem dm_comesSo_86 : decode prog_12_method_59_code 86 = .ok (.aload_n 0, 1) := by decide +kernel
theorem dm_comesSo_87 : decode prog_12_method_59_code 87 = .ok (.iload_n 1, 1) := by decide +kernel
theorem dm_comesSo_88 : decode prog_12_method_59_code 88 = .ok (.iload_n 2, 1) := by decide +kernel
theorem dm_comesSo_89 : decode prog_12_method_59_code 89 = .ok (.invokevirtual 212, 3) := by decide +kernel
theorem dm_comesSo_92 : decode prog_12_method_59_code 92 = .ok (.ifCond .eq 16, 3) := by decide +kernel
theorem dm_comesSo_95 : decode prog_12_method_59_code 95 = .ok (.aload_n 0, 1) := by decide +kernel
theorem dm_comesSo_96 : decode prog_12_method_59_code 96 = .ok (.iload_n 1, 1) := by decide +kernel
theorem dm_comesSo_97 : decode prog_12_method_59_code 97 = .ok (.iload_n 3, 1) := by decide +kernel
theorem dm_comesSo_98 : decode prog_12_method_59_code 98 = .ok (.invokevirtual 236, 3) := by decide +kernel
theorem dm_comesSo_101 : decode prog_12_method_59_code 101 = .ok (.ifCond .eq 7, 3) := by decide +kernel
theorem dm_comesSo_104 : decode prog_12_method_59_code 104 = .ok (.iconst 1, 1) := by decide +kernel
theorem dm_comesSo_105 : decode prog_12_method_59_code 105 = .ok (.goto 4, 3) := by decide +kernel
theorem dm_comesSo_108 : decode prog_12_method_59_code 108 = .ok (.iconst 0, 1) := by decide +kernel
theorem dm_comesSo_109 : decode prog_12_method_59_code 109 = .ok (.ireturn, 1) := by decide +kernel
theorem dm_findMoves_0 : decode prog_12_method_60_code 0 = .ok (.aload_n 0, 1) := by decide +kernel
theorem dm_findMoves_1 : decode prog_12_method_60_code 1 = .ok (.iconst (-1), 1) := by decide +kernel
theorem dm_findMoves_2 : decode prog_12_method_60_code 2 = .ok (.putfield 239, 3) := by decide +kernel
theorem dm_findMoves_5 : decode prog_12_method_60_code 5 = .ok (.aload_n 0, 1) := by decide +kernel
theorem dm_findMoves_6 : decode prog_12_method_60_code 6 = .ok (.iconst (-1), 1) := by decide +kernel
theorem dm_findMoves_7 : decode prog_12_method_60_code 7 = .ok (.putfield 242, 3) := by decide +kernel
theorem dm_findMoves_10 : decode prog_12_method_60_code 10 = .ok (.aload_n 0, 1) := by decide +kernel
theorem dm_findMoves_11 : decode prog_12_method_60_code 11 = .ok (.iload_n 1, 1) := by decide +kernel
theorem dm_findMoves_12 : decode prog_12_method_60_code 12 = .ok (.iload_n 2, 1) := by decide +kernel
theorem dm_findMoves_13 : decode prog_12_method_60_code 13 = .ok (.iload_n 3, 1) := by decide +kernel
theorem dm_findMoves_14 : decode prog_12_method_60_code 14 = .ok (.iload 4, 2) := by decide +kernel
theorem dm_findMoves_16 : decode prog_12_method_60_code 16 = .ok (.iconst (-1), 1) := by decide +kernel
theorem dm_findMoves_17 : decode prog_12_method_60_code 17 = .ok (.iconst (-1), 1) := by decide +kernel
theorem dm_findMoves_18 : decode prog_12_method_60_code 18 = .ok (.invokevirtual 245, 3) := by decide +kernel
theorem dm_findMoves_21 : decode prog_12_method_60_code 21 = .ok (.ifCond .eq 5, 3) := by decide +kernel
theorem dm_findMoves_24 : decode prog_12_method_60_code 24 = .ok (.iconst 0, 1) := by decide +kernel
theorem dm_findMoves_25 : decode prog_12_method_60_code 25 = .ok (.ireturn, 1) := by decide +kernel
theorem dm_findMoves_26 : decode prog_12_method_60_code 26 = .ok (.aload_n 0, 1) := by decide +kernel
theorem dm_findMoves_27 : decode prog_12_method_60_code 27 = .ok (.invokevirtual 249, 3) := by decide +kernel
theorem dm_findMoves_30 : decode prog_12_method_60_code 30 = .ok (.iconst 0, 1) := by decide +kernel
theorem dm_findMoves_31 : decode prog_12_method_60_code 31 = .ok (.istore 5, 2) := by decide +kernel
theorem dm_findMoves_33 : decode prog_12_method_60_code 33 = .ok (.iload 5, 2) := by decide +kernel
theorem dm_findMoves_35 : decode prog_12_method_60_code 35 = .ok (.iconst 2, 1) := by decide +kernel
theorem dm_findMoves_36 : decode prog_12_method_60_code 36 = .ok (.aload_n 0, 1) := by decide +kernel
theorem dm_findMoves_37 : decode prog_12_method_60_code 37 = .ok (.getfield 233, 3) := by decide +kernel
theorem dm_findMoves_40 : decode prog_12_method_60_code 40 = .ok (.imul, 1) := by decide +kernel
theorem dm_findMoves_41 : decode prog_12_method_60_code 41 = .ok (.if_icmp .ge 32, 3) := by decide +kernel
theorem dm_findMoves_44 : decode prog_12_method_60_code 44 = .ok (.aload_n 0, 1) := by decide +kernel
theorem dm_findMoves_45 : decode prog_12_method_60_code 45 = .ok (.iload_n 1, 1) := by decide +kernel
theorem dm_findMoves_46 : decode prog_12_method_60_code 46 = .ok (.iload_n 2, 1) := by decide +kernel
theorem dm_findMoves_47 : decode prog_12_method_60_code 47 = .ok (.iload_n 3, 1) := by decide +kernel
theorem dm_findMoves_48 : decode prog_12_method_60_code 48 = .ok (.iload 4, 2) := by decide +kernel
theorem dm_findMoves_50 : decode prog_12_method_60_code 50 = .ok (.iload 5, 2) := by decide +kernel
theorem dm_findMoves_52 : decode prog_12_method_60_code 52 = .ok (.iconst (-1), 1) := by decide +kernel
theorem dm_findMoves_53 : decode prog_12_method_60_code 53 = .ok (.invokevirtual 245, 3) := by decide +kernel
theorem dm_findMoves_56 : decode prog_12_method_60_code 56 = .ok (.ifCond .eq 11, 3) := by decide +kernel
theorem dm_findMoves_59 : decode prog_12_method_60_code 59 = .ok (.aload_n 0, 1) := by decide +kernel
theorem dm_findMoves_60 : decode prog_12_method_60_code 60 = .ok (.iload 5, 2) := by decide +kernel
theorem dm_findMoves_62 : decode prog_12_method_60_code 62 = .ok (.putfield 239, 3) := by decide +kernel
theorem dm_findMoves_65 : decode prog_12_method_60_code 65 = .ok (.iconst 1, 1) := by decide +kernel
theorem dm_findMoves_66 : decode prog_12_method_60_code 66 = .ok (.ireturn, 1) := by decide +kernel
theorem dm_findMoves_67 : decode prog_12_method_60_code 67 = .ok (.iinc 5 1, 3) := by decide +kernel
theorem dm_findMoves_70 : decode prog_12_method_60_code 70 = .ok (.goto (-37), 3) := by decide +kernel
theorem dm_findMoves_73 : decode prog_12_method_60_code 73 = .ok (.iconst 0, 1) := by decide +kernel
theorem dm_findMoves_74 : decode prog_12_method_60_code 74 = .ok (.istore 5, 2) := by decide +kernel
theorem dm_findMoves_76 : decode prog_12_method_60_code 76 = .ok (.iload 5, 2) := by decide +kernel
theorem dm_findMoves_78 : decode prog_12_method_60_code 78 = .ok (.iconst 2, 1) := by decide +kernel
theorem dm_findMoves_79 : decode prog_12_method_60_code 79 = .ok (.aload_n 0, 1) := by decide +kernel
theorem dm_findMoves_80 : decode prog_12_method_60_code 80 = .ok (.getfield 233, 3) := by decide +kernel
theorem dm_findMoves_83 : decode prog_12_method_60_code 83 = .ok (.imul, 1) := by decide +kernel
theorem dm_findMoves_84 : decode prog_12_method_60_code 84 = .ok (.if_icmp .ge 66, 3) := by decide +kernel
theorem dm_findMoves_87 : decode prog_12_method_60_code 87 = .ok (.iload 5, 2) := by decide +kernel
theorem dm_findMoves_89 : decode prog_12_method_60_code 89 = .ok (.iconst 2, 1) := by decide +kernel
theorem dm_findMoves_90 : decode prog_12_method_60_code 90 = .ok (.idiv, 1) := by decide +kernel
theorem dm_findMoves_91 : decode prog_12_method_60_code 91 = .ok (.iconst 2, 1) := by decide +kernel
theorem dm_findMoves_92 : decode prog_12_method_60_code 92 = .ok (.imul, 1) := by decide +kernel
theorem dm_findMoves_93 : decode prog_12_method_60_code 93 = .ok (.iconst 2, 1) := by decide +kernel
theorem dm_findMoves_94 : decode prog_12_method_60_code 94 = .ok (.iadd, 1) := by decide +kernel
theorem dm_findMoves_95 : decode prog_12_method_60_code 95 = .ok (.istore 6, 2) := by decide +kernel
theorem dm_findMoves_97 : decode prog_12_method_60_code 97 = .ok (.iload 6, 2) := by decide +kernel
theorem dm_findMoves_99 : decode prog_12_method_60_code 99 = .ok (.iconst 2, 1) := by decide +kernel
theorem dm_findMoves_100 : decode prog_12_method_60_code 100 = .ok (.aload_n 0, 1) := by decide +kernel
theorem dm_findMoves_101 : decode prog_12_method_60_code 101 = .ok (.getfield 233, 3) := by decide +kernel
theorem dm_findMoves_104 : decode prog_12_method_60_code 104 = .ok (.imul, 1) := by decide +kernel
theorem dm_findMoves_105 : decode prog_12_method_60_code 105 = .ok (.if_icmp .ge 39, 3) := by decide +kernel
theorem dm_findMoves_108 : decode prog_12_method_60_code 108 = .ok (.aload_n 0, 1) := by decide +kernel
theorem dm_findMoves_109 : decode prog_12_method_60_code 109 = .ok (.iload_n 1, 1) := by decide +kernel
theorem dm_findMoves_110 : decode prog_12_method_60_code 110 = .ok (.iload_n 2, 1) := by decide +kernel
theorem dm_findMoves_111 : decode prog_12_method_60_code 111 = .ok (.iload_n 3, 1) := by decide +kernel
theorem dm_findMoves_112 : decode prog_12_method_60_code 112 = .ok (.iload 4, 2) := by decide +kernel
theorem dm_findMoves_114 : decode prog_12_method_60_code 114 = .ok (.iload 5, 2) := by decide +kernel
theorem dm_findMoves_116 : decode prog_12_method_60_code 116 = .ok (.iload 6, 2) := by decide +kernel
theorem dm_findMoves_118 : decode prog_12_method_60_code 118 = .ok (.invokevirtual 245, 3) := by decide +kernel
theorem dm_findMoves_121 : decode prog_12_method_60_code 121 = .ok (.ifCond .eq 17, 3) := by decide +kernel
theorem dm_findMoves_124 : decode prog_12_method_60_code 124 = .ok (.aload_n 0, 1) := by decide +kernel
theorem dm_findMoves_125 : decode prog_12_method_60_code 125 = .ok (.iload 5, 2) := by decide +kernel
theorem dm_findMoves_127 : decode prog_12_method_60_code 127 = .ok (.putfield 239, 3) := by decide +kernel
theorem dm_findMoves_130 : decode prog_12_method_60_code 130 = .ok (.aload_n 0, 1) := by decide +kernel
theorem dm_findMoves_131 : decode prog_12_method_60_code 131 = .ok (.iload 6, 2) := by decide +kernel
theorem dm_findMoves_133 : decode prog_12_method_60_code 133 = .ok (.putfield 242, 3) := by decide +kernel
theorem dm_findMoves_136 : decode prog_12_method_60_code 136 = .ok (.iconst 2, 1) := by decide +kernel
theorem dm_findMoves_137 : decode prog_12_method_60_code 137 = .ok (.ireturn, 1) := by decide +kernel
theorem dm_findMoves_138 : decode prog_12_method_60_code 138 = .ok (.iinc 6 1, 3) := by decide +kernel
theorem dm_findMoves_141 : decode prog_12_method_60_code 141 = .ok (.goto (-44), 3) := by decide +kernel
theorem dm_findMoves_144 : decode prog_12_method_60_code 144 = .ok (.iinc 5 1, 3) := by decide +kernel
theorem dm_findMoves_147 : decode prog_12_method_60_code 147 = .ok (.goto (-71), 3) := by decide +kernel
theorem dm_findMoves_150 : decode prog_12_method_60_code 150 = .ok (.iconst (-1), 1) := by decide +kernel
theorem dm_findMoves_151 : decode prog_12_method_60_code 151 = .ok (.ireturn, 1) := by decide +kernel
theorem dm_tellMove_0 : decode prog_12_method_61_code 0 = .ok (.iload_n 1, 1) := by decide +kernel
theorem dm_tellMove_1 : decode prog_12_method_61_code 1 = .ok (.iconst (-1), 1) := by decide +kernel
theorem dm_tellMove_2 : decode prog_12_method_61_code 2 = .ok (.if_icmp .ne 8, 3) := by decide +kernel
theorem dm_tellMove_5 : decode prog_12_method_61_code 5 = .ok (.bipush (-5), 2) := by decide +kernel
theorem dm_tellMove_7 : decode prog_12_method_61_code 7 = .ok (.goto 33, 3) := by decide +kernel
theorem dm_tellMove_10 : decode prog_12_method_61_code 10 = .ok (.sipush 1000, 3) := by decide +kernel
theorem dm_tellMove_13 : decode prog_12_method_61_code 13 = .ok (.aload_n 0, 1) := by decide +kernel
theorem dm_tellMove_14 : decode prog_12_method_61_code 14 = .ok (.getfield 48, 3) := by decide +kernel
theorem dm_tellMove_17 : decode prog_12_method_61_code 17 = .ok (.iload_n 1, 1) := by decide +kernel
theorem dm_tellMove_18 : decode prog_12_method_61_code 18 = .ok (.iconst 2, 1) := by decide +kernel
theorem dm_tellMove_19 : decode prog_12_method_61_code 19 = .ok (.idiv, 1) := by decide +kernel
theorem dm_tellMove_20 : decode prog_12_method_61_code 20 = .ok (.iaload, 1) := by decide +kernel
theorem dm_tellMove_21 : decode prog_12_method_61_code 21 = .ok (.imul, 1) := by decide +kernel
theorem dm_tellMove_22 : decode prog_12_method_61_code 22 = .ok (.bipush 100, 2) := by decide +kernel
theorem dm_tellMove_24 : decode prog_12_method_61_code 24 = .ok (.aload_n 0, 1) := by decide +kernel
theorem dm_tellMove_25 : decode prog_12_method_61_code 25 = .ok (.getfield 51, 3) := by decide +kernel
theorem dm_tellMove_28 : decode prog_12_method_61_code 28 = .ok (.iload_n 1, 1) := by decide +kernel
theorem dm_tellMove_29 : decode prog_12_method_61_code 29 = .ok (.iconst 2, 1) := by decide +kernel
theorem dm_tellMove_30 : decode prog_12_method_61_code 30 = .ok (.idiv, 1) := by decide +kernel
theorem dm_tellMove_31 : decode prog_12_method_61_code 31 = .ok (.iaload, 1) := by decide +kernel
theorem dm_tellMove_32 : decode prog_12_method_61_code 32 = .ok (.imul, 1) := by decide +kernel
theorem dm_tellMove_33 : decode prog_12_method_61_code 33 = .ok (.iadd, 1) := by decide +kernel
theorem dm_tellMove_34 : decode prog_12_method_61_code 34 = .ok (.iconst 3, 1) := by decide +kernel
theorem dm_tellMove_35 : decode prog_12_method_61_code 35 = .ok (.iload_n 1, 1) := by decide +kernel
theorem dm_tellMove_36 : decode prog_12_method_61_code 36 = .ok (.iconst 2, 1) := by decide +kernel
theorem dm_tellMove_37 : decode prog_12_method_61_code 37 = .ok (.irem, 1) := by decide +kernel
theorem dm_tellMove_38 : decode prog_12_method_61_code 38 = .ok (.imul, 1) := by decide +kernel
theorem dm_tellMove_39 : decode prog_12_method_61_code 39 = .ok (.iadd, 1) := by decide +kernel
theorem dm_tellMove_40 : decode prog_12_method_61_code 40 = .ok (.ireturn, 1) := by decide +kernel
theorem dm_moves_0 : decode prog_12_method_62_code 0 = .ok (.aload_n 0, 1) := by decide +kernel
theorem dm_moves_1 : decode prog_12_method_62_code 1 = .ok (.iload_n 1, 1) := by decide +kernel
theorem dm_moves_2 : decode prog_12_method_62_code 2 = .ok (.invokevirtual 133, 3) := by decide +kernel
theorem dm_moves_5 : decode prog_12_method_62_code 5 = .ok (.ifCond .eq 52, 3) := by decide +kernel
theorem dm_moves_8 : decode prog_12_method_62_code 8 = .ok (.iload_n 3, 1) := by decide +kernel
theorem dm_moves_9 : decode prog_12_method_62_code 9 = .ok (.i2l, 1) := by decide +kernel
theorem dm_moves_10 : decode prog_12_method_62_code 10 = .ok (.lconst 0, 1) := by decide +kernel
theorem dm_moves_11 : decode prog_12_method_62_code 11 = .ok (.ldc2_w 140, 3) := by decide +kernel
theorem dm_moves_14 : decode prog_12_method_62_code 14 = .ok (.invokestatic 126, 3) := by decide +kernel
theorem dm_moves_17 : decode prog_12_method_62_code 17 = .ok (.ifCond .eq 40, 3) := by decide +kernel
theorem dm_moves_20 : decode prog_12_method_62_code 20 = .ok (.iload_n 2, 1) := by decide +kernel
theorem dm_moves_21 : decode prog_12_method_62_code 21 = .ok (.i2l, 1) := by decide +kernel
theorem dm_moves_22 : decode prog_12_method_62_code 22 = .ok (.lconst 0, 1) := by decide +kernel
theorem dm_moves_23 : decode prog_12_method_62_code 23 = .ok (.iload_n 3, 1) := by decide +kernel
theorem dm_moves_24 : decode prog_12_method_62_code 24 = .ok (.i2l, 1) := by decide +kernel
theorem dm_moves_25 : decode prog_12_method_62_code 25 = .ok (.invokestatic 126, 3) := by decide +kernel
theorem dm_moves_28 : decode prog_12_method_62_code 28 = .ok (.ifCond .eq 29, 3) := by decide +kernel
theorem dm_moves_31 : decode prog_12_method_62_code 31 = .ok (.iload 4, 2) := by decide +kernel
theorem dm_moves_33 : decode prog_12_method_62_code 33 = .ok (.i2l, 1) := by decide +kernel
theorem dm_moves_34 : decode prog_12_method_62_code 34 = .ok (.lconst 1, 1) := by decide +kernel
theorem dm_moves_35 : decode prog_12_method_62_code 35 = .ok (.ldc2_w 138, 3) := by decide +kernel
theorem dm_moves_38 : decode prog_12_method_62_code 38 = .ok (.invokestatic 126, 3) := by decide +kernel
theorem dm_moves_41 : decode prog_12_method_62_code 41 = .ok (.ifCond .eq 16, 3) := by decide +kernel
theorem dm_moves_44 : decode prog_12_method_62_code 44 = .ok (.iload 5, 2) := by decide +kernel
theorem dm_moves_46 : decode prog_12_method_62_code 46 = .ok (.i2l, 1) := by decide +kernel
theorem dm_moves_47 : decode prog_12_method_62_code 47 = .ok (.lconst 0, 1) := by decide +kernel
theorem dm_moves_48 : decode prog_12_method_62_code 48 = .ok (.ldc2_w 82, 3) := by decide +kernel
theorem dm_moves_51 : decode prog_12_method_62_code 51 = .ok (.invokestatic 126, 3) := by decide +kernel
theorem dm_moves_54 : decode prog_12_method_62_code 54 = .ok (.ifCond .ne 10, 3) := by decide +kernel
theorem dm_moves_57 : decode prog_12_method_62_code 57 = .ok (.aload_n 0, 1) := by decide +kernel
theorem dm_moves_58 : decode prog_12_method_62_code 58 = .ok (.bipush (-10), 2) := by decide +kernel
theorem dm_moves_60 : decode prog_12_method_62_code 60 = .ok (.invokevirtual 142, 3) := by decide +kernel
theorem dm_moves_63 : decode prog_12_method_62_code 63 = .ok (.ireturn, 1) := by decide +kernel
theorem dm_moves_64 : decode prog_12_method_62_code 64 = .ok (.aload_n 0, 1) := by decide +kernel
theorem dm_moves_65 : decode prog_12_method_62_code 65 = .ok (.iload_n 1, 1) := by decide +kernel
theorem dm_moves_66 : decode prog_12_method_62_code 66 = .ok (.iload_n 2, 1) := by decide +kernel
theorem dm_moves_67 : decode prog_12_method_62_code 67 = .ok (.iload_n 3, 1) := by decide +kernel
theorem dm_moves_68 : decode prog_12_method_62_code 68 = .ok (.iload 4, 2) := by decide +kernel
theorem dm_moves_70 : decode prog_12_method_62_code 70 = .ok (.invokevirtual 252, 3) := by decide +kernel
theorem dm_moves_73 : decode prog_12_method_62_code 73 = .ok (.istore 6, 2) := by decide +kernel
theorem dm_moves_75 : decode prog_12_method_62_code 75 = .ok (.iload 5, 2) := by decide +kernel
theorem dm_moves_77 : decode prog_12_method_62_code 77 = .ok (.ifCond .eq 9, 3) := by decide +kernel
theorem dm_moves_80 : decode prog_12_method_62_code 80 = .ok (.iload 6, 2) := by decide +kernel
theorem dm_moves_82 : decode prog_12_method_62_code 82 = .ok (.iconst (-1), 1) := by decide +kernel
theorem dm_moves_83 : decode prog_12_method_62_code 83 = .ok (.if_icmp .ne 6, 3) := by decide +kernel
theorem dm_moves_86 : decode prog_12_method_62_code 86 = .ok (.iload 6, 2) := by decide +kernel
theorem dm_moves_88 : decode prog_12_method_62_code 88 = .ok (.ireturn, 1) := by decide +kernel
theorem dm_moves_89 : decode prog_12_method_62_code 89 = .ok (.aload_n 0, 1) := by decide +kernel
theorem dm_moves_90 : decode prog_12_method_62_code 90 = .ok (.iload 5, 2) := by decide +kernel
theorem dm_moves_92 : decode prog_12_method_62_code 92 = .ok (.iconst 1, 1) := by decide +kernel
theorem dm_moves_93 : decode prog_12_method_62_code 93 = .ok (.if_icmp .ne 10, 3) := by decide +kernel
theorem dm_moves_96 : decode prog_12_method_62_code 96 = .ok (.aload_n 0, 1) := by decide +kernel
theorem dm_moves_97 : decode prog_12_method_62_code 97 = .ok (.getfield 239, 3) := by decide +kernel
theorem dm_moves_100 : decode prog_12_method_62_code 100 = .ok (.goto 7, 3) := by decide +kernel
theorem dm_moves_103 : decode prog_12_method_62_code 103 = .ok (.aload_n 0, 1) := by decide +kernel
theorem dm_moves_104 : decode prog_12_method_62_code 104 = .ok (.getfield 242, 3) := by decide +kernel
theorem dm_moves_107 : decode prog_12_method_62_code 107 = .ok (.invokevirtual 256, 3) := by decide +kernel
theorem dm_moves_110 : decode prog_12_method_62_code 110 = .ok (.ireturn, 1) := by decide +kernel
theorem dm_bound_0 : decode prog_12_method_63_code 0 = .ok (.aload_n 0, 1) := by decide +kernel
theorem dm_bound_1 : decode prog_12_method_63_code 1 = .ok (.iload_n 1, 1) := by decide +kernel
theorem dm_bound_2 : decode prog_12_method_63_code 2 = .ok (.invokevirtual 133, 3) := by decide +kernel
theorem dm_bound_5 : decode prog_12_method_63_code 5 = .ok (.ifCond .eq 26, 3) := by decide +kernel
theorem dm_bound_8 : decode prog_12_method_63_code 8 = .ok (.iload_n 3, 1) := by decide +kernel
theorem dm_bound_9 : decode prog_12_method_63_code 9 = .ok (.i2l, 1) := by decide +kernel
theorem dm_bound_10 : decode prog_12_method_63_code 10 = .ok (.lconst 0, 1) := by decide +kernel
theorem dm_bound_11 : decode prog_12_method_63_code 11 = .ok (.ldc2_w 140, 3) := by decide +kernel
theorem dm_bound_14 : decode prog_12_method_63_code 14 = .ok (.invokestatic 126, 3) := by decide +kernel
theorem dm_bound_17 : decode prog_12_method_63_code 17 = .ok (.ifCond .eq 14, 3) := by decide +kernel
theorem dm_bound_20 : decode prog_12_method_63_code 20 = .ok (.iload_n 2, 1) := by decide +kernel
theorem dm_bound_21 : decode prog_12_method_63_code 21 = .ok (.i2l, 1) := by decide +kernel
theorem dm_bound_22 : decode prog_12_method_63_code 22 = .ok (.lconst 0, 1) := by decide +kernel
theorem dm_bound_23 : decode prog_12_method_63_code 23 = .ok (.iload_n 3, 1) := by decide +kernel
theorem dm_bound_24 : decode prog_12_method_63_code 24 = .ok (.i2l, 1) := by decide +kernel
theorem dm_bound_25 : decode prog_12_method_63_code 25 = .ok (.invokestatic 126, 3) := by decide +kernel
theorem dm_bound_28 : decode prog_12_method_63_code 28 = .ok (.ifCond .ne 10, 3) := by decide +kernel
theorem dm_bound_31 : decode prog_12_method_63_code 31 = .ok (.aload_n 0, 1) := by decide +kernel
theorem dm_bound_32 : decode prog_12_method_63_code 32 = .ok (.bipush (-2), 2) := by decide +kernel
theorem dm_bound_34 : decode prog_12_method_63_code 34 = .ok (.invokevirtual 142, 3) := by decide +kernel
theorem dm_bound_37 : decode prog_12_method_63_code 37 = .ok (.ireturn, 1) := by decide +kernel
theorem dm_bound_38 : decode prog_12_method_63_code 38 = .ok (.aload_n 0, 1) := by decide +kernel
theorem dm_bound_39 : decode prog_12_method_63_code 39 = .ok (.getfield 7, 3) := by decide +kernel
theorem dm_bound_42 : decode prog_12_method_63_code 42 = .ok (.iconst 0, 1) := by decide +kernel
theorem dm_bound_43 : decode prog_12_method_63_code 43 = .ok (.iconst 4, 1) := by decide +kernel
theorem dm_bound_44 : decode prog_12_method_63_code 44 = .ok (.iload_n 1, 1) := by decide +kernel
theorem dm_bound_45 : decode prog_12_method_63_code 45 = .ok (.imul, 1) := by decide +kernel
theorem dm_bound_46 : decode prog_12_method_63_code 46 = .ok (.iadd, 1) := by decide +kernel
theorem dm_bound_47 : decode prog_12_method_63_code 47 = .ok (.iconst 2, 1) := by decide +kernel
theorem dm_bound_48 : decode prog_12_method_63_code 48 = .ok (.iadd, 1) := by decide +kernel
theorem dm_bound_49 : decode prog_12_method_63_code 49 = .ok (.iload_n 2, 1) := by decide +kernel
theorem dm_bound_50 : decode prog_12_method_63_code 50 = .ok (.iastore, 1) := by decide +kernel
theorem dm_bound_51 : decode prog_12_method_63_code 51 = .ok (.aload_n 0, 1) := by decide +kernel
theorem dm_bound_52 : decode prog_12_method_63_code 52 = .ok (.getfield 7, 3) := by decide +kernel
theorem dm_bound_55 : decode prog_12_method_63_code 55 = .ok (.iconst 0, 1) := by decide +kernel
theorem dm_bound_56 : decode prog_12_method_63_code 56 = .ok (.iconst 4, 1) := by decide +kernel
theorem dm_bound_57 : decode prog_12_method_63_code 57 = .ok (.iload_n 1, 1) := by decide +kernel
theorem dm_bound_58 : decode prog_12_method_63_code 58 = .ok (.imul, 1) := by decide +kernel
theorem dm_bound_59 : decode prog_12_method_63_code 59 = .ok (.iadd, 1) := by decide +kernel
theorem dm_bound_60 : decode prog_12_method_63_code 60 = .ok (.iconst 3, 1) := by decide +kernel
theorem dm_bound_61 : decode prog_12_method_63_code 61 = .ok (.iadd, 1) := by decide +kernel
theorem dm_bound_62 : decode prog_12_method_63_code 62 = .ok (.iload_n 3, 1) := by decide +kernel
theorem dm_bound_63 : decode prog_12_method_63_code 63 = .ok (.iastore, 1) := by decide +kernel
theorem dm_bound_64 : decode prog_12_method_63_code 64 = .ok (.iconst 1, 1) := by decide +kernel
theorem dm_bound_65 : decode prog_12_method_63_code 65 = .ok (.ireturn, 1) := by decide +kernel
theorem dm_layOrder_0 : decode prog_12_method_64_code 0 = .ok (.iload_n 1, 1) := by decide +kernel
theorem dm_layOrder_1 : decode prog_12_method_64_code 1 = .ok (.istore_n 2, 1) := by decide +kernel
theorem dm_layOrder_2 : decode prog_12_method_64_code 2 = .ok (.iconst 1, 1) := by decide +kernel
theorem dm_layOrder_3 : decode prog_12_method_64_code 3 = .ok (.istore_n 3, 1) := by decide +kernel
theorem dm_layOrder_4 : decode prog_12_method_64_code 4 = .ok (.aload_n 0, 1) := by decide +kernel
theorem dm_layOrder_5 : decode prog_12_method_64_code 5 = .ok (.invokevirtual 122, 3) := by decide +kernel
theorem dm_layOrder_8 : decode prog_12_method_64_code 8 = .ok (.iconst 1, 1) := by decide +kernel
theorem dm_layOrder_9 : decode prog_12_method_64_code 9 = .ok (.isub, 1) := by decide +kernel
theorem dm_layOrder_10 : decode prog_12_method_64_code 10 = .ok (.istore 4, 2) := by decide +kernel
theorem dm_layOrder_12 : decode prog_12_method_64_code 12 = .ok (.iload 4, 2) := by decide +kernel
theorem dm_layOrder_14 : decode prog_12_method_64_code 14 = .ok (.ifCond .lt 77, 3) := by decide +kernel
theorem dm_layOrder_17 : decode prog_12_method_64_code 17 = .ok (.aload_n 0, 1) := by decide +kernel
theorem dm_layOrder_18 : decode prog_12_method_64_code 18 = .ok (.getfield 54, 3) := by decide +kernel
theorem dm_layOrder_21 : decode prog_12_method_64_code 21 = .ok (.iload 4, 2) := by decide +kernel
theorem dm_layOrder_23 : decode prog_12_method_64_code 23 = .ok (.iload_n 2, 1) := by decide +kernel
theorem dm_layOrder_24 : decode prog_12_method_64_code 24 = .ok (.aload_n 0, 1) := by decide +kernel
theorem dm_layOrder_25 : decode prog_12_method_64_code 25 = .ok (.invokevirtual 122, 3) := by decide +kernel
theorem dm_layOrder_28 : decode prog_12_method_64_code 28 = .ok (.irem, 1) := by decide +kernel
theorem dm_layOrder_29 : decode prog_12_method_64_code 29 = .ok (.iastore, 1) := by decide +kernel
theorem dm_layOrder_30 : decode prog_12_method_64_code 30 = .ok (.iload_n 2, 1) := by decide +kernel
theorem dm_layOrder_31 : decode prog_12_method_64_code 31 = .ok (.aload_n 0, 1) := by decide +kernel
theorem dm_layOrder_32 : decode prog_12_method_64_code 32 = .ok (.invokevirtual 122, 3) := by decide +kernel
theorem dm_layOrder_35 : decode prog_12_method_64_code 35 = .ok (.idiv, 1) := by decide +kernel
theorem dm_layOrder_36 : decode prog_12_method_64_code 36 = .ok (.istore_n 2, 1) := by decide +kernel
theorem dm_layOrder_37 : decode prog_12_method_64_code 37 = .ok (.iload 4, 2) := by decide +kernel
theorem dm_layOrder_39 : decode prog_12_method_64_code 39 = .ok (.iconst 1, 1) := by decide +kernel
theorem dm_layOrder_40 : decode prog_12_method_64_code 40 = .ok (.iadd, 1) := by decide +kernel
theorem dm_layOrder_41 : decode prog_12_method_64_code 41 = .ok (.istore 5, 2) := by decide +kernel
theorem dm_layOrder_43 : decode prog_12_method_64_code 43 = .ok (.iload 5, 2) := by decide +kernel
theorem dm_layOrder_45 : decode prog_12_method_64_code 45 = .ok (.aload_n 0, 1) := by decide +kernel
theorem dm_layOrder_46 : decode prog_12_method_64_code 46 = .ok (.invokevirtual 122, 3) := by decide +kernel
theorem dm_layOrder_49 : decode prog_12_method_64_code 49 = .ok (.if_icmp .ge 36, 3) := by decide +kernel
theorem dm_layOrder_52 : decode prog_12_method_64_code 52 = .ok (.iload_n 3, 1) := by decide +kernel
theorem dm_layOrder_53 : decode prog_12_method_64_code 53 = .ok (.ifCond .eq 24, 3) := by decide +kernel
theorem dm_layOrder_56 : decode prog_12_method_64_code 56 = .ok (.aload_n 0, 1) := by decide +kernel
theorem dm_layOrder_57 : decode prog_12_method_64_code 57 = .ok (.getfield 54, 3) := by decide +kernel
theorem dm_layOrder_60 : decode prog_12_method_64_code 60 = .ok (.iload 5, 2) := by decide +kernel
theorem dm_layOrder_62 : decode prog_12_method_64_code 62 = .ok (.iaload, 1) := by decide +kernel
theorem dm_layOrder_63 : decode prog_12_method_64_code 63 = .ok (.aload_n 0, 1) := by decide +kernel
theorem dm_layOrder_64 : decode prog_12_method_64_code 64 = .ok (.getfield 54, 3) := by decide +kernel
theorem dm_layOrder_67 : decode prog_12_method_64_code 67 = .ok (.iload 4, 2) := by decide +kernel
theorem dm_layOrder_69 : decode prog_12_method_64_code 69 = .ok (.iaload, 1) := by decide +kernel
theorem dm_layOrder_70 : decode prog_12_method_64_code 70 = .ok (.if_icmp .eq 7, 3) := by decide +kernel
theorem dm_layOrder_73 : decode prog_12_method_64_code 73 = .ok (.iconst 1, 1) := by decide +kernel
theorem dm_layOrder_74 : decode prog_12_method_64_code 74 = .ok (.goto 4, 3) := by decide +kernel
theorem dm_layOrder_77 : decode prog_12_method_64_code 77 = .ok (.iconst 0, 1) := by decide +kernel
theorem dm_layOrder_78 : decode prog_12_method_64_code 78 = .ok (.istore_n 3, 1) := by decide +kernel
theorem dm_layOrder_79 : decode prog_12_method_64_code 79 = .ok (.iinc 5 1, 3) := by decide +kernel
theorem dm_layOrder_82 : decode prog_12_method_64_code 82 = .ok (.goto (-39), 3) := by decide +kernel
theorem dm_layOrder_85 : decode prog_12_method_64_code 85 = .ok (.iinc 4 (-1), 3) := by decide +kernel
theorem dm_layOrder_88 : decode prog_12_method_64_code 88 = .ok (.goto (-76), 3) := by decide +kernel
theorem dm_layOrder_91 : decode prog_12_method_64_code 91 = .ok (.iload_n 3, 1) := by decide +kernel
theorem dm_layOrder_92 : decode prog_12_method_64_code 92 = .ok (.ireturn, 1) := by decide +kernel
theorem dm_comesOutWell_0 : decode prog_12_method_65_code 0 = .ok (.aload_n 0, 1) := by decide +kernel
theorem dm_comesOutWell_1 : decode prog_12_method_65_code 1 = .ok (.invokevirtual 196, 3) := by decide +kernel
theorem dm_comesOutWell_4 : decode prog_12_method_65_code 4 = .ok (.iconst 0, 1) := by decide +kernel
theorem dm_comesOutWell_5 : decode prog_12_method_65_code 5 = .ok (.istore_n 1, 1) := by decide +kernel
theorem dm_comesOutWell_6 : decode prog_12_method_65_code 6 = .ok (.iload_n 1, 1) := by decide +kernel
theorem dm_comesOutWell_7 : decode prog_12_method_65_code 7 = .ok (.bipush 32, 2) := by decide +kernel
theorem dm_comesOutWell_9 : decode prog_12_method_65_code 9 = .ok (.if_icmp .ge 16, 3) := by decide +kernel
theorem dm_comesOutWell_12 : decode prog_12_method_65_code 12 = .ok (.aload_n 0, 1) := by decide +kernel
theorem dm_comesOutWell_13 : decode prog_12_method_65_code 13 = .ok (.getfield 30, 3) := by decide +kernel
theorem dm_comesOutWell_16 : decode prog_12_method_65_code 16 = .ok (.iload_n 1, 1) := by decide +kernel
theorem dm_comesOutWell_17 : decode prog_12_method_65_code 17 = .ok (.iconst 0, 1) := by decide +kernel
theorem dm_comesOutWell_18 : decode prog_12_method_65_code 18 = .ok (.iastore, 1) := by decide +kernel
theorem dm_comesOutWell_19 : decode prog_12_method_65_code 19 = .ok (.iinc 1 1, 3) := by decide +kernel
theorem dm_comesOutWell_22 : decode prog_12_method_65_code 22 = .ok (.goto (-16), 3) := by decide +kernel
theorem dm_comesOutWell_25 : decode prog_12_method_65_code 25 = .ok (.iconst 1, 1) := by decide +kernel
theorem dm_comesOutWell_26 : decode prog_12_method_65_code 26 = .ok (.istore_n 1, 1) := by decide +kernel
theorem dm_comesOutWell_27 : decode prog_12_method_65_code 27 = .ok (.iload_n 1, 1) := by decide +kernel
theorem dm_comesOutWell_28 : decode prog_12_method_65_code 28 = .ok (.aload_n 0, 1) := by decide +kernel
theorem dm_comesOutWell_29 : decode prog_12_method_65_code 29 = .ok (.invokevirtual 122, 3) := by decide +kernel
theorem dm_comesOutWell_32 : decode prog_12_method_65_code 32 = .ok (.if_icmp .ge 32, 3) := by decide +kernel
theorem dm_comesOutWell_35 : decode prog_12_method_65_code 35 = .ok (.aload_n 0, 1) := by decide +kernel
theorem dm_comesOutWell_36 : decode prog_12_method_65_code 36 = .ok (.getfield 30, 3) := by decide +kernel
theorem dm_comesOutWell_39 : decode prog_12_method_65_code 39 = .ok (.iconst 0, 1) := by decide +kernel
theorem dm_comesOutWell_40 : decode prog_12_method_65_code 40 = .ok (.aload_n 0, 1) := by decide +kernel
theorem dm_comesOutWell_41 : decode prog_12_method_65_code 41 = .ok (.getfield 54, 3) := by decide +kernel
theorem dm_comesOutWell_44 : decode prog_12_method_65_code 44 = .ok (.iload_n 1, 1) := by decide +kernel
theorem dm_comesOutWell_45 : decode prog_12_method_65_code 45 = .ok (.iconst 1, 1) := by decide +kernel
theorem dm_comesOutWell_46 : decode prog_12_method_65_code 46 = .ok (.isub, 1) := by decide +kernel
theorem dm_comesOutWell_47 : decode prog_12_method_65_code 47 = .ok (.iaload, 1) := by decide +kernel
theorem dm_comesOutWell_48 : decode prog_12_method_65_code 48 = .ok (.aload_n 0, 1) := by decide +kernel
theorem dm_comesOutWell_49 : decode prog_12_method_65_code 49 = .ok (.getfield 54, 3) := by decide +kernel
theorem dm_comesOutWell_52 : decode prog_12_method_65_code 52 = .ok (.iload_n 1, 1) := by decide +kernel
theorem dm_comesOutWell_53 : decode prog_12_method_65_code 53 = .ok (.iaload, 1) := by decide +kernel
theorem dm_comesOutWell_54 : decode prog_12_method_65_code 54 = .ok (.iconst 3, 1) := by decide +kernel
theorem dm_comesOutWell_55 : decode prog_12_method_65_code 55 = .ok (.invokestatic 156, 3) := by decide +kernel
theorem dm_comesOutWell_58 : decode prog_12_method_65_code 58 = .ok (.iinc 1 1, 3) := by decide +kernel
theorem dm_comesOutWell_61 : decode prog_12_method_65_code 61 = .ok (.goto (-34), 3) := by decide +kernel
theorem dm_comesOutWell_64 : decode prog_12_method_65_code 64 = .ok (.aload_n 0, 1) := by decide +kernel
theorem dm_comesOutWell_65 : decode prog_12_method_65_code 65 = .ok (.invokevirtual 193, 3) := by decide +kernel
theorem dm_comesOutWell_68 : decode prog_12_method_65_code 68 = .ok (.iconst 1, 1) := by decide +kernel
theorem dm_comesOutWell_69 : decode prog_12_method_65_code 69 = .ok (.istore_n 1, 1) := by decide +kernel
theorem dm_comesOutWell_70 : decode prog_12_method_65_code 70 = .ok (.iconst 0, 1) := by decide +kernel
theorem dm_comesOutWell_71 : decode prog_12_method_65_code 71 = .ok (.istore_n 2, 1) := by decide +kernel
theorem dm_comesOutWell_72 : decode prog_12_method_65_code 72 = .ok (.iload_n 2, 1) := by decide +kernel
theorem dm_comesOutWell_73 : decode prog_12_method_65_code 73 = .ok (.aload_n 0, 1) := by decide +kernel
theorem dm_comesOutWell_74 : decode prog_12_method_65_code 74 = .ok (.invokevirtual 122, 3) := by decide +kernel
theorem dm_comesOutWell_77 : decode prog_12_method_65_code 77 = .ok (.if_icmp .ge 59, 3) := by decide +kernel
theorem dm_comesOutWell_80 : decode prog_12_method_65_code 80 = .ok (.iload_n 1, 1) := by decide +kernel
theorem dm_comesOutWell_81 : decode prog_12_method_65_code 81 = .ok (.ifCond .eq 55, 3) := by decide +kernel
theorem dm_comesOutWell_84 : decode prog_12_method_65_code 84 = .ok (.aload_n 0, 1) := by decide +kernel
theorem dm_comesOutWell_85 : decode prog_12_method_65_code 85 = .ok (.iload_n 2, 1) := by decide +kernel
theorem dm_comesOutWell_86 : decode prog_12_method_65_code 86 = .ok (.aload_n 0, 1) := by decide +kernel
theorem dm_comesOutWell_87 : decode prog_12_method_65_code 87 = .ok (.getfield 7, 3) := by decide +kernel
theorem dm_comesOutWell_90 : decode prog_12_method_65_code 90 = .ok (.iconst 0, 1) := by decide +kernel
theorem dm_comesOutWell_91 : decode prog_12_method_65_code 91 = .ok (.iconst 4, 1) := by decide +kernel
theorem dm_comesOutWell_92 : decode prog_12_method_65_code 92 = .ok (.iload_n 2, 1) := by decide +kernel
theorem dm_comesOutWell_93 : decode prog_12_method_65_code 93 = .ok (.imul, 1) := by decide +kernel
theorem dm_comesOutWell_94 : decode prog_12_method_65_code 94 = .ok (.iadd, 1) := by decide +kernel
theorem dm_comesOutWell_95 : decode prog_12_method_65_code 95 = .ok (.iconst 2, 1) := by decide +kernel
theorem dm_comesOutWell_96 : decode prog_12_method_65_code 96 = .ok (.iadd, 1) := by decide +kernel
theorem dm_comesOutWell_97 : decode prog_12_method_65_code 97 = .ok (.iaload, 1) := by decide +kernel
theorem dm_comesOutWell_98 : decode prog_12_method_65_code 98 = .ok (.invokevirtual 212, 3) := by decide +kernel
theorem dm_comesOutWell_101 : decode prog_12_method_65_code 101 = .ok (.ifCond .eq 27, 3) := by decide +kernel
theorem dm_comesOutWell_104 : decode prog_12_method_65_code 104 = .ok (.aload_n 0, 1) := by decide +kernel
theorem dm_comesOutWell_105 : decode prog_12_method_65_code 105 = .ok (.iload_n 2, 1) := by decide +kernel
theorem dm_comesOutWell_106 : decode prog_12_method_65_code 106 = .ok (.aload_n 0, 1) := by decide +kernel
theorem dm_comesOutWell_107 : decode prog_12_method_65_code 107 = .ok (.getfield 7, 3) := by decide +kernel
theorem dm_comesOutWell_110 : decode prog_12_method_65_code 110 = .ok (.iconst 0, 1) := by decide +kernel
theorem dm_comesOutWell_111 : decode prog_12_method_65_code 111 = .ok (.iconst 4, 1) := by decide +kernel
theorem dm_comesOutWell_112 : decode prog_12_method_65_code 112 = .ok (.iload_n 2, 1) := by decide +kernel
theorem dm_comesOutWell_113 : decode prog_12_method_65_code 113 = .ok (.imul, 1) := by decide +kernel
theorem dm_comesOutWell_114 : decode prog_12_method_65_code 114 = .ok (.iadd, 1) := by decide +kernel
theorem dm_comesOutWell_115 : decode prog_12_method_65_code 115 = .ok (.iconst 3, 1) := by decide +kernel
theorem dm_comesOutWell_116 : decode prog_12_method_65_code 116 = .ok (.iadd, 1) := by decide +kernel
theorem dm_comesOutWell_117 : decode prog_12_method_65_code 117 = .ok (.iaload, 1) := by decide +kernel
theorem dm_comesOutWell_118 : decode prog_12_method_65_code 118 = .ok (.invokevirtual 236, 3) := by decide +kernel
theorem dm_comesOutWell_121 : decode prog_12_method_65_code 121 = .ok (.ifCond .eq 7, 3) := by decide +kernel
theorem dm_comesOutWell_124 : decode prog_12_method_65_code 124 = .ok (.iconst 1, 1) := by decide +kernel
theorem dm_comesOutWell_125 : decode prog_12_method_65_code 125 = .ok (.goto 4, 3) := by decide +kernel
theorem dm_comesOutWell_128 : decode prog_12_method_65_code 128 = .ok (.iconst 0, 1) := by decide +kernel
theorem dm_comesOutWell_129 : decode prog_12_method_65_code 129 = .ok (.istore_n 1, 1) := by decide +kernel
theorem dm_comesOutWell_130 : decode prog_12_method_65_code 130 = .ok (.iinc 2 1, 3) := by decide +kernel
theorem dm_comesOutWell_133 : decode prog_12_method_65_code 133 = .ok (.goto (-61), 3) := by decide +kernel
theorem dm_comesOutWell_136 : decode prog_12_method_65_code 136 = .ok (.iload_n 1, 1) := by decide +kernel
theorem dm_comesOutWell_137 : decode prog_12_method_65_code 137 = .ok (.ireturn, 1) := by decide +kernel
theorem dm_chest_0 : decode prog_12_method_66_code 0 = .ok (.iload_n 1, 1) := by decide +kernel
theorem dm_chest_1 : decode prog_12_method_66_code 1 = .ok (.iconst (-1), 1) := by decide +kernel
theorem dm_chest_2 : decode prog_12_method_66_code 2 = .ok (.if_icmp .ge 10, 3) := by decide +kernel
theorem dm_chest_5 : decode prog_12_method_66_code 5 = .ok (.aload_n 0, 1) := by decide +kernel
theorem dm_chest_6 : decode prog_12_method_66_code 6 = .ok (.bipush (-10), 2) := by decide +kernel
theorem dm_chest_8 : decode prog_12_method_66_code 8 = .ok (.invokevirtual 142, 3) := by decide +kernel
theorem dm_chest_11 : decode prog_12_method_66_code 11 = .ok (.ireturn, 1) := by decide +kernel
theorem dm_chest_12 : decode prog_12_method_66_code 12 = .ok (.iconst 1, 1) := by decide +kernel
theorem dm_chest_13 : decode prog_12_method_66_code 13 = .ok (.istore_n 2, 1) := by decide +kernel
theorem dm_chest_14 : decode prog_12_method_66_code 14 = .ok (.iconst 0, 1) := by decide +kernel
theorem dm_chest_15 : decode prog_12_method_66_code 15 = .ok (.istore_n 3, 1) := by decide +kernel
theorem dm_chest_16 : decode prog_12_method_66_code 16 = .ok (.iload_n 3, 1) := by decide +kernel
theorem dm_chest_17 : decode prog_12_method_66_code 17 = .ok (.aload_n 0, 1) := by decide +kernel
theorem dm_chest_18 : decode prog_12_method_66_code 18 = .ok (.invokevirtual 122, 3) := by decide +kernel
theorem dm_chest_21 : decode prog_12_method_66_code 21 = .ok (.if_icmp .ge 16, 3) := by decide +kernel
theorem dm_chest_24 : decode prog_12_method_66_code 24 = .ok (.iload_n 2, 1) := by decide +kernel
theorem dm_chest_25 : decode prog_12_method_66_code 25 = .ok (.aload_n 0, 1) := by decide +kernel
theorem dm_chest_26 : decode prog_12_method_66_code 26 = .ok (.invokevirtual 122, 3) := by decide +kernel
theorem dm_chest_29 : decode prog_12_method_66_code 29 = .ok (.imul, 1) := by decide +kernel
theorem dm_chest_30 : decode prog_12_method_66_code 30 = .ok (.istore_n 2, 1) := by decide +kernel
theorem dm_chest_31 : decode prog_12_method_66_code 31 = .ok (.iinc 3 1, 3) := by decide +kernel
theorem dm_chest_34 : decode prog_12_method_66_code 34 = .ok (.goto (-18), 3) := by decide +kernel
theorem dm_chest_37 : decode prog_12_method_66_code 37 = .ok (.iconst 0, 1) := by decide +kernel
theorem dm_chest_38 : decode prog_12_method_66_code 38 = .ok (.istore_n 3, 1) := by decide +kernel
theorem dm_chest_39 : decode prog_12_method_66_code 39 = .ok (.iconst 0, 1) := by decide +kernel
theorem dm_chest_40 : decode prog_12_method_66_code 40 = .ok (.istore 4, 2) := by decide +kernel
theorem dm_chest_42 : decode prog_12_method_66_code 42 = .ok (.iload 4, 2) := by decide +kernel
theorem dm_chest_44 : decode prog_12_method_66_code 44 = .ok (.iload_n 2, 1) := by decide +kernel
theorem dm_chest_45 : decode prog_12_method_66_code 45 = .ok (.if_icmp .ge 61, 3) := by decide +kernel
theorem dm_chest_48 : decode prog_12_method_66_code 48 = .ok (.aload_n 0, 1) := by decide +kernel
theorem dm_chest_49 : decode prog_12_method_66_code 49 = .ok (.iload 4, 2) := by decide +kernel
theorem dm_chest_51 : decode prog_12_method_66_code 51 = .ok (.invokevirtual 259, 3) := by decide +kernel
theorem dm_chest_54 : decode prog_12_method_66_code 54 = .ok (.ifCond .eq 46, 3) := by decide +kernel
theorem dm_chest_57 : decode prog_12_method_66_code 57 = .ok (.aload_n 0, 1) := by decide +kernel
theorem dm_chest_58 : decode prog_12_method_66_code 58 = .ok (.invokevirtual 262, 3) := by decide +kernel
theorem dm_chest_61 : decode prog_12_method_66_code 61 = .ok (.ifCond .eq 39, 3) := by decide +kernel
theorem dm_chest_64 : decode prog_12_method_66_code 64 = .ok (.iconst 0, 1) := by decide +kernel
theorem dm_chest_65 : decode prog_12_method_66_code 65 = .ok (.istore 5, 2) := by decide +kernel
theorem dm_chest_67 : decode prog_12_method_66_code 67 = .ok (.iload 5, 2) := by decide +kernel
theorem dm_chest_69 : decode prog_12_method_66_code 69 = .ok (.iconst 4, 1) := by decide +kernel
theorem dm_chest_70 : decode prog_12_method_66_code 70 = .ok (.if_icmp .ge 27, 3) := by decide +kernel
theorem dm_chest_73 : decode prog_12_method_66_code 73 = .ok (.iload_n 3, 1) := by decide +kernel
theorem dm_chest_74 : decode prog_12_method_66_code 74 = .ok (.ifCond .ne 23, 3) := by decide +kernel
theorem dm_chest_77 : decode prog_12_method_66_code 77 = .ok (.aload_n 0, 1) := by decide +kernel
theorem dm_chest_78 : decode prog_12_method_66_code 78 = .ok (.getfield 57, 3) := by decide +kernel
theorem dm_chest_81 : decode prog_12_method_66_code 81 = .ok (.iload 5, 2) := by decide +kernel
theorem dm_chest_83 : decode prog_12_method_66_code 83 = .ok (.aload_n 0, 1) := by decide +kernel
theorem dm_chest_84 : decode prog_12_method_66_code 84 = .ok (.getfield 54, 3) := by decide +kernel
theorem dm_chest_87 : decode prog_12_method_66_code 87 = .ok (.iload 5, 2) := by decide +kernel
theorem dm_chest_89 : decode prog_12_method_66_code 89 = .ok (.iaload, 1) := by decide +kernel
theorem dm_chest_90 : decode prog_12_method_66_code 90 = .ok (.iastore, 1) := by decide +kernel
theorem dm_chest_91 : decode prog_12_method_66_code 91 = .ok (.iinc 5 1, 3) := by decide +kernel
theorem dm_chest_94 : decode prog_12_method_66_code 94 = .ok (.goto (-27), 3) := by decide +kernel
theorem dm_chest_97 : decode prog_12_method_66_code 97 = .ok (.iinc 3 1, 3) := by decide +kernel
theorem dm_chest_100 : decode prog_12_method_66_code 100 = .ok (.iinc 4 1, 3) := by decide +kernel
theorem dm_chest_103 : decode prog_12_method_66_code 103 = .ok (.goto (-61), 3) := by decide +kernel
theorem dm_chest_106 : decode prog_12_method_66_code 106 = .ok (.iload_n 1, 1) := by decide +kernel
theorem dm_chest_107 : decode prog_12_method_66_code 107 = .ok (.iconst (-1), 1) := by decide +kernel
theorem dm_chest_108 : decode prog_12_method_66_code 108 = .ok (.if_icmp .ne 7, 3) := by decide +kernel
theorem dm_chest_111 : decode prog_12_method_66_code 111 = .ok (.iload_n 3, 1) := by decide +kernel
theorem dm_chest_112 : decode prog_12_method_66_code 112 = .ok (.goto 26, 3) := by decide +kernel
theorem dm_chest_115 : decode prog_12_method_66_code 115 = .ok (.iload_n 3, 1) := by decide +kernel
theorem dm_chest_116 : decode prog_12_method_66_code 116 = .ok (.ifCond .eq 11, 3) := by decide +kernel
theorem dm_chest_119 : decode prog_12_method_66_code 119 = .ok (.iload_n 1, 1) := by decide +kernel
theorem dm_chest_120 : decode prog_12_method_66_code 120 = .ok (.aload_n 0, 1) := by decide +kernel
theorem dm_chest_121 : decode prog_12_method_66_code 121 = .ok (.invokevirtual 122, 3) := by decide +kernel
theorem dm_chest_124 : decode prog_12_method_66_code 124 = .ok (.if_icmp .lt 8, 3) := by decide +kernel
theorem dm_chest_127 : decode prog_12_method_66_code 127 = .ok (.bipush (-5), 2) := by decide +kernel
theorem dm_chest_129 : decode prog_12_method_66_code 129 = .ok (.goto 9, 3) := by decide +kernel
theorem dm_chest_132 : decode prog_12_method_66_code 132 = .ok (.aload_n 0, 1) := by decide +kernel
theorem dm_chest_133 : decode prog_12_method_66_code 133 = .ok (.getfield 57, 3) := by decide +kernel
theorem dm_chest_136 : decode prog_12_method_66_code 136 = .ok (.iload_n 1, 1) := by decide +kernel
theorem dm_chest_137 : decode prog_12_method_66_code 137 = .ok (.iaload, 1) := by decide +kernel
theorem dm_chest_138 : decode prog_12_method_66_code 138 = .ok (.ireturn, 1) := by decide +kernel
theorem dm_mayTouch_0 : decode prog_12_method_67_code 0 = .ok (.iload_n 1, 1) := by decide +kernel
theorem dm_mayTouch_1 : decode prog_12_method_67_code 1 = .ok (.ifCond .le 7, 3) := by decide +kernel
theorem dm_mayTouch_4 : decode prog_12_method_67_code 4 = .ok (.iconst 1, 1) := by decide +kernel
theorem dm_mayTouch_5 : decode prog_12_method_67_code 5 = .ok (.goto 4, 3) := by decide +kernel
theorem dm_mayTouch_8 : decode prog_12_method_67_code 8 = .ok (.iconst 0, 1) := by decide +kernel
theorem dm_mayTouch_9 : decode prog_12_method_67_code 9 = .ok (.istore_n 2, 1) := by decide +kernel
theorem dm_mayTouch_10 : decode prog_12_method_67_code 10 = .ok (.iconst 0, 1) := by decide +kernel
theorem dm_mayTouch_11 : decode prog_12_method_67_code 11 = .ok (.istore_n 3, 1) := by decide +kernel
theorem dm_mayTouch_12 : decode prog_12_method_67_code 12 = .ok (.iload_n 3, 1) := by decide +kernel
theorem dm_mayTouch_13 : decode prog_12_method_67_code 13 = .ok (.bipush 8, 2) := by decide +kernel
theorem dm_mayTouch_15 : decode prog_12_method_67_code 15 = .ok (.if_icmp .ge 48, 3) := by decide +kernel
theorem dm_mayTouch_18 : decode prog_12_method_67_code 18 = .ok (.iload_n 2, 1) := by decide +kernel
theorem dm_mayTouch_19 : decode prog_12_method_67_code 19 = .ok (.ifCond .eq 36, 3) := by decide +kernel
theorem dm_mayTouch_22 : decode prog_12_method_67_code 22 = .ok (.iload_n 1, 1) := by decide +kernel
theorem dm_mayTouch_23 : decode prog_12_method_67_code 23 = .ok (.iload_n 3, 1) := by decide +kernel
theorem dm_mayTouch_24 : decode prog_12_method_67_code 24 = .ok (.ishr, 1) := by decide +kernel
theorem dm_mayTouch_25 : decode prog_12_method_67_code 25 = .ok (.iconst 1, 1) := by decide +kernel
theorem dm_mayTouch_26 : decode prog_12_method_67_code 26 = .ok (.iand, 1) := by decide +kernel
theorem dm_mayTouch_27 : decode prog_12_method_67_code 27 = .ok (.ifCond .eq 24, 3) := by decide +kernel
theorem dm_mayTouch_30 : decode prog_12_method_67_code 30 = .ok (.aload_n 0, 1) := by decide +kernel
theorem dm_mayTouch_31 : decode prog_12_method_67_code 31 = .ok (.iload_n 3, 1) := by decide +kernel
theorem dm_mayTouch_32 : decode prog_12_method_67_code 32 = .ok (.invokevirtual 153, 3) := by decide +kernel
theorem dm_mayTouch_35 : decode prog_12_method_67_code 35 = .ok (.ifCond .eq 20, 3) := by decide +kernel
theorem dm_mayTouch_38 : decode prog_12_method_67_code 38 = .ok (.iload_n 3, 1) := by decide +kernel
theorem dm_mayTouch_39 : decode prog_12_method_67_code 39 = .ok (.iconst 3, 1) := by decide +kernel
theorem dm_mayTouch_40 : decode prog_12_method_67_code 40 = .ok (.if_icmp .gt 11, 3) := by decide +kernel
theorem dm_mayTouch_43 : decode prog_12_method_67_code 43 = .ok (.aload_n 0, 1) := by decide +kernel
theorem dm_mayTouch_44 : decode prog_12_method_67_code 44 = .ok (.iload_n 3, 1) := by decide +kernel
theorem dm_mayTouch_45 : decode prog_12_method_67_code 45 = .ok (.invokevirtual 166, 3) := by decide +kernel
theorem dm_mayTouch_48 : decode prog_12_method_67_code 48 = .ok (.ifCond .eq 7, 3) := by decide +kernel
theorem dm_mayTouch_51 : decode prog_12_method_67_code 51 = .ok (.iconst 1, 1) := by decide +kernel
theorem dm_mayTouch_52 : decode prog_12_method_67_code 52 = .ok (.goto 4, 3) := by decide +kernel
theorem dm_mayTouch_55 : decode prog_12_method_67_code 55 = .ok (.iconst 0, 1) := by decide +kernel
theorem dm_mayTouch_56 : decode prog_12_method_67_code 56 = .ok (.istore_n 2, 1) := by decide +kernel
theorem dm_mayTouch_57 : decode prog_12_method_67_code 57 = .ok (.iinc 3 1, 3) := by decide +kernel
theorem dm_mayTouch_60 : decode prog_12_method_67_code 60 = .ok (.goto (-48), 3) := by decide +kernel
theorem dm_mayTouch_63 : decode prog_12_method_67_code 63 = .ok (.iload_n 2, 1) := by decide +kernel
theorem dm_mayTouch_64 : decode prog_12_method_67_code 64 = .ok (.ireturn, 1) := by decide +kernel
theorem dm_isMeanOf_0 : decode prog_12_method_68_code 0 = .ok (.iconst 0, 1) := by decide +kernel
theorem dm_isMeanOf_1 : decode prog_12_method_68_code 1 = .ok (.istore 4, 2) := by decide +kernel
theorem dm_isMeanOf_3 : decode prog_12_method_68_code 3 = .ok (.aload_n 0, 1) := by decide +kernel
theorem dm_isMeanOf_4 : decode prog_12_method_68_code 4 = .ok (.bipush 7, 2) := by decide +kernel
theorem dm_isMeanOf_6 : decode prog_12_method_68_code 6 = .ok (.lconst 0, 1) := by decide +kernel
theorem dm_isMeanOf_7 : decode prog_12_method_68_code 7 = .ok (.invokevirtual 72, 3) := by decide +kernel
theorem dm_isMeanOf_10 : decode prog_12_method_68_code 10 = .ok (.iconst 0, 1) := by decide +kernel
theorem dm_isMeanOf_11 : decode prog_12_method_68_code 11 = .ok (.istore 5, 2) := by decide +kernel
theorem dm_isMeanOf_13 : decode prog_12_method_68_code 13 = .ok (.iload 5, 2) := by decide +kernel
theorem dm_isMeanOf_15 : decode prog_12_method_68_code 15 = .ok (.bipush 8, 2) := by decide +kernel
theorem dm_isMeanOf_17 : decode prog_12_method_68_code 17 = .ok (.if_icmp .ge 38, 3) := by decide +kernel
theorem dm_isMeanOf_20 : decode prog_12_method_68_code 20 = .ok (.iload_n 1, 1) := by decide +kernel
theorem dm_isMeanOf_21 : decode prog_12_method_68_code 21 = .ok (.iload 5, 2) := by decide +kernel
theorem dm_isMeanOf_23 : decode prog_12_method_68_code 23 = .ok (.ishr, 1) := by decide +kernel
theorem dm_isMeanOf_24 : decode prog_12_method_68_code 24 = .ok (.iconst 1, 1) := by decide +kernel
theorem dm_isMeanOf_25 : decode prog_12_method_68_code 25 = .ok (.iand, 1) := by decide +kernel
theorem dm_isMeanOf_26 : decode prog_12_method_68_code 26 = .ok (.iconst 1, 1) := by decide +kernel
theorem dm_isMeanOf_27 : decode prog_12_method_68_code 27 = .ok (.if_icmp .ne 22, 3) := by decide +kernel
theorem dm_isMeanOf_30 : decode prog_12_method_68_code 30 = .ok (.aload_n 0, 1) := by decide +kernel
theorem dm_isMeanOf_31 : decode prog_12_method_68_code 31 = .ok (.bipush 8, 2) := by decide +kernel
theorem dm_isMeanOf_33 : decode prog_12_method_68_code 33 = .ok (.iload 5, 2) := by decide +kernel
theorem dm_isMeanOf_35 : decode prog_12_method_68_code 35 = .ok (.invokevirtual 175, 3) := by decide +kernel
theorem dm_isMeanOf_38 : decode prog_12_method_68_code 38 = .ok (.aload_n 0, 1) := by decide +kernel
theorem dm_isMeanOf_39 : decode prog_12_method_68_code 39 = .ok (.bipush 7, 2) := by decide +kernel
theorem dm_isMeanOf_41 : decode prog_12_method_68_code 41 = .ok (.bipush 8, 2) := by decide +kernel
theorem dm_isMeanOf_43 : decode prog_12_method_68_code 43 = .ok (.invokevirtual 178, 3) := by decide +kernel
theorem dm_isMeanOf_46 : decode prog_12_method_68_code 46 = .ok (.iinc 4 1, 3) := by decide +kernel
theorem dm_isMeanOf_49 : decode prog_12_method_68_code 49 = .ok (.iinc 5 1, 3) := by decide +kernel
theorem dm_isMeanOf_52 : decode prog_12_method_68_code 52 = .ok (.goto (-39), 3) := by decide +kernel
theorem dm_isMeanOf_55 : decode prog_12_method_68_code 55 = .ok (.aload_n 0, 1) := by decide +kernel
theorem dm_isMeanOf_56 : decode prog_12_method_68_code 56 = .ok (.bipush 7, 2) := by decide +kernel
theorem dm_isMeanOf_58 : decode prog_12_method_68_code 58 = .ok (.iload_n 3, 1) := by decide +kernel
theorem dm_isMeanOf_59 : decode prog_12_method_68_code 59 = .ok (.i2l, 1) := by decide +kernel
theorem dm_isMeanOf_60 : decode prog_12_method_68_code 60 = .ok (.invokevirtual 102, 3) := by decide +kernel
theorem dm_isMeanOf_63 : decode prog_12_method_68_code 63 = .ok (.aload_n 0, 1) := by decide +kernel
theorem dm_isMeanOf_64 : decode prog_12_method_68_code 64 = .ok (.bipush 8, 2) := by decide +kernel
theorem dm_isMeanOf_66 : decode prog_12_method_68_code 66 = .ok (.bipush 18, 2) := by decide +kernel
theorem dm_isMeanOf_68 : decode prog_12_method_68_code 68 = .ok (.invokevirtual 84, 3) := by decide +kernel
theorem dm_isMeanOf_71 : decode prog_12_method_68_code 71 = .ok (.aload_n 0, 1) := by decide +kernel
theorem dm_isMeanOf_72 : decode prog_12_method_68_code 72 = .ok (.bipush 8, 2) := by decide +kernel
theorem dm_isMeanOf_74 : decode prog_12_method_68_code 74 = .ok (.bipush 12, 2) := by decide +kernel
theorem dm_isMeanOf_76 : decode prog_12_method_68_code 76 = .ok (.iload 4, 2) := by decide +kernel
theorem dm_isMeanOf_78 : decode prog_12_method_68_code 78 = .ok (.imul, 1) := by decide +kernel
theorem dm_isMeanOf_79 : decode prog_12_method_68_code 79 = .ok (.iload_n 2, 1) := by decide +kernel
theorem dm_isMeanOf_80 : decode prog_12_method_68_code 80 = .ok (.imul, 1) := by decide +kernel
theorem dm_isMeanOf_81 : decode prog_12_method_68_code 81 = .ok (.i2l, 1) := by decide +kernel
theorem dm_isMeanOf_82 : decode prog_12_method_68_code 82 = .ok (.invokevirtual 102, 3) := by decide +kernel
theorem dm_isMeanOf_85 : decode prog_12_method_68_code 85 = .ok (.aload_n 0, 1) := by decide +kernel
theorem dm_isMeanOf_86 : decode prog_12_method_68_code 86 = .ok (.bipush 7, 2) := by decide +kernel
theorem dm_isMeanOf_88 : decode prog_12_method_68_code 88 = .ok (.bipush 8, 2) := by decide +kernel
theorem dm_isMeanOf_90 : decode prog_12_method_68_code 90 = .ok (.invokevirtual 95, 3) := by decide +kernel
theorem dm_isMeanOf_93 : decode prog_12_method_68_code 93 = .ok (.ifCond .ne 7, 3) := by decide +kernel
theorem dm_isMeanOf_96 : decode prog_12_method_68_code 96 = .ok (.iconst 1, 1) := by decide +kernel
theorem dm_isMeanOf_97 : decode prog_12_method_68_code 97 = .ok (.goto 4, 3) := by decide +kernel
theorem dm_isMeanOf_100 : decode prog_12_method_68_code 100 = .ok (.iconst 0, 1) := by decide +kernel
theorem dm_isMeanOf_101 : decode prog_12_method_68_code 101 = .ok (.ireturn, 1) := by decide +kernel
theorem dm_morning_0 : decode prog_12_method_69_code 0 = .ok (.iload_n 2, 1) := by decide +kernel
theorem dm_morning_1 : decode prog_12_method_69_code 1 = .ok (.i2l, 1) := by decide +kernel
theorem dm_morning_2 : decode prog_12_method_69_code 2 = .ok (.lconst 1, 1) := by decide +kernel
theorem dm_morning_3 : decode prog_12_method_69_code 3 = .ok (.ldc2_w 265, 3) := by decide +kernel
theorem dm_morning_6 : decode prog_12_method_69_code 6 = .ok (.invokestatic 126, 3) := by decide +kernel
theorem dm_morning_9 : decode prog_12_method_69_code 9 = .ok (.ifCond .eq 19, 3) := by decide +kernel
theorem dm_morning_12 : decode prog_12_method_69_code 12 = .ok (.iload_n 1, 1) := by decide +kernel
theorem dm_morning_13 : decode prog_12_method_69_code 13 = .ok (.i2l, 1) := by decide +kernel
theorem dm_morning_14 : decode prog_12_method_69_code 14 = .ok (.lconst 0, 1) := by decide +kernel
theorem dm_morning_15 : decode prog_12_method_69_code 15 = .ok (.iload_n 2, 1) := by decide +kernel
theorem dm_morning_16 : decode prog_12_method_69_code 16 = .ok (.i2l, 1) := by decide +kernel
theorem dm_morning_17 : decode prog_12_method_69_code 17 = .ok (.invokestatic 126, 3) := by decide +kernel
theorem dm_morning_20 : decode prog_12_method_69_code 20 = .ok (.ifCond .eq 8, 3) := by decide +kernel
theorem dm_morning_23 : decode prog_12_method_69_code 23 = .ok (.iload_n 3, 1) := by decide +kernel
theorem dm_morning_24 : decode prog_12_method_69_code 24 = .ok (.iconst (-1), 1) := by decide +kernel
theorem dm_morning_25 : decode prog_12_method_69_code 25 = .ok (.if_icmp .ge 10, 3) := by decide +kernel
theorem dm_morning_28 : decode prog_12_method_69_code 28 = .ok (.aload_n 0, 1) := by decide +kernel
theorem dm_morning_29 : decode prog_12_method_69_code 29 = .ok (.bipush (-10), 2) := by decide +kernel
theorem dm_morning_31 : decode prog_12_method_69_code 31 = .ok (.invokevirtual 142, 3) := by decide +kernel
theorem dm_morning_34 : decode prog_12_method_69_code 34 = .ok (.ireturn, 1) := by decide +kernel
theorem dm_morning_35 : decode prog_12_method_69_code 35 = .ok (.aload_n 0, 1) := by decide +kernel
theorem dm_morning_36 : decode prog_12_method_69_code 36 = .ok (.invokevirtual 196, 3) := by decide +kernel
theorem dm_morning_39 : decode prog_12_method_69_code 39 = .ok (.iconst 0, 1) := by decide +kernel
theorem dm_morning_40 : decode prog_12_method_69_code 40 = .ok (.istore 4, 2) := by decide +kernel
theorem dm_morning_42 : decode prog_12_method_69_code 42 = .ok (.iconst 1, 1) := by decide +kernel
theorem dm_morning_43 : decode prog_12_method_69_code 43 = .ok (.istore 5, 2) := by decide +kernel
theorem dm_morning_45 : decode prog_12_method_69_code 45 = .ok (.iload 5, 2) := by decide +kernel
theorem dm_morning_47 : decode prog_12_method_69_code 47 = .ok (.sipush 256, 3) := by decide +kernel
theorem dm_morning_50 : decode prog_12_method_69_code 50 = .ok (.if_icmp .ge 41, 3) := by decide +kernel
theorem dm_morning_53 : decode prog_12_method_69_code 53 = .ok (.aload_n 0, 1) := by decide +kernel
theorem dm_morning_54 : decode prog_12_method_69_code 54 = .ok (.iload 5, 2) := by decide +kernel
theorem dm_morning_56 : decode prog_12_method_69_code 56 = .ok (.invokevirtual 267, 3) := by decide +kernel
theorem dm_morning_59 : decode prog_12_method_69_code 59 = .ok (.ifCond .eq 26, 3) := by decide +kernel
theorem dm_morning_62 : decode prog_12_method_69_code 62 = .ok (.aload_n 0, 1) := by decide +kernel
theorem dm_morning_63 : decode prog_12_method_69_code 63 = .ok (.iload 5, 2) := by decide +kernel
theorem dm_morning_65 : decode prog_12_method_69_code 65 = .ok (.iload_n 1, 1) := by decide +kernel
theorem dm_morning_66 : decode prog_12_method_69_code 66 = .ok (.iload_n 2, 1) := by decide +kernel
theorem dm_morning_67 : decode prog_12_method_69_code 67 = .ok (.invokevirtual 270, 3) := by decide +kernel
theorem dm_morning_70 : decode prog_12_method_69_code 70 = .ok (.ifCond .eq 15, 3) := by decide +kernel
theorem dm_morning_73 : decode prog_12_method_69_code 73 = .ok (.iload 4, 2) := by decide +kernel
theorem dm_morning_75 : decode prog_12_method_69_code 75 = .ok (.iload_n 3, 1) := by decide +kernel
theorem dm_morning_76 : decode prog_12_method_69_code 76 = .ok (.if_icmp .ne 6, 3) := by decide +kernel
theorem dm_morning_79 : decode prog_12_method_69_code 79 = .ok (.iload 5, 2) := by decide +kernel
theorem dm_morning_81 : decode prog_12_method_69_code 81 = .ok (.ireturn, 1) := by decide +kernel
theorem dm_morning_82 : decode prog_12_method_69_code 82 = .ok (.iinc 4 1, 3) := by decide +kernel
theorem dm_morning_85 : decode prog_12_method_69_code 85 = .ok (.iinc 5 1, 3) := by decide +kernel
theorem dm_morning_88 : decode prog_12_method_69_code 88 = .ok (.goto (-43), 3) := by decide +kernel
theorem dm_morning_91 : decode prog_12_method_69_code 91 = .ok (.iload_n 3, 1) := by decide +kernel
theorem dm_morning_92 : decode prog_12_method_69_code 92 = .ok (.iconst (-1), 1) := by decide +kernel
theorem dm_morning_93 : decode prog_12_method_69_code 93 = .ok (.if_icmp .ne 8, 3) := by decide +kernel
theorem dm_morning_96 : decode prog_12_method_69_code 96 = .ok (.iload 4, 2) := by decide +kernel
theorem dm_morning_98 : decode prog_12_method_69_code 98 = .ok (.goto 5, 3) := by decide +kernel
theorem dm_morning_101 : decode prog_12_method_69_code 101 = .ok (.bipush (-5), 2) := by decide +kernel
theorem dm_morning_103 : decode prog_12_method_69_code 103 = .ok (.ireturn, 1) := by decide +kernel
theorem dm_surely_0 : decode prog_12_method_70_code 0 = .ok (.iload_n 2, 1) := by decide +kernel
theorem dm_surely_1 : decode prog_12_method_70_code 1 = .ok (.i2l, 1) := by decide +kernel
theorem dm_surely_2 : decode prog_12_method_70_code 2 = .ok (.lconst 1, 1) := by decide +kernel
theorem dm_surely_3 : decode prog_12_method_70_code 3 = .ok (.ldc2_w 265, 3) := by decide +kernel
theorem dm_surely_6 : decode prog_12_method_70_code 6 = .ok (.invokestatic 126, 3) := by decide +kernel
theorem dm_surely_9 : decode prog_12_method_70_code 9 = .ok (.ifCond .eq 14, 3) := by decide +kernel
theorem dm_surely_12 : decode prog_12_method_70_code 12 = .ok (.iload_n 1, 1) := by decide +kernel
theorem dm_surely_13 : decode prog_12_method_70_code 13 = .ok (.i2l, 1) := by decide +kernel
theorem dm_surely_14 : decode prog_12_method_70_code 14 = .ok (.lconst 0, 1) := by decide +kernel
theorem dm_surely_15 : decode prog_12_method_70_code 15 = .ok (.iload_n 2, 1) := by decide +kernel
theorem dm_surely_16 : decode prog_12_method_70_code 16 = .ok (.i2l, 1) := by decide +kernel
theorem dm_surely_17 : decode prog_12_method_70_code 17 = .ok (.invokestatic 126, 3) := by decide +kernel
theorem dm_surely_20 : decode prog_12_method_70_code 20 = .ok (.ifCond .ne 10, 3) := by decide +kernel
theorem dm_surely_23 : decode prog_12_method_70_code 23 = .ok (.aload_n 0, 1) := by decide +kernel
theorem dm_surely_24 : decode prog_12_method_70_code 24 = .ok (.bipush (-2), 2) := by decide +kernel
theorem dm_surely_26 : decode prog_12_method_70_code 26 = .ok (.invokevirtual 142, 3) := by decide +kernel
theorem dm_surely_29 : decode prog_12_method_70_code 29 = .ok (.ireturn, 1) := by decide +kernel
theorem dm_surely_30 : decode prog_12_method_70_code 30 = .ok (.aload_n 0, 1) := by decide +kernel
theorem dm_surely_31 : decode prog_12_method_70_code 31 = .ok (.invokevirtual 196, 3) := by decide +kernel
theorem dm_surely_34 : decode prog_12_method_70_code 34 = .ok (.iconst (-1), 1) := by decide +kernel
theorem dm_surely_35 : decode prog_12_method_70_code 35 = .ok (.istore_n 3, 1) := by decide +kernel
theorem dm_surely_36 : decode prog_12_method_70_code 36 = .ok (.iconst 1, 1) := by decide +kernel
theorem dm_surely_37 : decode prog_12_method_70_code 37 = .ok (.istore 4, 2) := by decide +kernel
theorem dm_surely_39 : decode prog_12_method_70_code 39 = .ok (.iload 4, 2) := by decide +kernel
theorem dm_surely_41 : decode prog_12_method_70_code 41 = .ok (.sipush 256, 3) := by decide +kernel
theorem dm_surely_44 : decode prog_12_method_70_code 44 = .ok (.if_icmp .ge 38, 3) := by decide +kernel
theorem dm_surely_47 : decode prog_12_method_70_code 47 = .ok (.aload_n 0, 1) := by decide +kernel
theorem dm_surely_48 : decode prog_12_method_70_code 48 = .ok (.iload 4, 2) := by decide +kernel
theorem dm_surely_50 : decode prog_12_method_70_code 50 = .ok (.invokevirtual 267, 3) := by decide +kernel
theorem dm_surely_53 : decode prog_12_method_70_code 53 = .ok (.ifCond .eq 21, 3) := by decide +kernel
theorem dm_surely_56 : decode prog_12_method_70_code 56 = .ok (.aload_n 0, 1) := by decide +kernel
theorem dm_surely_57 : decode prog_12_method_70_code 57 = .ok (.iload 4, 2) := by decide +kernel
theorem dm_surely_59 : decode prog_12_method_70_code 59 = .ok (.iload_n 1, 1) := by decide +kernel
theorem dm_surely_60 : decode prog_12_method_70_code 60 = .ok (.iload_n 2, 1) := by decide +kernel
theorem dm_surely_61 : decode prog_12_method_70_code 61 = .ok (.invokevirtual 270, 3) := by decide +kernel
theorem dm_surely_64 : decode prog_12_method_70_code 64 = .ok (.ifCond .eq 10, 3) := by decide +kernel
theorem dm_surely_67 : decode prog_12_method_70_code 67 = .ok (.iload_n 3, 1) := by decide +kernel
theorem dm_surely_68 : decode prog_12_method_70_code 68 = .ok (.iload 4, 2) := by decide +kernel
theorem dm_surely_70 : decode prog_12_method_70_code 70 = .ok (.iand, 1) := by decide +kernel
theorem dm_surely_71 : decode prog_12_method_70_code 71 = .ok (.goto 4, 3) := by decide +kernel
theorem dm_surely_74 : decode prog_12_method_70_code 74 = .ok (.iload_n 3, 1) := by decide +kernel
theorem dm_surely_75 : decode prog_12_method_70_code 75 = .ok (.istore_n 3, 1) := by decide +kernel
theorem dm_surely_76 : decode prog_12_method_70_code 76 = .ok (.iinc 4 1, 3) := by decide +kernel
theorem dm_surely_79 : decode prog_12_method_70_code 79 = .ok (.goto (-40), 3) := by decide +kernel
theorem dm_surely_82 : decode prog_12_method_70_code 82 = .ok (.iload_n 3, 1) := by decide +kernel
theorem dm_surely_83 : decode prog_12_method_70_code 83 = .ok (.ireturn, 1) := by decide +kernel
theorem dm_borrower_0 : decode prog_12_method_71_code 0 = .ok (.aload_n 0, 1) := by decide +kernel
theorem dm_borrower_1 : decode prog_12_method_71_code 1 = .ok (.iload_n 1, 1) := by decide +kernel
theorem dm_borrower_2 : decode prog_12_method_71_code 2 = .ok (.invokevirtual 133, 3) := by decide +kernel
theorem dm_borrower_5 : decode prog_12_method_71_code 5 = .ok (.ifCond .eq 39, 3) := by decide +kernel
theorem dm_borrower_8 : decode prog_12_method_71_code 8 = .ok (.iload_n 3, 1) := by decide +kernel
theorem dm_borrower_9 : decode prog_12_method_71_code 9 = .ok (.i2l, 1) := by decide +kernel
theorem dm_borrower_10 : decode prog_12_method_71_code 10 = .ok (.lconst 0, 1) := by decide +kernel
theorem dm_borrower_11 : decode prog_12_method_71_code 11 = .ok (.ldc2_w 140, 3) := by decide +kernel
theorem dm_borrower_14 : decode prog_12_method_71_code 14 = .ok (.invokestatic 126, 3) := by decide +kernel
theorem dm_borrower_17 : decode prog_12_method_71_code 17 = .ok (.ifCond .eq 27, 3) := by decide +kernel
theorem dm_borrower_20 : decode prog_12_method_71_code 20 = .ok (.iload_n 2, 1) := by decide +kernel
theorem dm_borrower_21 : decode prog_12_method_71_code 21 = .ok (.i2l, 1) := by decide +kernel
theorem dm_borrower_22 : decode prog_12_method_71_code 22 = .ok (.lconst 0, 1) := by decide +kernel
theorem dm_borrower_23 : decode prog_12_method_71_code 23 = .ok (.iload_n 3, 1) := by decide +kernel
theorem dm_borrower_24 : decode prog_12_method_71_code 24 = .ok (.i2l, 1) := by decide +kernel
theorem dm_borrower_25 : decode prog_12_method_71_code 25 = .ok (.invokestatic 126, 3) := by decide +kernel
theorem dm_borrower_28 : decode prog_12_method_71_code 28 = .ok (.ifCond .eq 16, 3) := by decide +kernel
theorem dm_borrower_31 : decode prog_12_method_71_code 31 = .ok (.iload 4, 2) := by decide +kernel
theorem dm_borrower_33 : decode prog_12_method_71_code 33 = .ok (.i2l, 1) := by decide +kernel
theorem dm_borrower_34 : decode prog_12_method_71_code 34 = .ok (.lconst 0, 1) := by decide +kernel
theorem dm_borrower_35 : decode prog_12_method_71_code 35 = .ok (.ldc2_w 140, 3) := by decide +kernel
theorem dm_borrower_38 : decode prog_12_method_71_code 38 = .ok (.invokestatic 126, 3) := by decide +kernel
theorem dm_borrower_41 : decode prog_12_method_71_code 41 = .ok (.ifCond .ne 10, 3) := by decide +kernel
theorem dm_borrower_44 : decode prog_12_method_71_code 44 = .ok (.aload_n 0, 1) := by decide +kernel
theorem dm_borrower_45 : decode prog_12_method_71_code 45 = .ok (.bipush (-2), 2) := by decide +kernel
theorem dm_borrower_47 : decode prog_12_method_71_code 47 = .ok (.invokevirtual 142, 3) := by decide +kernel
theorem dm_borrower_50 : decode prog_12_method_71_code 50 = .ok (.ireturn, 1) := by decide +kernel
theorem dm_borrower_51 : decode prog_12_method_71_code 51 = .ok (.aload_n 0, 1) := by decide +kernel
theorem dm_borrower_52 : decode prog_12_method_71_code 52 = .ok (.getfield 7, 3) := by decide +kernel
theorem dm_borrower_55 : decode prog_12_method_71_code 55 = .ok (.bipush 80, 2) := by decide +kernel
theorem dm_borrower_57 : decode prog_12_method_71_code 57 = .ok (.iaload, 1) := by decide +kernel
theorem dm_borrower_58 : decode prog_12_method_71_code 58 = .ok (.istore 5, 2) := by decide +kernel
theorem dm_borrower_60 : decode prog_12_method_71_code 60 = .ok (.iload 5, 2) := by decide +kernel
theorem dm_borrower_62 : decode prog_12_method_71_code 62 = .ok (.bipush 6, 2) := by decide +kernel
theorem dm_borrower_64 : decode prog_12_method_71_code 64 = .ok (.if_icmp .ne 8, 3) := by decide +kernel
theorem dm_borrower_67 : decode prog_12_method_71_code 67 = .ok (.aload_n 0, 1) := by decide +kernel
theorem dm_borrower_68 : decode prog_12_method_71_code 68 = .ok (.invokevirtual 146, 3) := by decide +kernel
theorem dm_borrower_71 : decode prog_12_method_71_code 71 = .ok (.ireturn, 1) := by decide +kernel
theorem dm_borrower_72 : decode prog_12_method_71_code 72 = .ok (.aload_n 0, 1) := by decide +kernel
theorem dm_borrower_73 : decode prog_12_method_71_code 73 = .ok (.getfield 7, 3) := by decide +kernel
theorem dm_borrower_76 : decode prog_12_method_71_code 76 = .ok (.bipush 52, 2) := by decide +kernel
theorem dm_borrower_78 : decode prog_12_method_71_code 78 = .ok (.iconst 4, 1) := by decide +kernel
theorem dm_borrower_79 : decode prog_12_method_71_code 79 = .ok (.iload 5, 2) := by decide +kernel
theorem dm_borrower_81 : decode prog_12_method_71_code 81 = .ok (.imul, 1) := by decide +kernel
theorem dm_borrower_82 : decode prog_12_method_71_code 82 = .ok (.iadd, 1) := by decide +kernel
theorem dm_borrower_83 : decode prog_12_method_71_code 83 = .ok (.iload_n 1, 1) := by decide +kernel
theorem dm_borrower_84 : decode prog_12_method_71_code 84 = .ok (.iastore, 1) := by decide +kernel
theorem dm_borrower_85 : decode prog_12_method_71_code 85 = .ok (.aload_n 0, 1) := by decide +kernel
theorem dm_borrower_86 : decode prog_12_method_71_code 86 = .ok (.getfield 7, 3) := by decide +kernel
theorem dm_borrower_89 : decode prog_12_method_71_code 89 = .ok (.bipush 52, 2) := by decide +kernel
theorem dm_borrower_91 : decode prog_12_method_71_code 91 = .ok (.iconst 4, 1) := by decide +kernel
theorem dm_borrower_92 : decode prog_12_method_71_code 92 = .ok (.iload 5, 2) := by decide +kernel
theorem dm_borrower_94 : decode prog_12_method_71_code 94 = .ok (.imul, 1) := by decide +kernel
theorem dm_borrower_95 : decode prog_12_method_71_code 95 = .ok (.iadd, 1) := by decide +kernel
theorem dm_borrower_96 : decode prog_12_method_71_code 96 = .ok (.iconst 1, 1) := by decide +kernel
theorem dm_borrower_97 : decode prog_12_method_71_code 97 = .ok (.iadd, 1) := by decide +kernel
theorem dm_borrower_98 : decode prog_12_method_71_code 98 = .ok (.iload_n 2, 1) := by decide +kernel
theorem dm_borrower_99 : decode prog_12_method_71_code 99 = .ok (.iastore, 1) := by decide +kernel
theorem dm_borrower_100 : decode prog_12_method_71_code 100 = .ok (.aload_n 0, 1) := by decide +kernel
theorem dm_borrower_101 : decode prog_12_method_71_code 101 = .ok (.getfield 7, 3) := by decide +kernel
theorem dm_borrower_104 : decode prog_12_method_71_code 104 = .ok (.bipush 52, 2) := by decide +kernel
theorem dm_borrower_106 : decode prog_12_method_71_code 106 = .ok (.iconst 4, 1) := by decide +kernel
theorem dm_borrower_107 : decode prog_12_method_71_code 107 = .ok (.iload 5, 2) := by decide +kernel
theorem dm_borrower_109 : decode prog_12_method_71_code 109 = .ok (.imul, 1) := by decide +kernel
theorem dm_borrower_110 : decode prog_12_method_71_code 110 = .ok (.iadd, 1) := by decide +kernel
theorem dm_borrower_111 : decode prog_12_method_71_code 111 = .ok (.iconst 2, 1) := by decide +kernel
theorem dm_borrower_112 : decode prog_12_method_71_code 112 = .ok (.iadd, 1) := by decide +kernel
theorem dm_borrower_113 : decode prog_12_method_71_code 113 = .ok (.iload_n 3, 1) := by decide +kernel
theorem dm_borrower_114 : decode prog_12_method_71_code 114 = .ok (.iastore, 1) := by decide +kernel
theorem dm_borrower_115 : decode prog_12_method_71_code 115 = .ok (.aload_n 0, 1) := by decide +kernel
theorem dm_borrower_116 : decode prog_12_method_71_code 116 = .ok (.getfield 7, 3) := by decide +kernel
theorem dm_borrower_119 : decode prog_12_method_71_code 119 = .ok (.bipush 52, 2) := by decide +kernel
theorem dm_borrower_121 : decode prog_12_method_71_code 121 = .ok (.iconst 4, 1) := by decide +kernel
theorem dm_borrower_122 : decode prog_12_method_71_code 122 = .ok (.iload 5, 2) := by decide +kernel
theorem dm_borrower_124 : decode prog_12_method_71_code 124 = .ok (.imul, 1) := by decide +kernel
theorem dm_borrower_125 : decode prog_12_method_71_code 125 = .ok (.iadd, 1) := by decide +kernel
theorem dm_borrower_126 : decode prog_12_method_71_code 126 = .ok (.iconst 3, 1) := by decide +kernel
theorem dm_borrower_127 : decode prog_12_method_71_code 127 = .ok (.iadd, 1) := by decide +kernel
theorem dm_borrower_128 : decode prog_12_method_71_code 128 = .ok (.iload 4, 2) := by decide +kernel
theorem dm_borrower_130 : decode prog_12_method_71_code 130 = .ok (.iastore, 1) := by decide +kernel
theorem dm_borrower_131 : decode prog_12_method_71_code 131 = .ok (.aload_n 0, 1) := by decide +kernel
theorem dm_borrower_132 : decode prog_12_method_71_code 132 = .ok (.getfield 7, 3) := by decide +kernel
theorem dm_borrower_135 : decode prog_12_method_71_code 135 = .ok (.bipush 80, 2) := by decide +kernel
theorem dm_borrower_137 : decode prog_12_method_71_code 137 = .ok (.dup2, 1) := by decide +kernel
theorem dm_borrower_138 : decode prog_12_method_71_code 138 = .ok (.iaload, 1) := by decide +kernel
theorem dm_borrower_139 : decode prog_12_method_71_code 139 = .ok (.iconst 1, 1) := by decide +kernel
theorem dm_borrower_140 : decode prog_12_method_71_code 140 = .ok (.iadd, 1) := by decide +kernel
theorem dm_borrower_141 : decode prog_12_method_71_code 141 = .ok (.iastore, 1) := by decide +kernel
theorem dm_borrower_142 : decode prog_12_method_71_code 142 = .ok (.iload 5, 2) := by decide +kernel
theorem dm_borrower_144 : decode prog_12_method_71_code 144 = .ok (.ireturn, 1) := by decide +kernel
theorem dm_refuse_0 : decode prog_12_method_72_code 0 = .ok (.aload_n 0, 1) := by decide +kernel
theorem dm_refuse_1 : decode prog_12_method_72_code 1 = .ok (.getfield 7, 3) := by decide +kernel
theorem dm_refuse_4 : decode prog_12_method_72_code 4 = .ok (.bipush 80, 2) := by decide +kernel
theorem dm_refuse_6 : decode prog_12_method_72_code 6 = .ok (.iaload, 1) := by decide +kernel
theorem dm_refuse_7 : decode prog_12_method_72_code 7 = .ok (.istore_n 1, 1) := by decide +kernel
theorem dm_refuse_8 : decode prog_12_method_72_code 8 = .ok (.aload_n 0, 1) := by decide +kernel
theorem dm_refuse_9 : decode prog_12_method_72_code 9 = .ok (.getfield 7, 3) := by decide +kernel
theorem dm_refuse_12 : decode prog_12_method_72_code 12 = .ok (.bipush 80, 2) := by decide +kernel
theorem dm_refuse_14 : decode prog_12_method_72_code 14 = .ok (.iconst 0, 1) := by decide +kernel
theorem dm_refuse_15 : decode prog_12_method_72_code 15 = .ok (.iastore, 1) := by decide +kernel
theorem dm_refuse_16 : decode prog_12_method_72_code 16 = .ok (.iload_n 1, 1) := by decide +kernel
theorem dm_refuse_17 : decode prog_12_method_72_code 17 = .ok (.ireturn, 1) := by decide +kernel
theorem dm_borrows_0 : decode prog_12_method_73_code 0 = .ok (.aload_n 0, 1) := by decide +kernel
theorem dm_borrows_1 : decode prog_12_method_73_code 1 = .ok (.getfield 7, 3) := by decide +kernel
theorem dm_borrows_4 : decode prog_12_method_73_code 4 = .ok (.bipush 52, 2) := by decide +kernel
theorem dm_borrows_6 : decode prog_12_method_73_code 6 = .ok (.iconst 4, 1) := by decide +kernel
theorem dm_borrows_7 : decode prog_12_method_73_code 7 = .ok (.iload_n 1, 1) := by decide +kernel
theorem dm_borrows_8 : decode prog_12_method_73_code 8 = .ok (.imul, 1) := by decide +kernel
theorem dm_borrows_9 : decode prog_12_method_73_code 9 = .ok (.iadd, 1) := by decide +kernel
theorem dm_borrows_10 : decode prog_12_method_73_code 10 = .ok (.iload_n 2, 1) := by decide +kernel
theorem dm_borrows_11 : decode prog_12_method_73_code 11 = .ok (.iadd, 1) := by decide +kernel
theorem dm_borrows_12 : decode prog_12_method_73_code 12 = .ok (.iaload, 1) := by decide +kernel
theorem dm_borrows_13 : decode prog_12_method_73_code 13 = .ok (.ireturn, 1) := by decide +kernel
theorem dm_findServed_0 : decode prog_12_method_74_code 0 = .ok (.iconst 0, 1) := by decide +kernel
theorem dm_findServed_1 : decode prog_12_method_74_code 1 = .ok (.istore_n 1, 1) := by decide +kernel
theorem dm_findServed_2 : decode prog_12_method_74_code 2 = .ok (.iconst 0, 1) := by decide +kernel
theorem dm_findServed_3 : decode prog_12_method_74_code 3 = .ok (.istore_n 2, 1) := by decide +kernel
theorem dm_findServed_4 : decode prog_12_method_74_code 4 = .ok (.iload_n 2, 1) := by decide +kernel
theorem dm_findServed_5 : decode prog_12_method_74_code 5 = .ok (.aload_n 0, 1) := by decide +kernel
theorem dm_findServed_6 : decode prog_12_method_74_code 6 = .ok (.getfield 7, 3) := by decide +kernel
theorem dm_findServed_9 : decode prog_12_method_74_code 9 = .ok (.bipush 80, 2) := by decide +kernel
theorem dm_findServed_11 : decode prog_12_method_74_code 11 = .ok (.iaload, 1) := by decide +kernel
theorem dm_findServed_12 : decode prog_12_method_74_code 12 = .ok (.if_icmp .ge 32, 3) := by decide +kernel
theorem dm_findServed_15 : decode prog_12_method_74_code 15 = .ok (.iload_n 1, 1) := by decide +kernel
theorem dm_findServed_16 : decode prog_12_method_74_code 16 = .ok (.aload_n 0, 1) := by decide +kernel
theorem dm_findServed_17 : decode prog_12_method_74_code 17 = .ok (.aload_n 0, 1) := by decide +kernel
theorem dm_findServed_18 : decode prog_12_method_74_code 18 = .ok (.iload_n 2, 1) := by decide +kernel
theorem dm_findServed_19 : decode prog_12_method_74_code 19 = .ok (.iconst 0, 1) := by decide +kernel
theorem dm_findServed_20 : decode prog_12_method_74_code 20 = .ok (.invokevirtual 274, 3) := by decide +kernel
theorem dm_findServed_23 : decode prog_12_method_74_code 23 = .ok (.invokevirtual 133, 3) := by decide +kernel
theorem dm_findServed_26 : decode prog_12_method_74_code 26 = .ok (.ifCond .eq 9, 3) := by decide +kernel
theorem dm_findServed_29 : decode prog_12_method_74_code 29 = .ok (.iconst 1, 1) := by decide +kernel
theorem dm_findServed_30 : decode prog_12_method_74_code 30 = .ok (.iload_n 2, 1) := by decide +kernel
theorem dm_findServed_31 : decode prog_12_method_74_code 31 = .ok (.ishl, 1) := by decide +kernel
theorem dm_findServed_32 : decode prog_12_method_74_code 32 = .ok (.goto 4, 3) := by decide +kernel
theorem dm_findServed_35 : decode prog_12_method_74_code 35 = .ok (.iconst 0, 1) := by decide +kernel
theorem dm_findServed_36 : decode prog_12_method_74_code 36 = .ok (.ior, 1) := by decide +kernel
theorem dm_findServed_37 : decode prog_12_method_74_code 37 = .ok (.istore_n 1, 1) := by decide +kernel
theorem dm_findServed_38 : decode prog_12_method_74_code 38 = .ok (.iinc 2 1, 3) := by decide +kernel
theorem dm_findServed_41 : decode prog_12_method_74_code 41 = .ok (.goto (-37), 3) := by decide +kernel
theorem dm_findServed_44 : decode prog_12_method_74_code 44 = .ok (.aload_n 0, 1) := by decide +kernel
theorem dm_findServed_45 : decode prog_12_method_74_code 45 = .ok (.invokevirtual 196, 3) := by decide +kernel
theorem dm_findServed_48 : decode prog_12_method_74_code 48 = .ok (.iconst 0, 1) := by decide +kernel
theorem dm_findServed_49 : decode prog_12_method_74_code 49 = .ok (.istore_n 2, 1) := by decide +kernel
theorem dm_findServed_50 : decode prog_12_method_74_code 50 = .ok (.iload_n 2, 1) := by decide +kernel
theorem dm_findServed_51 : decode prog_12_method_74_code 51 = .ok (.bipush 12, 2) := by decide +kernel
theorem dm_findServed_53 : decode prog_12_method_74_code 53 = .ok (.if_icmp .gt 102, 3) := by decide +kernel
theorem dm_findServed_56 : decode prog_12_method_74_code 56 = .ok (.iconst 0, 1) := by decide +kernel
theorem dm_findServed_57 : decode prog_12_method_74_code 57 = .ok (.istore_n 3, 1) := by decide +kernel
theorem dm_findServed_58 : decode prog_12_method_74_code 58 = .ok (.iload_n 3, 1) := by decide +kernel
theorem dm_findServed_59 : decode prog_12_method_74_code 59 = .ok (.aload_n 0, 1) := by decide +kernel
theorem dm_findServed_60 : decode prog_12_method_74_code 60 = .ok (.getfield 7, 3) := by decide +kernel
theorem dm_findServed_63 : decode prog_12_method_74_code 63 = .ok (.bipush 80, 2) := by decide +kernel
theorem dm_findServed_65 : decode prog_12_method_74_code 65 = .ok (.iaload, 1) := by decide +kernel
theorem dm_findServed_66 : decode prog_12_method_74_code 66 = .ok (.if_icmp .ge 79, 3) := by decide +kernel
theorem dm_findServed_69 : decode prog_12_method_74_code 69 = .ok (.iload_n 1, 1) := by decide +kernel
theorem dm_findServed_70 : decode prog_12_method_74_code 70 = .ok (.iload_n 3, 1) := by decide +kernel
theorem dm_findServed_71 : decode prog_12_method_74_code 71 = .ok (.ishr, 1) := by decide +kernel
theorem dm_findServed_72 : decode prog_12_method_74_code 72 = .ok (.iconst 1, 1) := by decide +kernel
theorem dm_findServed_73 : decode prog_12_method_74_code 73 = .ok (.iand, 1) := by decide +kernel
theorem dm_findServed_74 : decode prog_12_method_74_code 74 = .ok (.iconst 1, 1) := by decide +kernel
theorem dm_findServed_75 : decode prog_12_method_74_code 75 = .ok (.if_icmp .ne 29, 3) := by decide +kernel
theorem dm_findServed_78 : decode prog_12_method_74_code 78 = .ok (.iload_n 2, 1) := by decide +kernel
theorem dm_findServed_79 : decode prog_12_method_74_code 79 = .ok (.i2l, 1) := by decide +kernel
theorem dm_findServed_80 : decode prog_12_method_74_code 80 = .ok (.aload_n 0, 1) := by decide +kernel
theorem dm_findServed_81 : decode prog_12_method_74_code 81 = .ok (.iload_n 3, 1) := by decide +kernel
theorem dm_findServed_82 : decode prog_12_method_74_code 82 = .ok (.iconst 1, 1) := by decide +kernel
theorem dm_findServed_83 : decode prog_12_method_74_code 83 = .ok (.invokevirtual 274, 3) := by decide +kernel
theorem dm_findServed_86 : decode prog_12_method_74_code 86 = .ok (.i2l, 1) := by decide +kernel
theorem dm_findServed_87 : decode prog_12_method_74_code 87 = .ok (.aload_n 0, 1) := by decide +kernel
theorem dm_findServed_88 : decode prog_12_method_74_code 88 = .ok (.iload_n 3, 1) := by decide +kernel
theorem dm_findServed_89 : decode prog_12_method_74_code 89 = .ok (.iconst 2, 1) := by decide +kernel
theorem dm_findServed_90 : decode prog_12_method_74_code 90 = .ok (.invokevirtual 274, 3) := by decide +kernel
theorem dm_findServed_93 : decode prog_12_method_74_code 93 = .ok (.i2l, 1) := by decide +kernel
theorem dm_findServed_94 : decode prog_12_method_74_code 94 = .ok (.invokestatic 126, 3) := by decide +kernel
theorem dm_findServed_97 : decode prog_12_method_74_code 97 = .ok (.ifCond .eq 7, 3) := by decide +kernel
theorem dm_findServed_100 : decode prog_12_method_74_code 100 = .ok (.iconst 1, 1) := by decide +kernel
theorem dm_findServed_101 : decode prog_12_method_74_code 101 = .ok (.goto 4, 3) := by decide +kernel
theorem dm_findServed_104 : decode prog_12_method_74_code 104 = .ok (.iconst 0, 1) := by decide +kernel
theorem dm_findServed_105 : decode prog_12_method_74_code 105 = .ok (.istore 4, 2) := by decide +kernel
theorem dm_findServed_107 : decode prog_12_method_74_code 107 = .ok (.iload 4, 2) := by decide +kernel
theorem dm_findServed_109 : decode prog_12_method_74_code 109 = .ok (.ifCond .eq 30, 3) := by decide +kernel
theorem dm_findServed_112 : decode prog_12_method_74_code 112 = .ok (.aload_n 0, 1) := by decide +kernel
theorem dm_findServed_113 : decode prog_12_method_74_code 113 = .ok (.aload_n 0, 1) := by decide +kernel
theorem dm_findServed_114 : decode prog_12_method_74_code 114 = .ok (.iload_n 3, 1) := by decide +kernel
theorem dm_findServed_115 : decode prog_12_method_74_code 115 = .ok (.iconst 0, 1) := by decide +kernel
theorem dm_findServed_116 : decode prog_12_method_74_code 116 = .ok (.invokevirtual 274, 3) := by decide +kernel
theorem dm_findServed_119 : decode prog_12_method_74_code 119 = .ok (.aload_n 0, 1) := by decide +kernel
theorem dm_findServed_120 : decode prog_12_method_74_code 120 = .ok (.iload_n 3, 1) := by decide +kernel
theorem dm_findServed_121 : decode prog_12_method_74_code 121 = .ok (.iconst 3, 1) := by decide +kernel
theorem dm_findServed_122 : decode prog_12_method_74_code 122 = .ok (.invokevirtual 274, 3) := by decide +kernel
theorem dm_findServed_125 : decode prog_12_method_74_code 125 = .ok (.invokevirtual 212, 3) := by decide +kernel
theorem dm_findServed_128 : decode prog_12_method_74_code 128 = .ok (.ifCond .ne 11, 3) := by decide +kernel
theorem dm_findServed_131 : decode prog_12_method_74_code 131 = .ok (.iload_n 1, 1) := by decide +kernel
theorem dm_findServed_132 : decode prog_12_method_74_code 132 = .ok (.iconst 1, 1) := by decide +kernel
theorem dm_findServed_133 : decode prog_12_method_74_code 133 = .ok (.iload_n 3, 1) := by decide +kernel
theorem dm_findServed_134 : decode prog_12_method_74_code 134 = .ok (.ishl, 1) := by decide +kernel
theorem dm_findServed_135 : decode prog_12_method_74_code 135 = .ok (.iconst (-1), 1) := by decide +kernel
theorem dm_findServed_136 : decode prog_12_method_74_code 136 = .ok (.ixor, 1) := by decide +kernel
theorem dm_findServed_137 : decode prog_12_method_74_code 137 = .ok (.iand, 1) := by decide +kernel
theorem dm_findServed_138 : decode prog_12_method_74_code 138 = .ok (.istore_n 1, 1) := by decide +kernel
theorem dm_findServed_139 : decode prog_12_method_74_code 139 = .ok (.iinc 3 1, 3) := by decide +kernel
theorem dm_findServed_142 : decode prog_12_method_74_code 142 = .ok (.goto (-84), 3) := by decide +kernel
theorem dm_findServed_145 : decode prog_12_method_74_code 145 = .ok (.aload_n 0, 1) := by decide +kernel
theorem dm_findServed_146 : decode prog_12_method_74_code 146 = .ok (.invokevirtual 193, 3) := by decide +kernel
theorem dm_findServed_149 : decode prog_12_method_74_code 149 = .ok (.iinc 2 1, 3) := by decide +kernel
theorem dm_findServed_152 : decode prog_12_method_74_code 152 = .ok (.goto (-102), 3) := by decide +kernel
theorem dm_findServed_155 : decode prog_12_method_74_code 155 = .ok (.iload_n 1, 1) := by decide +kernel
theorem dm_findServed_156 : decode prog_12_method_74_code 156 = .ok (.ireturn, 1) := by decide +kernel
theorem dm_meet_0 : decode prog_12_method_75_code 0 = .ok (.aload_n 0, 1) := by decide +kernel
theorem dm_meet_1 : decode prog_12_method_75_code 1 = .ok (.iload_n 1, 1) := by decide +kernel
theorem dm_meet_2 : decode prog_12_method_75_code 2 = .ok (.iconst 0, 1) := by decide +kernel
theorem dm_meet_3 : decode prog_12_method_75_code 3 = .ok (.invokevirtual 274, 3) := by decide +kernel
theorem dm_meet_6 : decode prog_12_method_75_code 6 = .ok (.aload_n 0, 1) := by decide +kernel
theorem dm_meet_7 : decode prog_12_method_75_code 7 = .ok (.iload_n 2, 1) := by decide +kernel
theorem dm_meet_8 : decode prog_12_method_75_code 8 = .ok (.iconst 0, 1) := by decide +kernel
theorem dm_meet_9 : decode prog_12_method_75_code 9 = .ok (.invokevirtual 274, 3) := by decide +kernel
theorem dm_meet_12 : decode prog_12_method_75_code 12 = .ok (.if_icmp .ne 37, 3) := by decide +kernel
theorem dm_meet_15 : decode prog_12_method_75_code 15 = .ok (.aload_n 0, 1) := by decide +kernel
theorem dm_meet_16 : decode prog_12_method_75_code 16 = .ok (.iload_n 1, 1) := by decide +kernel
theorem dm_meet_17 : decode prog_12_method_75_code 17 = .ok (.iconst 1, 1) := by decide +kernel
theorem dm_meet_18 : decode prog_12_method_75_code 18 = .ok (.invokevirtual 274, 3) := by decide +kernel
theorem dm_meet_21 : decode prog_12_method_75_code 21 = .ok (.aload_n 0, 1) := by decide +kernel
theorem dm_meet_22 : decode prog_12_method_75_code 22 = .ok (.iload_n 2, 1) := by decide +kernel
theorem dm_meet_23 : decode prog_12_method_75_code 23 = .ok (.iconst 2, 1) := by decide +kernel
theorem dm_meet_24 : decode prog_12_method_75_code 24 = .ok (.invokevirtual 274, 3) := by decide +kernel
theorem dm_meet_27 : decode prog_12_method_75_code 27 = .ok (.if_icmp .gt 22, 3) := by decide +kernel
theorem dm_meet_30 : decode prog_12_method_75_code 30 = .ok (.aload_n 0, 1) := by decide +kernel
theorem dm_meet_31 : decode prog_12_method_75_code 31 = .ok (.iload_n 2, 1) := by decide +kernel
theorem dm_meet_32 : decode prog_12_method_75_code 32 = .ok (.iconst 1, 1) := by decide +kernel
theorem dm_meet_33 : decode prog_12_method_75_code 33 = .ok (.invokevirtual 274, 3) := by decide +kernel
theorem dm_meet_36 : decode prog_12_method_75_code 36 = .ok (.aload_n 0, 1) := by decide +kernel
theorem dm_meet_37 : decode prog_12_method_75_code 37 = .ok (.iload_n 1, 1) := by decide +kernel
theorem dm_meet_38 : decode prog_12_method_75_code 38 = .ok (.iconst 2, 1) := by decide +kernel
theorem dm_meet_39 : decode prog_12_method_75_code 39 = .ok (.invokevirtual 274, 3) := by decide +kernel
theorem dm_meet_42 : decode prog_12_method_75_code 42 = .ok (.if_icmp .gt 7, 3) := by decide +kernel
theorem dm_meet_45 : decode prog_12_method_75_code 45 = .ok (.iconst 1, 1) := by decide +kernel
theorem dm_meet_46 : decode prog_12_method_75_code 46 = .ok (.goto 4, 3) := by decide +kernel
theorem dm_meet_49 : decode prog_12_method_75_code 49 = .ok (.iconst 0, 1) := by decide +kernel
theorem dm_meet_50 : decode prog_12_method_75_code 50 = .ok (.ireturn, 1) := by decide +kernel
theorem dm_manyIn_0 : decode prog_12_method_76_code 0 = .ok (.iconst 0, 1) := by decide +kernel
theorem dm_manyIn_1 : decode prog_12_method_76_code 1 = .ok (.istore_n 1, 1) := by decide +kernel
theorem dm_manyIn_2 : decode prog_12_method_76_code 2 = .ok (.iconst 0, 1) := by decide +kernel
theorem dm_manyIn_3 : decode prog_12_method_76_code 3 = .ok (.istore_n 2, 1) := by decide +kernel
theorem dm_manyIn_4 : decode prog_12_method_76_code 4 = .ok (.iload_n 2, 1) := by decide +kernel
theorem dm_manyIn_5 : decode prog_12_method_76_code 5 = .ok (.bipush 6, 2) := by decide +kernel
theorem dm_manyIn_7 : decode prog_12_method_76_code 7 = .ok (.if_icmp .ge 17, 3) := by decide +kernel
theorem dm_manyIn_10 : decode prog_12_method_76_code 10 = .ok (.iload_n 1, 1) := by decide +kernel
theorem dm_manyIn_11 : decode prog_12_method_76_code 11 = .ok (.iload_n 0, 1) := by decide +kernel
theorem dm_manyIn_12 : decode prog_12_method_76_code 12 = .ok (.iload_n 2, 1) := by decide +kernel
theorem dm_manyIn_13 : decode prog_12_method_76_code 13 = .ok (.ishr, 1) := by decide +kernel
theorem dm_manyIn_14 : decode prog_12_method_76_code 14 = .ok (.iconst 1, 1) := by decide +kernel
theorem dm_manyIn_15 : decode prog_12_method_76_code 15 = .ok (.iand, 1) := by decide +kernel
theorem dm_manyIn_16 : decode prog_12_method_76_code 16 = .ok (.iadd, 1) := by decide +kernel
theorem dm_manyIn_17 : decode prog_12_method_76_code 17 = .ok (.istore_n 1, 1) := by decide +kernel
theorem dm_manyIn_18 : decode prog_12_method_76_code 18 = .ok (.iinc 2 1, 3) := by decide +kernel
theorem dm_manyIn_21 : decode prog_12_method_76_code 21 = .ok (.goto (-17), 3) := by decide +kernel
theorem dm_manyIn_24 : decode prog_12_method_76_code 24 = .ok (.iload_n 1, 1) := by decide +kernel
theorem dm_manyIn_25 : decode prog_12_method_76_code 25 = .ok (.ireturn, 1) := by decide +kernel
theorem dm_lent_0 : decode prog_12_method_77_code 0 = .ok (.iload_n 1, 1) := by decide +kernel
theorem dm_lent_1 : decode prog_12_method_77_code 1 = .ok (.i2l, 1) := by decide +kernel
theorem dm_lent_2 : decode prog_12_method_77_code 2 = .ok (.lconst 0, 1) := by decide +kernel
theorem dm_lent_3 : decode prog_12_method_77_code 3 = .ok (.lconst 1, 1) := by decide +kernel
theorem dm_lent_4 : decode prog_12_method_77_code 4 = .ok (.invokestatic 126, 3) := by decide +kernel
theorem dm_lent_7 : decode prog_12_method_77_code 7 = .ok (.ifCond .ne 10, 3) := by decide +kernel
theorem dm_lent_10 : decode prog_12_method_77_code 10 = .ok (.aload_n 0, 1) := by decide +kernel
theorem dm_lent_11 : decode prog_12_method_77_code 11 = .ok (.bipush (-2), 2) := by decide +kernel
theorem dm_lent_13 : decode prog_12_method_77_code 13 = .ok (.invokevirtual 142, 3) := by decide +kernel
theorem dm_lent_16 : decode prog_12_method_77_code 16 = .ok (.ireturn, 1) := by decide +kernel
theorem dm_lent_17 : decode prog_12_method_77_code 17 = .ok (.aload_n 0, 1) := by decide +kernel
theorem dm_lent_18 : decode prog_12_method_77_code 18 = .ok (.invokevirtual 277, 3) := by decide +kernel
theorem dm_lent_21 : decode prog_12_method_77_code 21 = .ok (.istore_n 2, 1) := by decide +kernel
theorem dm_lent_22 : decode prog_12_method_77_code 22 = .ok (.iconst 0, 1) := by decide +kernel
theorem dm_lent_23 : decode prog_12_method_77_code 23 = .ok (.istore_n 3, 1) := by decide +kernel
theorem dm_lent_24 : decode prog_12_method_77_code 24 = .ok (.iconst 0, 1) := by decide +kernel
theorem dm_lent_25 : decode prog_12_method_77_code 25 = .ok (.istore 4, 2) := by decide +kernel
theorem dm_lent_27 : decode prog_12_method_77_code 27 = .ok (.iload 4, 2) := by decide +kernel
theorem dm_lent_29 : decode prog_12_method_77_code 29 = .ok (.bipush 64, 2) := by decide +kernel
theorem dm_lent_31 : decode prog_12_method_77_code 31 = .ok (.if_icmp .ge 143, 3) := by decide +kernel
theorem dm_lent_34 : decode prog_12_method_77_code 34 = .ok (.iload 4, 2) := by decide +kernel
theorem dm_lent_36 : decode prog_12_method_77_code 36 = .ok (.iload_n 2, 1) := by decide +kernel
theorem dm_lent_37 : decode prog_12_method_77_code 37 = .ok (.iconst (-1), 1) := by decide +kernel
theorem dm_lent_38 : decode prog_12_method_77_code 38 = .ok (.ixor, 1) := by decide +kernel
theorem dm_lent_39 : decode prog_12_method_77_code 39 = .ok (.iand, 1) := by decide +kernel
theorem dm_lent_40 : decode prog_12_method_77_code 40 = .ok (.ifCond .ne 19, 3) := by decide +kernel
theorem dm_lent_43 : decode prog_12_method_77_code 43 = .ok (.iload 4, 2) := by decide +kernel
theorem dm_lent_45 : decode prog_12_method_77_code 45 = .ok (.invokestatic 280, 3) := by decide +kernel
theorem dm_lent_48 : decode prog_12_method_77_code 48 = .ok (.iload_n 3, 1) := by decide +kernel
theorem dm_lent_49 : decode prog_12_method_77_code 49 = .ok (.invokestatic 280, 3) := by decide +kernel
theorem dm_lent_52 : decode prog_12_method_77_code 52 = .ok (.if_icmp .le 7, 3) := by decide +kernel
theorem dm_lent_55 : decode prog_12_method_77_code 55 = .ok (.iconst 1, 1) := by decide +kernel
theorem dm_lent_56 : decode prog_12_method_77_code 56 = .ok (.goto 4, 3) := by decide +kernel
theorem dm_lent_59 : decode prog_12_method_77_code 59 = .ok (.iconst 0, 1) := by decide +kernel
theorem dm_lent_60 : decode prog_12_method_77_code 60 = .ok (.istore 5, 2) := by decide +kernel
theorem dm_lent_62 : decode prog_12_method_77_code 62 = .ok (.iconst 0, 1) := by decide +kernel
theorem dm_lent_63 : decode prog_12_method_77_code 63 = .ok (.istore 6, 2) := by decide +kernel
theorem dm_lent_65 : decode prog_12_method_77_code 65 = .ok (.iload 6, 2) := by decide +kernel
theorem dm_lent_67 : decode prog_12_method_77_code 67 = .ok (.bipush 6, 2) := by decide +kernel
theorem dm_lent_69 : decode prog_12_method_77_code 69 = .ok (.if_icmp .ge 87, 3) := by decide +kernel
theorem dm_lent_72 : decode prog_12_method_77_code 72 = .ok (.iload 5, 2) := by decide +kernel
theorem dm_lent_74 : decode prog_12_method_77_code 74 = .ok (.ifCond .eq 82, 3) := by decide +kernel
theorem dm_lent_77 : decode prog_12_method_77_code 77 = .ok (.iconst 0, 1) := by decide +kernel
theorem dm_lent_78 : decode prog_12_method_77_code 78 = .ok (.istore 7, 2) := by decide +kernel
theorem dm_lent_80 : decode prog_12_method_77_code 80 = .ok (.iload 7, 2) := by decide +kernel
theorem dm_lent_82 : decode prog_12_method_77_code 82 = .ok (.iload 6, 2) := by decide +kernel
theorem dm_lent_84 : decode prog_12_method_77_code 84 = .ok (.if_icmp .ge 66, 3) := by decide +kernel
theorem dm_lent_87 : decode prog_12_method_77_code 87 = .ok (.iload 4, 2) := by decide +kernel
theorem dm_lent_89 : decode prog_12_method_77_code 89 = .ok (.iload 6, 2) := by decide +kernel
theorem dm_lent_91 : decode prog_12_method_77_code 91 = .ok (.ishr, 1) := by decide +kernel
theorem dm_lent_92 : decode prog_12_method_77_code 92 = .ok (.iconst 1, 1) := by decide +kernel
theorem dm_lent_93 : decode prog_12_method_77_code 93 = .ok (.iand, 1) := by decide +kernel
theorem dm_lent_94 : decode prog_12_method_77_code 94 = .ok (.iconst 1, 1) := by decide +kernel
theorem dm_lent_95 : decode prog_12_method_77_code 95 = .ok (.if_icmp .ne 18, 3) := by decide +kernel
theorem dm_lent_98 : decode prog_12_method_77_code 98 = .ok (.iload 4, 2) := by decide +kernel
theorem dm_lent_100 : decode prog_12_method_77_code 100 = .ok (.iload 7, 2) := by decide +kernel
theorem dm_lent_102 : decode prog_12_method_77_code 102 = .ok (.ishr, 1) := by decide +kernel
theorem dm_lent_103 : decode prog_12_method_77_code 103 = .ok (.iconst 1, 1) := by decide +kernel
theorem dm_lent_104 : decode prog_12_method_77_code 104 = .ok (.iand, 1) := by decide +kernel
theorem dm_lent_105 : decode prog_12_method_77_code 105 = .ok (.iconst 1, 1) := by decide +kernel
theorem dm_lent_106 : decode prog_12_method_77_code 106 = .ok (.if_icmp .ne 7, 3) := by decide +kernel
theorem dm_lent_109 : decode prog_12_method_77_code 109 = .ok (.iconst 1, 1) := by decide +kernel
theorem dm_lent_110 : decode prog_12_method_77_code 110 = .ok (.goto 4, 3) := by decide +kernel
theorem dm_lent_113 : decode prog_12_method_77_code 113 = .ok (.iconst 0, 1) := by decide +kernel
theorem dm_lent_114 : decode prog_12_method_77_code 114 = .ok (.istore 8, 2) := by decide +kernel
theorem dm_lent_116 : decode prog_12_method_77_code 116 = .ok (.iload 5, 2) := by decide +kernel
theorem dm_lent_118 : decode prog_12_method_77_code 118 = .ok (.ifCond .eq 23, 3) := by decide +kernel
theorem dm_lent_121 : decode prog_12_method_77_code 121 = .ok (.iload 8, 2) := by decide +kernel
theorem dm_lent_123 : decode prog_12_method_77_code 123 = .ok (.ifCond .eq 14, 3) := by decide +kernel
theorem dm_lent_126 : decode prog_12_method_77_code 126 = .ok (.aload_n 0, 1) := by decide +kernel
theorem dm_lent_127 : decode prog_12_method_77_code 127 = .ok (.iload 6, 2) := by decide +kernel
theorem dm_lent_129 : decode prog_12_method_77_code 129 = .ok (.iload 7, 2) := by decide +kernel
theorem dm_lent_131 : decode prog_12_method_77_code 131 = .ok (.invokevirtual 283, 3) := by decide +kernel
theorem dm_lent_134 : decode prog_12_method_77_code 134 = .ok (.ifCond .ne 7, 3) := by decide +kernel
theorem dm_lent_137 : decode prog_12_method_77_code 137 = .ok (.iconst 1, 1) := by decide +kernel
theorem dm_lent_138 : decode prog_12_method_77_code 138 = .ok (.goto 4, 3) := by decide +kernel
theorem dm_lent_141 : decode prog_12_method_77_code 141 = .ok (.iconst 0, 1) := by decide +kernel
theorem dm_lent_142 : decode prog_12_method_77_code 142 = .ok (.istore 5, 2) := by decide +kernel
theorem dm_lent_144 : decode prog_12_method_77_code 144 = .ok (.iinc 7 1, 3) := by decide +kernel
theorem dm_lent_147 : decode prog_12_method_77_code 147 = .ok (.goto (-67), 3) := by decide +kernel
theorem dm_lent_150 : decode prog_12_method_77_code 150 = .ok (.iinc 6 1, 3) := by decide +kernel
theorem dm_lent_153 : decode prog_12_method_77_code 153 = .ok (.goto (-88), 3) := by decide +kernel
theorem dm_lent_156 : decode prog_12_method_77_code 156 = .ok (.iload 5, 2) := by decide +kernel
theorem dm_lent_158 : decode prog_12_method_77_code 158 = .ok (.ifCond .eq 8, 3) := by decide +kernel
theorem dm_lent_161 : decode prog_12_method_77_code 161 = .ok (.iload 4, 2) := by decide +kernel
theorem dm_lent_163 : decode prog_12_method_77_code 163 = .ok (.goto 4, 3) := by decide +kernel
theorem dm_lent_166 : decode prog_12_method_77_code 166 = .ok (.iload_n 3, 1) := by decide +kernel
theorem dm_lent_167 : decode prog_12_method_77_code 167 = .ok (.istore_n 3, 1) := by decide +kernel
theorem dm_lent_168 : decode prog_12_method_77_code 168 = .ok (.iinc 4 1, 3) := by decide +kernel
theorem dm_lent_171 : decode prog_12_method_77_code 171 = .ok (.goto (-144), 3) := by decide +kernel
theorem dm_lent_174 : decode prog_12_method_77_code 174 = .ok (.iload_n 1, 1) := by decide +kernel
theorem dm_lent_175 : decode prog_12_method_77_code 175 = .ok (.ifCond .ne 10, 3) := by decide +kernel
theorem dm_lent_178 : decode prog_12_method_77_code 178 = .ok (.iload_n 3, 1) := by decide +kernel
theorem dm_lent_179 : decode prog_12_method_77_code 179 = .ok (.invokestatic 280, 3) := by decide +kernel
theorem dm_lent_182 : decode prog_12_method_77_code 182 = .ok (.goto 4, 3) := by decide +kernel
theorem dm_lent_185 : decode prog_12_method_77_code 185 = .ok (.iload_n 3, 1) := by decide +kernel
theorem dm_lent_186 : decode prog_12_method_77_code 186 = .ok (.ireturn, 1) := by decide +kernel
theorem dm_colours_0 : decode prog_12_method_78_code 0 = .ok (.aload_n 0, 1) := by decide +kernel
theorem dm_colours_1 : decode prog_12_method_78_code 1 = .ok (.invokevirtual 196, 3) := by decide +kernel
theorem dm_colours_4 : decode prog_12_method_78_code 4 = .ok (.iconst 0, 1) := by decide +kernel
theorem dm_colours_5 : decode prog_12_method_78_code 5 = .ok (.istore_n 1, 1) := by decide +kernel
theorem dm_colours_6 : decode prog_12_method_78_code 6 = .ok (.iconst 0, 1) := by decide +kernel
theorem dm_colours_7 : decode prog_12_method_78_code 7 = .ok (.istore_n 2, 1) := by decide +kernel
theorem dm_colours_8 : decode prog_12_method_78_code 8 = .ok (.iload_n 2, 1) := by decide +kernel
theorem dm_colours_9 : decode prog_12_method_78_code 9 = .ok (.bipush 8, 2) := by decide +kernel
theorem dm_colours_11 : decode prog_12_method_78_code 11 = .ok (.if_icmp .ge 87, 3) := by decide +kernel
theorem dm_colours_14 : decode prog_12_method_78_code 14 = .ok (.aload_n 0, 1) := by decide +kernel
theorem dm_colours_15 : decode prog_12_method_78_code 15 = .ok (.iload_n 2, 1) := by decide +kernel
theorem dm_colours_16 : decode prog_12_method_78_code 16 = .ok (.invokevirtual 153, 3) := by decide +kernel
theorem dm_colours_19 : decode prog_12_method_78_code 19 = .ok (.istore_n 3, 1) := by decide +kernel
theorem dm_colours_20 : decode prog_12_method_78_code 20 = .ok (.iconst 0, 1) := by decide +kernel
theorem dm_colours_21 : decode prog_12_method_78_code 21 = .ok (.istore 4, 2) := by decide +kernel
theorem dm_colours_23 : decode prog_12_method_78_code 23 = .ok (.iload 4, 2) := by decide +kernel
theorem dm_colours_25 : decode prog_12_method_78_code 25 = .ok (.iload_n 2, 1) := by decide +kernel
theorem dm_colours_26 : decode prog_12_method_78_code 26 = .ok (.if_icmp .ge 54, 3) := by decide +kernel
theorem dm_colours_29 : decode prog_12_method_78_code 29 = .ok (.iload_n 3, 1) := by decide +kernel
theorem dm_colours_30 : decode prog_12_method_78_code 30 = .ok (.ifCond .eq 50, 3) := by decide +kernel
theorem dm_colours_33 : decode prog_12_method_78_code 33 = .ok (.aload_n 0, 1) := by decide +kernel
theorem dm_colours_34 : decode prog_12_method_78_code 34 = .ok (.iload 4, 2) := by decide +kernel
theorem dm_colours_36 : decode prog_12_method_78_code 36 = .ok (.invokevirtual 153, 3) := by decide +kernel
theorem dm_colours_39 : decode prog_12_method_78_code 39 = .ok (.ifCond .eq 35, 3) := by decide +kernel
theorem dm_colours_42 : decode prog_12_method_78_code 42 = .ok (.aload_n 0, 1) := by decide +kernel
theorem dm_colours_43 : decode prog_12_method_78_code 43 = .ok (.bipush 7, 2) := by decide +kernel
theorem dm_colours_45 : decode prog_12_method_78_code 45 = .ok (.iload_n 2, 1) := by decide +kernel
theorem dm_colours_46 : decode prog_12_method_78_code 46 = .ok (.invokevirtual 175, 3) := by decide +kernel
theorem dm_colours_49 : decode prog_12_method_78_code 49 = .ok (.aload_n 0, 1) := by decide +kernel
theorem dm_colours_50 : decode prog_12_method_78_code 50 = .ok (.bipush 8, 2) := by decide +kernel
theorem dm_colours_52 : decode prog_12_method_78_code 52 = .ok (.iload 4, 2) := by decide +kernel
theorem dm_colours_54 : decode prog_12_method_78_code 54 = .ok (.invokevirtual 175, 3) := by decide +kernel
theorem dm_colours_57 : decode prog_12_method_78_code 57 = .ok (.aload_n 0, 1) := by decide +kernel
theorem dm_colours_58 : decode prog_12_method_78_code 58 = .ok (.bipush 7, 2) := by decide +kernel
theorem dm_colours_60 : decode prog_12_method_78_code 60 = .ok (.bipush 8, 2) := by decide +kernel
theorem dm_colours_62 : decode prog_12_method_78_code 62 = .ok (.invokevirtual 95, 3) := by decide +kernel
theorem dm_colours_65 : decode prog_12_method_78_code 65 = .ok (.ifCond .eq 7, 3) := by decide +kernel
theorem dm_colours_68 : decode prog_12_method_78_code 68 = .ok (.iconst 1, 1) := by decide +kernel
theorem dm_colours_69 : decode prog_12_method_78_code 69 = .ok (.goto 4, 3) := by decide +kernel
theorem dm_colours_72 : decode prog_12_method_78_code 72 = .ok (.iconst 0, 1) := by decide +kernel
theorem dm_colours_73 : decode prog_12_method_78_code 73 = .ok (.istore_n 3, 1) := by decide +kernel
theorem dm_colours_74 : decode prog_12_method_78_code 74 = .ok (.iinc 4 1, 3) := by decide +kernel
theorem dm_colours_77 : decode prog_12_method_78_code 77 = .ok (.goto (-54), 3) := by decide +kernel
theorem dm_colours_80 : decode prog_12_method_78_code 80 = .ok (.iload_n 1, 1) := by decide +kernel
theorem dm_colours_81 : decode prog_12_method_78_code 81 = .ok (.iload_n 3, 1) := by decide +kernel
theorem dm_colours_82 : decode prog_12_method_78_code 82 = .ok (.ifCond .eq 7, 3) := by decide +kernel
theorem dm_colours_85 : decode prog_12_method_78_code 85 = .ok (.iconst 1, 1) := by decide +kernel
theorem dm_colours_86 : decode prog_12_method_78_code 86 = .ok (.goto 4, 3) := by decide +kernel
theorem dm_colours_89 : decode prog_12_method_78_code 89 = .ok (.iconst 0, 1) := by decide +kernel
theorem dm_colours_90 : decode prog_12_method_78_code 90 = .ok (.iadd, 1) := by decide +kernel
theorem dm_colours_91 : decode prog_12_method_78_code 91 = .ok (.istore_n 1, 1) := by decide +kernel
theorem dm_colours_92 : decode prog_12_method_78_code 92 = .ok (.iinc 2 1, 3) := by decide +kernel
theorem dm_colours_95 : decode prog_12_method_78_code 95 = .ok (.goto (-87), 3) := by decide +kernel
theorem dm_colours_98 : decode prog_12_method_78_code 98 = .ok (.iload_n 1, 1) := by decide +kernel
theorem dm_colours_99 : decode prog_12_method_78_code 99 = .ok (.ireturn, 1) := by decide +kernel
theorem dm_least_0 : decode prog_12_method_79_code 0 = .ok (.aload_n 0, 1) := by decide +kernel
theorem dm_least_1 : decode prog_12_method_79_code 1 = .ok (.iload_n 1, 1) := by decide +kernel
theorem dm_least_2 : decode prog_12_method_79_code 2 = .ok (.invokevirtual 160, 3) := by decide +kernel
theorem dm_least_5 : decode prog_12_method_79_code 5 = .ok (.ifCond .eq 36, 3) := by decide +kernel
theorem dm_least_8 : decode prog_12_method_79_code 8 = .ok (.aload_n 0, 1) := by decide +kernel
theorem dm_least_9 : decode prog_12_method_79_code 9 = .ok (.iload_n 2, 1) := by decide +kernel
theorem dm_least_10 : decode prog_12_method_79_code 10 = .ok (.invokevirtual 133, 3) := by decide +kernel
theorem dm_least_13 : decode prog_12_method_79_code 13 = .ok (.ifCond .eq 28, 3) := by decide +kernel
theorem dm_least_16 : decode prog_12_method_79_code 16 = .ok (.iload_n 3, 1) := by decide +kernel
theorem dm_least_17 : decode prog_12_method_79_code 17 = .ok (.i2l, 1) := by decide +kernel
theorem dm_least_18 : decode prog_12_method_79_code 18 = .ok (.lconst 0, 1) := by decide +kernel
theorem dm_least_19 : decode prog_12_method_79_code 19 = .ok (.ldc2_w 140, 3) := by decide +kernel
theorem dm_least_22 : decode prog_12_method_79_code 22 = .ok (.invokestatic 126, 3) := by decide +kernel
theorem dm_least_25 : decode prog_12_method_79_code 25 = .ok (.ifCond .eq 16, 3) := by decide +kernel
theorem dm_least_28 : decode prog_12_method_79_code 28 = .ok (.iload 4, 2) := by decide +kernel
theorem dm_least_30 : decode prog_12_method_79_code 30 = .ok (.i2l, 1) := by decide +kernel
theorem dm_least_31 : decode prog_12_method_79_code 31 = .ok (.lconst 0, 1) := by decide +kernel
theorem dm_least_32 : decode prog_12_method_79_code 32 = .ok (.ldc2_w 140, 3) := by decide +kernel
theorem dm_least_35 : decode prog_12_method_79_code 35 = .ok (.invokestatic 126, 3) := by decide +kernel
theorem dm_least_38 : decode prog_12_method_79_code 38 = .ok (.ifCond .ne 10, 3) := by decide +kernel
theorem dm_least_41 : decode prog_12_method_79_code 41 = .ok (.aload_n 0, 1) := by decide +kernel
theorem dm_least_42 : decode prog_12_method_79_code 42 = .ok (.bipush (-2), 2) := by decide +kernel
theorem dm_least_44 : decode prog_12_method_79_code 44 = .ok (.invokevirtual 142, 3) := by decide +kernel
theorem dm_least_47 : decode prog_12_method_79_code 47 = .ok (.ireturn, 1) := by decide +kernel
theorem dm_least_48 : decode prog_12_method_79_code 48 = .ok (.iconst 0, 1) := by decide +kernel
theorem dm_least_49 : decode prog_12_method_79_code 49 = .ok (.istore 5, 2) := by decide +kernel
theorem dm_least_51 : decode prog_12_method_79_code 51 = .ok (.iload 5, 2) := by decide +kernel
theorem dm_least_53 : decode prog_12_method_79_code 53 = .ok (.bipush 12, 2) := by decide +kernel
theorem dm_least_55 : decode prog_12_method_79_code 55 = .ok (.if_icmp .gt 39, 3) := by decide +kernel
theorem dm_least_58 : decode prog_12_method_79_code 58 = .ok (.aload_n 0, 1) := by decide +kernel
theorem dm_least_59 : decode prog_12_method_79_code 59 = .ok (.invokevirtual 196, 3) := by decide +kernel
theorem dm_least_62 : decode prog_12_method_79_code 62 = .ok (.aload_n 0, 1) := by decide +kernel
theorem dm_least_63 : decode prog_12_method_79_code 63 = .ok (.getfield 33, 3) := by decide +kernel
theorem dm_least_66 : decode prog_12_method_79_code 66 = .ok (.iload_n 1, 1) := by decide +kernel
theorem dm_least_67 : decode prog_12_method_79_code 67 = .ok (.iload 5, 2) := by decide +kernel
theorem dm_least_69 : decode prog_12_method_79_code 69 = .ok (.iastore, 1) := by decide +kernel
theorem dm_least_70 : decode prog_12_method_79_code 70 = .ok (.aload_n 0, 1) := by decide +kernel
theorem dm_least_71 : decode prog_12_method_79_code 71 = .ok (.iload_n 3, 1) := by decide +kernel
theorem dm_least_72 : decode prog_12_method_79_code 72 = .ok (.invokevirtual 199, 3) := by decide +kernel
theorem dm_least_75 : decode prog_12_method_79_code 75 = .ok (.aload_n 0, 1) := by decide +kernel
theorem dm_least_76 : decode prog_12_method_79_code 76 = .ok (.iload_n 2, 1) := by decide +kernel
theorem dm_least_77 : decode prog_12_method_79_code 77 = .ok (.iload 4, 2) := by decide +kernel
theorem dm_least_79 : decode prog_12_method_79_code 79 = .ok (.invokevirtual 212, 3) := by decide +kernel
theorem dm_least_82 : decode prog_12_method_79_code 82 = .ok (.ifCond .eq 6, 3) := by decide +kernel
theorem dm_least_85 : decode prog_12_method_79_code 85 = .ok (.iload 5, 2) := by decide +kernel
theorem dm_least_87 : decode prog_12_method_79_code 87 = .ok (.ireturn, 1) := by decide +kernel
theorem dm_least_88 : decode prog_12_method_79_code 88 = .ok (.iinc 5 1, 3) := by decide +kernel
theorem dm_least_91 : decode prog_12_method_79_code 91 = .ok (.goto (-40), 3) := by decide +kernel
theorem dm_least_94 : decode prog_12_method_79_code 94 = .ok (.iconst (-1), 1) := by decide +kernel
theorem dm_least_95 : decode prog_12_method_79_code 95 = .ok (.ireturn, 1) := by decide +kernel
theorem dm_type_0 : decode prog_12_method_80_code 0 = .ok (.iload_n 3, 1) := by decide +kernel
theorem dm_type_1 : decode prog_12_method_80_code 1 = .ok (.i2l, 1) := by decide +kernel
theorem dm_type_2 : decode prog_12_method_80_code 2 = .ok (.lconst 1, 1) := by decide +kernel
theorem dm_type_3 : decode prog_12_method_80_code 3 = .ok (.ldc2_w 286, 3) := by decide +kernel
theorem dm_type_6 : decode prog_12_method_80_code 6 = .ok (.invokestatic 126, 3) := by decide +kernel
theorem dm_type_9 : decode prog_12_method_80_code 9 = .ok (.ifCond .ne 10, 3) := by decide +kernel
theorem dm_type_12 : decode prog_12_method_80_code 12 = .ok (.aload_n 0, 1) := by decide +kernel
theorem dm_type_13 : decode prog_12_method_80_code 13 = .ok (.bipush (-2), 2) := by decide +kernel
theorem dm_type_15 : decode prog_12_method_80_code 15 = .ok (.invokevirtual 142, 3) := by decide +kernel
theorem dm_type_18 : decode prog_12_method_80_code 18 = .ok (.ireturn, 1) := by decide +kernel
theorem dm_type_19 : decode prog_12_method_80_code 19 = .ok (.aload_n 0, 1) := by decide +kernel
theorem dm_type_20 : decode prog_12_method_80_code 20 = .ok (.getfield 288, 3) := by decide +kernel
theorem dm_type_23 : decode prog_12_method_80_code 23 = .ok (.iload_n 3, 1) := by decide +kernel
theorem dm_type_24 : decode prog_12_method_80_code 24 = .ok (.iadd, 1) := by decide +kernel
theorem dm_type_25 : decode prog_12_method_80_code 25 = .ok (.sipush 200, 3) := by decide +kernel
theorem dm_type_28 : decode prog_12_method_80_code 28 = .ok (.if_icmp .le 8, 3) := by decide +kernel
theorem dm_type_31 : decode prog_12_method_80_code 31 = .ok (.aload_n 0, 1) := by decide +kernel
theorem dm_type_32 : decode prog_12_method_80_code 32 = .ok (.invokevirtual 146, 3) := by decide +kernel
theorem dm_type_35 : decode prog_12_method_80_code 35 = .ok (.ireturn, 1) := by decide +kernel
theorem dm_type_36 : decode prog_12_method_80_code 36 = .ok (.iload_n 3, 1) := by decide +kernel
theorem dm_type_37 : decode prog_12_method_80_code 37 = .ok (.iconst 1, 1) := by decide +kernel
theorem dm_type_38 : decode prog_12_method_80_code 38 = .ok (.isub, 1) := by decide +kernel
theorem dm_type_39 : decode prog_12_method_80_code 39 = .ok (.istore 4, 2) := by decide +kernel
theorem dm_type_41 : decode prog_12_method_80_code 41 = .ok (.iload 4, 2) := by decide +kernel
theorem dm_type_43 : decode prog_12_method_80_code 43 = .ok (.ifCond .lt 40, 3) := by decide +kernel
theorem dm_type_46 : decode prog_12_method_80_code 46 = .ok (.aload_n 0, 1) := by decide +kernel
theorem dm_type_47 : decode prog_12_method_80_code 47 = .ok (.getfield 60, 3) := by decide +kernel
theorem dm_type_50 : decode prog_12_method_80_code 50 = .ok (.aload_n 0, 1) := by decide +kernel
theorem dm_type_51 : decode prog_12_method_80_code 51 = .ok (.getfield 288, 3) := by decide +kernel
theorem dm_type_54 : decode prog_12_method_80_code 54 = .ok (.lload_n 1, 1) := by decide +kernel
theorem dm_type_55 : decode prog_12_method_80_code 55 = .ok (.bipush 8, 2) := by decide +kernel
theorem dm_type_57 : decode prog_12_method_80_code 57 = .ok (.iload 4, 2) := by decide +kernel
theorem dm_type_59 : decode prog_12_method_80_code 59 = .ok (.imul, 1) := by decide +kernel
theorem dm_type_60 : decode prog_12_method_80_code 60 = .ok (.lushr, 1) := by decide +kernel
theorem dm_type_61 : decode prog_12_method_80_code 61 = .ok (.ldc2_w 291, 3) := by decide +kernel
theorem dm_type_64 : decode prog_12_method_80_code 64 = .ok (.land, 1) := by decide +kernel
theorem dm_type_65 : decode prog_12_method_80_code 65 = .ok (.l2i, 1) := by decide +kernel
theorem dm_type_66 : decode prog_12_method_80_code 66 = .ok (.iastore, 1) := by decide +kernel
theorem dm_type_67 : decode prog_12_method_80_code 67 = .ok (.aload_n 0, 1) := by decide +kernel
theorem dm_type_68 : decode prog_12_method_80_code 68 = .ok (.dup, 1) := by decide +kernel
theorem dm_type_69 : decode prog_12_method_80_code 69 = .ok (.getfield 288, 3) := by decide +kernel
theorem dm_type_72 : decode prog_12_method_80_code 72 = .ok (.iconst 1, 1) := by decide +kernel
theorem dm_type_73 : decode prog_12_method_80_code 73 = .ok (.iadd, 1) := by decide +kernel
theorem dm_type_74 : decode prog_12_method_80_code 74 = .ok (.putfield 288, 3) := by decide +kernel
theorem dm_type_77 : decode prog_12_method_80_code 77 = .ok (.iinc 4 (-1), 3) := by decide +kernel
theorem dm_type_80 : decode prog_12_method_80_code 80 = .ok (.goto (-39), 3) := by decide +kernel
theorem dm_type_83 : decode prog_12_method_80_code 83 = .ok (.aload_n 0, 1) := by decide +kernel
theorem dm_type_84 : decode prog_12_method_80_code 84 = .ok (.getfield 288, 3) := by decide +kernel
theorem dm_type_87 : decode prog_12_method_80_code 87 = .ok (.ireturn, 1) := by decide +kernel
theorem dm_clear_0 : decode prog_12_method_81_code 0 = .ok (.aload_n 0, 1) := by decide +kernel
theorem dm_clear_1 : decode prog_12_method_81_code 1 = .ok (.getfield 288, 3) := by decide +kernel
theorem dm_clear_4 : decode prog_12_method_81_code 4 = .ok (.istore_n 1, 1) := by decide +kernel
theorem dm_clear_5 : decode prog_12_method_81_code 5 = .ok (.aload_n 0, 1) := by decide +kernel
theorem dm_clear_6 : decode prog_12_method_81_code 6 = .ok (.iconst 0, 1) := by decide +kernel
theorem dm_clear_7 : decode prog_12_method_81_code 7 = .ok (.putfield 288, 3) := by decide +kernel
theorem dm_clear_10 : decode prog_12_method_81_code 10 = .ok (.iload_n 1, 1) := by decide +kernel
theorem dm_clear_11 : decode prog_12_method_81_code 11 = .ok (.ireturn, 1) := by decide +kernel
theorem dm_isSmall_0 : decode prog_12_method_82_code 0 = .ok (.iload_n 0, 1) := by decide +kernel
theorem dm_isSmall_1 : decode prog_12_method_82_code 1 = .ok (.i2l, 1) := by decide +kernel
theorem dm_isSmall_2 : decode prog_12_method_82_code 2 = .ok (.ldc2_w 293, 3) := by decide +kernel
theorem dm_isSmall_5 : decode prog_12_method_82_code 5 = .ok (.ldc2_w 295, 3) := by decide +kernel
theorem dm_isSmall_8 : decode prog_12_method_82_code 8 = .ok (.invokestatic 126, 3) := by decide +kernel
theorem dm_isSmall_11 : decode prog_12_method_82_code 11 = .ok (.ireturn, 1) := by decide +kernel
theorem dm_isFigure_0 : decode prog_12_method_83_code 0 = .ok (.iload_n 0, 1) := by decide +kernel
theorem dm_isFigure_1 : decode prog_12_method_83_code 1 = .ok (.i2l, 1) := by decide +kernel
theorem dm_isFigure_2 : decode prog_12_method_83_code 2 = .ok (.ldc2_w 297, 3) := by decide +kernel
theorem dm_isFigure_5 : decode prog_12_method_83_code 5 = .ok (.ldc2_w 299, 3) := by decide +kernel
theorem dm_isFigure_8 : decode prog_12_method_83_code 8 = .ok (.invokestatic 126, 3) := by decide +kernel
theorem dm_isFigure_11 : decode prog_12_method_83_code 11 = .ok (.ireturn, 1) := by decide +kernel
theorem dm_look_0 : decode prog_12_method_84_code 0 = .ok (.aload_n 0, 1) := by decide +kernel
theorem dm_look_1 : decode prog_12_method_84_code 1 = .ok (.iload_n 1, 1) := by decide +kernel
theorem dm_look_2 : decode prog_12_method_84_code 2 = .ok (.putfield 301, 3) := by decide +kernel
theorem dm_look_5 : decode prog_12_method_84_code 5 = .ok (.aload_n 0, 1) := by decide +kernel
theorem dm_look_6 : decode prog_12_method_84_code 6 = .ok (.getfield 301, 3) := by decide +kernel
theorem dm_look_9 : decode prog_12_method_84_code 9 = .ok (.aload_n 0, 1) := by decide +kernel
theorem dm_look_10 : decode prog_12_method_84_code 10 = .ok (.getfield 288, 3) := by decide +kernel
theorem dm_look_13 : decode prog_12_method_84_code 13 = .ok (.if_icmp .ge 30, 3) := by decide +kernel
theorem dm_look_16 : decode prog_12_method_84_code 16 = .ok (.aload_n 0, 1) := by decide +kernel
theorem dm_look_17 : decode prog_12_method_84_code 17 = .ok (.getfield 60, 3) := by decide +kernel
theorem dm_look_20 : decode prog_12_method_84_code 20 = .ok (.aload_n 0, 1) := by decide +kernel
theorem dm_look_21 : decode prog_12_method_84_code 21 = .ok (.getfield 301, 3) := by decide +kernel
theorem dm_look_24 : decode prog_12_method_84_code 24 = .ok (.iaload, 1) := by decide +kernel
theorem dm_look_25 : decode prog_12_method_84_code 25 = .ok (.bipush 32, 2) := by decide +kernel
theorem dm_look_27 : decode prog_12_method_84_code 27 = .ok (.if_icmp .ne 16, 3) := by decide +kernel
theorem dm_look_30 : decode prog_12_method_84_code 30 = .ok (.aload_n 0, 1) := by decide +kernel
theorem dm_look_31 : decode prog_12_method_84_code 31 = .ok (.dup, 1) := by decide +kernel
theorem dm_look_32 : decode prog_12_method_84_code 32 = .ok (.getfield 301, 3) := by decide +kernel
theorem dm_look_35 : decode prog_12_method_84_code 35 = .ok (.iconst 1, 1) := by decide +kernel
theorem dm_look_36 : decode prog_12_method_84_code 36 = .ok (.iadd, 1) := by decide +kernel
theorem dm_look_37 : decode prog_12_method_84_code 37 = .ok (.putfield 301, 3) := by decide +kernel
theorem dm_look_40 : decode prog_12_method_84_code 40 = .ok (.goto (-35), 3) := by decide +kernel
theorem dm_look_43 : decode prog_12_method_84_code 43 = .ok (.aload_n 0, 1) := by decide +kernel
theorem dm_look_44 : decode prog_12_method_84_code 44 = .ok (.iconst 0, 1) := by decide +kernel
theorem dm_look_45 : decode prog_12_method_84_code 45 = .ok (.putfield 304, 3) := by decide +kernel
theorem dm_look_48 : decode prog_12_method_84_code 48 = .ok (.aload_n 0, 1) := by decide +kernel
theorem dm_look_49 : decode prog_12_method_84_code 49 = .ok (.iconst 0, 1) := by decide +kernel
theorem dm_look_50 : decode prog_12_method_84_code 50 = .ok (.putfield 307, 3) := by decide +kernel
theorem dm_look_53 : decode prog_12_method_84_code 53 = .ok (.aload_n 0, 1) := by decide +kernel
theorem dm_look_54 : decode prog_12_method_84_code 54 = .ok (.iconst 0, 1) := by decide +kernel
theorem dm_look_55 : decode prog_12_method_84_code 55 = .ok (.putfield 310, 3) := by decide +kernel
theorem dm_look_58 : decode prog_12_method_84_code 58 = .ok (.aload_n 0, 1) := by decide +kernel
theorem dm_look_59 : decode prog_12_method_84_code 59 = .ok (.getfield 301, 3) := by decide +kernel
theorem dm_look_62 : decode prog_12_method_84_code 62 = .ok (.aload_n 0, 1) := by decide +kernel
theorem dm_look_63 : decode prog_12_method_84_code 63 = .ok (.getfield 288, 3) := by decide +kernel
theorem dm_look_66 : decode prog_12_method_84_code 66 = .ok (.if_icmp .ne 4, 3) := by decide +kernel
theorem dm_look_69 : decode prog_12_method_84_code 69 = .ok (.return_, 1) := by decide +kernel
theorem dm_look_70 : decode prog_12_method_84_code 70 = .ok (.aload_n 0, 1) := by decide +kernel
theorem dm_look_71 : decode prog_12_method_84_code 71 = .ok (.getfield 60, 3) := by decide +kernel
theorem dm_look_74 : decode prog_12_method_84_code 74 = .ok (.aload_n 0, 1) := by decide +kernel
theorem dm_look_75 : decode prog_12_method_84_code 75 = .ok (.getfield 301, 3) := by decide +kernel
theorem dm_look_78 : decode prog_12_method_84_code 78 = .ok (.iaload, 1) := by decide +kernel
theorem dm_look_79 : decode prog_12_method_84_code 79 = .ok (.istore_n 2, 1) := by decide +kernel
theorem dm_look_80 : decode prog_12_method_84_code 80 = .ok (.aload_n 0, 1) := by decide +kernel
theorem dm_look_81 : decode prog_12_method_84_code 81 = .ok (.iload_n 2, 1) := by decide +kernel
theorem dm_look_82 : decode prog_12_method_84_code 82 = .ok (.invokestatic 313, 3) := by decide +kernel
theorem dm_look_85 : decode prog_12_method_84_code 85 = .ok (.ifCond .eq 7, 3) := by decide +kernel
theorem dm_look_88 : decode prog_12_method_84_code 88 = .ok (.iconst 1, 1) := by decide +kernel
theorem dm_look_89 : decode prog_12_method_84_code 89 = .ok (.goto 25, 3) := by decide +kernel
theorem dm_look_92 : decode prog_12_method_84_code 92 = .ok (.iload_n 2, 1) := by decide +kernel
theorem dm_look_93 : decode prog_12_method_84_code 93 = .ok (.invokestatic 316, 3) := by decide +kernel
theorem dm_look_96 : decode prog_12_method_84_code 96 = .ok (.ifCond .eq 7, 3) := by decide +kernel
theorem dm_look_99 : decode prog_12_method_84_code 99 = .ok (.iconst 2, 1) := by decide +kernel
theorem dm_look_100 : decode prog_12_method_84_code 100 = .ok (.goto 14, 3) := by decide +kernel
theorem dm_look_103 : decode prog_12_method_84_code 103 = .ok (.iload_n 2, 1) := by decide +kernel
theorem dm_look_104 : decode prog_12_method_84_code 104 = .ok (.bipush 59, 2) := by decide +kernel
theorem dm_look_106 : decode prog_12_method_84_code 106 = .ok (.if_icmp .ne 7, 3) := by decide +kernel
theorem dm_look_109 : decode prog_12_method_84_code 109 = .ok (.iconst 3, 1) := by decide +kernel
theorem dm_look_110 : decode prog_12_method_84_code 110 = .ok (.goto 4, 3) := by decide +kernel
theorem dm_look_113 : decode prog_12_method_84_code 113 = .ok (.iconst 4, 1) := by decide +kernel
theorem dm_look_114 : decode prog_12_method_84_code 114 = .ok (.putfield 307, 3) := by decide +kernel
theorem dm_look_117 : decode prog_12_method_84_code 117 = .ok (.aload_n 0, 1) := by decide +kernel
theorem dm_look_118 : decode prog_12_method_84_code 118 = .ok (.iconst 1, 1) := by decide +kernel
theorem dm_look_119 : decode prog_12_method_84_code 119 = .ok (.putfield 304, 3) := by decide +kernel
theorem dm_look_122 : decode prog_12_method_84_code 122 = .ok (.aload_n 0, 1) := by decide +kernel
theorem dm_look_123 : decode prog_12_method_84_code 123 = .ok (.getfield 307, 3) := by decide +kernel
theorem dm_look_126 : decode prog_12_method_84_code 126 = .ok (.iconst 3, 1) := by decide +kernel
theorem dm_look_127 : decode prog_12_method_84_code 127 = .ok (.if_icmp .ge 7, 3) := by decide +kernel
theorem dm_look_130 : decode prog_12_method_84_code 130 = .ok (.iconst 1, 1) := by decide +kernel
theorem dm_look_131 : decode prog_12_method_84_code 131 = .ok (.goto 4, 3) := by decide +kernel
theorem dm_look_134 : decode prog_12_method_84_code 134 = .ok (.iconst 0, 1) := by decide +kernel
theorem dm_look_135 : decode prog_12_method_84_code 135 = .ok (.istore_n 3, 1) := by decide +kernel
theorem dm_look_136 : decode prog_12_method_84_code 136 = .ok (.iload_n 3, 1) := by decide +kernel
theorem dm_look_137 : decode prog_12_method_84_code 137 = .ok (.ifCond .eq 78, 3) := by decide +kernel
theorem dm_look_140 : decode prog_12_method_84_code 140 = .ok (.aload_n 0, 1) := by decide +kernel
theorem dm_look_141 : decode prog_12_method_84_code 141 = .ok (.getfield 301, 3) := by decide +kernel
theorem dm_look_144 : decode prog_12_method_84_code 144 = .ok (.aload_n 0, 1) := by decide +kernel
theorem dm_look_145 : decode prog_12_method_84_code 145 = .ok (.getfield 304, 3) := by decide +kernel
theorem dm_look_148 : decode prog_12_method_84_code 148 = .ok (.iadd, 1) := by decide +kernel
theorem dm_look_149 : decode prog_12_method_84_code 149 = .ok (.aload_n 0, 1) := by decide +kernel
theorem dm_look_150 : decode prog_12_method_84_code 150 = .ok (.getfield 288, 3) := by decide +kernel
theorem dm_look_153 : decode prog_12_method_84_code 153 = .ok (.if_icmp .ge 62, 3) := by decide +kernel
theorem dm_look_156 : decode prog_12_method_84_code 156 = .ok (.aload_n 0, 1) := by decide +kernel
theorem dm_look_157 : decode prog_12_method_84_code 157 = .ok (.getfield 60, 3) := by decide +kernel
theorem dm_look_160 : decode prog_12_method_84_code 160 = .ok (.aload_n 0, 1) := by decide +kernel
theorem dm_look_161 : decode prog_12_method_84_code 161 = .ok (.getfield 301, 3) := by decide +kernel
theorem dm_look_164 : decode prog_12_method_84_code 164 = .ok (.aload_n 0, 1) := by decide +kernel
theorem dm_look_165 : decode prog_12_method_84_code 165 = .ok (.getfield 304, 3) := by decide +kernel
theorem dm_look_168 : decode prog_12_method_84_code 168 = .ok (.iadd, 1) := by decide +kernel
theorem dm_look_169 : decode prog_12_method_84_code 169 = .ok (.iaload, 1) := by decide +kernel
theorem dm_look_170 : decode prog_12_method_84_code 170 = .ok (.istore 4, 2) := by decide +kernel
theorem dm_look_172 : decode prog_12_method_84_code 172 = .ok (.aload_n 0, 1) := by decide +kernel
theorem dm_look_173 : decode prog_12_method_84_code 173 = .ok (.getfield 307, 3) := by decide +kernel
theorem dm_look_176 : decode prog_12_method_84_code 176 = .ok (.iconst 1, 1) := by decide +kernel
theorem dm_look_177 : decode prog_12_method_84_code 177 = .ok (.if_icmp .ne 11, 3) := by decide +kernel
theorem dm_look_180 : decode prog_12_method_84_code 180 = .ok (.iload 4, 2) := by decide +kernel
theorem dm_look_182 : decode prog_12_method_84_code 182 = .ok (.invokestatic 313, 3) := by decide +kernel
theorem dm_look_185 : decode prog_12_method_84_code 185 = .ok (.goto 8, 3) := by decide +kernel
theorem dm_look_188 : decode prog_12_method_84_code 188 = .ok (.iload 4, 2) := by decide +kernel
theorem dm_look_190 : decode prog_12_method_84_code 190 = .ok (.invokestatic 316, 3) := by decide +kernel
theorem dm_look_193 : decode prog_12_method_84_code 193 = .ok (.istore_n 3, 1) := by decide +kernel
theorem dm_look_194 : decode prog_12_method_84_code 194 = .ok (.aload_n 0, 1) := by decide +kernel
theorem dm_look_195 : decode prog_12_method_84_code 195 = .ok (.dup, 1) := by decide +kernel
theorem dm_look_196 : decode prog_12_method_84_code 196 = .ok (.getfield 304, 3) := by decide +kernel
theorem dm_look_199 : decode prog_12_method_84_code 199 = .ok (.iload_n 3, 1) := by decide +kernel
theorem dm_look_200 : decode prog_12_method_84_code 200 = .ok (.ifCond .eq 7, 3) := by decide +kernel
theorem dm_look_203 : decode prog_12_method_84_code 203 = .ok (.iconst 1, 1) := by decide +kernel
theorem dm_look_204 : decode prog_12_method_84_code 204 = .ok (.goto 4, 3) := by decide +kernel
theorem dm_look_207 : decode prog_12_method_84_code 207 = .ok (.iconst 0, 1) := by decide +kernel
theorem dm_look_208 : decode prog_12_method_84_code 208 = .ok (.iadd, 1) := by decide +kernel
theorem dm_look_209 : decode prog_12_method_84_code 209 = .ok (.putfield 304, 3) := by decide +kernel
theorem dm_look_212 : decode prog_12_method_84_code 212 = .ok (.goto (-76), 3) := by decide +kernel
theorem dm_look_215 : decode prog_12_method_84_code 215 = .ok (.iconst 0, 1) := by decide +kernel
theorem dm_look_216 : decode prog_12_method_84_code 216 = .ok (.istore 4, 2) := by decide +kernel
theorem dm_look_218 : decode prog_12_method_84_code 218 = .ok (.iload 4, 2) := by decide +kernel
theorem dm_look_220 : decode prog_12_method_84_code 220 = .ok (.aload_n 0, 1) := by decide +kernel
theorem dm_look_221 : decode prog_12_method_84_code 221 = .ok (.getfield 304, 3) := by decide +kernel
theorem dm_look_224 : decode prog_12_method_84_code 224 = .ok (.if_icmp .ge 50, 3) := by decide +kernel
theorem dm_look_227 : decode prog_12_method_84_code 227 = .ok (.iload 4, 2) := by decide +kernel
theorem dm_look_229 : decode prog_12_method_84_code 229 = .ok (.iconst 2, 1) := by decide +kernel
theorem dm_look_230 : decode prog_12_method_84_code 230 = .ok (.if_icmp .ge 44, 3) := by decide +kernel
theorem dm_look_233 : decode prog_12_method_84_code 233 = .ok (.aload_n 0, 1) := by decide +kernel
theorem dm_look_234 : decode prog_12_method_84_code 234 = .ok (.getfield 307, 3) := by decide +kernel
theorem dm_look_237 : decode prog_12_method_84_code 237 = .ok (.iconst 2, 1) := by decide +kernel
theorem dm_look_238 : decode prog_12_method_84_code 238 = .ok (.if_icmp .ne 36, 3) := by decide +kernel
theorem dm_look_241 : decode prog_12_method_84_code 241 = .ok (.aload_n 0, 1) := by decide +kernel
theorem dm_look_242 : decode prog_12_method_84_code 242 = .ok (.bipush 10, 2) := by decide +kernel
theorem dm_look_244 : decode prog_12_method_84_code 244 = .ok (.aload_n 0, 1) := by decide +kernel
theorem dm_look_245 : decode prog_12_method_84_code 245 = .ok (.getfield 310, 3) := by decide +kernel
theorem dm_look_248 : decode prog_12_method_84_code 248 = .ok (.imul, 1) := by decide +kernel
theorem dm_look_249 : decode prog_12_method_84_code 249 = .ok (.aload_n 0, 1) := by decide +kernel
theorem dm_look_250 : decode prog_12_method_84_code 250 = .ok (.getfield 60, 3) := by decide +kernel
theorem dm_look_253 : decode prog_12_method_84_code 253 = .ok (.aload_n 0, 1) := by decide +kernel
theorem dm_look_254 : decode prog_12_method_84_code 254 = .ok (.getfield 301, 3) := by decide +kernel
theorem dm_look_257 : decode prog_12_method_84_code 257 = .ok (.iload 4, 2) := by decide +kernel
theorem dm_look_259 : decode prog_12_method_84_code 259 = .ok (.iadd, 1) := by decide +kernel
theorem dm_look_260 : decode prog_12_method_84_code 260 = .ok (.iaload, 1) := by decide +kernel
theorem dm_look_261 : decode prog_12_method_84_code 261 = .ok (.iadd, 1) := by decide +kernel
theorem dm_look_262 : decode prog_12_method_84_code 262 = .ok (.bipush 48, 2) := by decide +kernel
theorem dm_look_264 : decode prog_12_method_84_code 264 = .ok (.isub, 1) := by decide +kernel
theorem dm_look_265 : decode prog_12_method_84_code 265 = .ok (.putfield 310, 3) := by decide +kernel
theorem dm_look_268 : decode prog_12_method_84_code 268 = .ok (.iinc 4 1, 3) := by decide +kernel
theorem dm_look_271 : decode prog_12_method_84_code 271 = .ok (.goto (-53), 3) := by decide +kernel
theorem dm_look_274 : decode prog_12_method_84_code 274 = .ok (.aload_n 0, 1) := by decide +kernel
theorem dm_look_275 : decode prog_12_method_84_code 275 = .ok (.aload_n 0, 1) := by decide +kernel
theorem dm_look_276 : decode prog_12_method_84_code 276 = .ok (.getfield 307, 3) := by decide +kernel
theorem dm_look_279 : decode prog_12_method_84_code 279 = .ok (.iconst 2, 1) := by decide +kernel
theorem dm_look_280 : decode prog_12_method_84_code 280 = .ok (.if_icmp .ne 15, 3) := by decide +kernel
theorem dm_look_283 : decode prog_12_method_84_code 283 = .ok (.aload_n 0, 1) := by decide +kernel
theorem dm_look_284 : decode prog_12_method_84_code 284 = .ok (.getfield 304, 3) := by decide +kernel
theorem dm_look_287 : decode prog_12_method_84_code 287 = .ok (.iconst 2, 1) := by decide +kernel
theorem dm_look_288 : decode prog_12_method_84_code 288 = .ok (.if_icmp .le 7, 3) := by decide +kernel
theorem dm_look_291 : decode prog_12_method_84_code 291 = .ok (.iconst 4, 1) := by decide +kernel
theorem dm_look_292 : decode prog_12_method_84_code 292 = .ok (.goto 7, 3) := by decide +kernel
theorem dm_look_295 : decode prog_12_method_84_code 295 = .ok (.aload_n 0, 1) := by decide +kernel
theorem dm_look_296 : decode prog_12_method_84_code 296 = .ok (.getfield 307, 3) := by decide +kernel
theorem dm_look_299 : decode prog_12_method_84_code 299 = .ok (.putfield 307, 3) := by decide +kernel
theorem dm_look_302 : decode prog_12_method_84_code 302 = .ok (.return_, 1) := by decide +kernel
theorem dm_goOn_0 : decode prog_12_method_85_code 0 = .ok (.aload_n 0, 1) := by decide +kernel
theorem dm_goOn_1 : decode prog_12_method_85_code 1 = .ok (.aload_n 0, 1) := by decide +kernel
theorem dm_goOn_2 : decode prog_12_method_85_code 2 = .ok (.getfield 301, 3) := by decide +kernel
theorem dm_goOn_5 : decode prog_12_method_85_code 5 = .ok (.aload_n 0, 1) := by decide +kernel
theorem dm_goOn_6 : decode prog_12_method_85_code 6 = .ok (.getfield 304, 3) := by decide +kernel
theorem dm_goOn_9 : decode prog_12_method_85_code 9 = .ok (.iadd, 1) := by decide +kernel
theorem dm_goOn_10 : decode prog_12_method_85_code 10 = .ok (.invokevirtual 319, 3) := by decide +kernel
theorem dm_goOn_13 : decode prog_12_method_85_code 13 = .ok (.return_, 1) := by decide +kernel
theorem dm_isWord_0 : decode prog_12_method_86_code 0 = .ok (.aload_n 0, 1) := by decide +kernel
theorem dm_isWord_1 : decode prog_12_method_86_code 1 = .ok (.getfield 307, 3) := by decide +kernel
theorem dm_isWord_4 : decode prog_12_method_86_code 4 = .ok (.iconst 1, 1) := by decide +kernel
theorem dm_isWord_5 : decode prog_12_method_86_code 5 = .ok (.if_icmp .ne 15, 3) := by decide +kernel
theorem dm_isWord_8 : decode prog_12_method_86_code 8 = .ok (.aload_n 0, 1) := by decide +kernel
theorem dm_isWord_9 : decode prog_12_method_86_code 9 = .ok (.getfield 304, 3) := by decide +kernel
theorem dm_isWord_12 : decode prog_12_method_86_code 12 = .ok (.iconst 5, 1) := by decide +kernel
theorem dm_isWord_13 : decode prog_12_method_86_code 13 = .ok (.if_icmp .ne 7, 3) := by decide +kernel
theorem dm_isWord_16 : decode prog_12_method_86_code 16 = .ok (.iconst 1, 1) := by decide +kernel
theorem dm_isWord_17 : decode prog_12_method_86_code 17 = .ok (.goto 4, 3) := by decide +kernel
theorem dm_isWord_20 : decode prog_12_method_86_code 20 = .ok (.iconst 0, 1) := by decide +kernel
theorem dm_isWord_21 : decode prog_12_method_86_code 21 = .ok (.istore 6, 2) := by decide +kernel
theorem dm_isWord_23 : decode prog_12_method_86_code 23 = .ok (.iconst 0, 1) := by decide +kernel
theorem dm_isWord_24 : decode prog_12_method_86_code 24 = .ok (.istore 7, 2) := by decide +kernel
theorem dm_isWord_26 : decode prog_12_method_86_code 26 = .ok (.iload 7, 2) := by decide +kernel
theorem dm_isWord_28 : decode prog_12_method_86_code 28 = .ok (.iconst 5, 1) := by decide +kernel
theorem dm_isWord_29 : decode prog_12_method_86_code 29 = .ok (.if_icmp .ge 78, 3) := by decide +kernel
theorem dm_isWord_32 : decode prog_12_method_86_code 32 = .ok (.iload 6, 2) := by decide +kernel
theorem dm_isWord_34 : decode prog_12_method_86_code 34 = .ok (.ifCond .eq 73, 3) := by decide +kernel
theorem dm_isWord_37 : decode prog_12_method_86_code 37 = .ok (.aload_n 0, 1) := by decide +kernel
theorem dm_isWord_38 : decode prog_12_method_86_code 38 = .ok (.getfield 60, 3) := by decide +kernel
theorem dm_isWord_41 : decode prog_12_method_86_code 41 = .ok (.aload_n 0, 1) := by decide +kernel
theorem dm_isWord_42 : decode prog_12_method_86_code 42 = .ok (.getfield 301, 3) := by decide +kernel
theorem dm_isWord_45 : decode prog_12_method_86_code 45 = .ok (.iload 7, 2) := by decide +kernel
theorem dm_isWord_47 : decode prog_12_method_86_code 47 = .ok (.iadd, 1) := by decide +kernel
theorem dm_isWord_48 : decode prog_12_method_86_code 48 = .ok (.iaload, 1) := by decide +kernel
theorem dm_isWord_49 : decode prog_12_method_86_code 49 = .ok (.iload 7, 2) := by decide +kernel
theorem dm_isWord_51 : decode prog_12_method_86_code 51 = .ok (.ifCond .ne 7, 3) := by decide +kernel
theorem dm_isWord_54 : decode prog_12_method_86_code 54 = .ok (.iload_n 1, 1) := by decide +kernel
theorem dm_isWord_55 : decode prog_12_method_86_code 55 = .ok (.goto 36, 3) := by decide +kernel
theorem dm_isWord_58 : decode prog_12_method_86_code 58 = .ok (.iload 7, 2) := by decide +kernel
theorem dm_isWord_60 : decode prog_12_method_86_code 60 = .ok (.iconst 1, 1) := by decide +kernel
theorem dm_isWord_61 : decode prog_12_method_86_code 61 = .ok (.if_icmp .ne 7, 3) := by decide +kernel
theorem dm_isWord_64 : decode prog_12_method_86_code 64 = .ok (.iload_n 2, 1) := by decide +kernel
theorem dm_isWord_65 : decode prog_12_method_86_code 65 = .ok (.goto 26, 3) := by decide +kernel
theorem dm_isWord_68 : decode prog_12_method_86_code 68 = .ok (.iload 7, 2) := by decide +kernel
theorem dm_isWord_70 : decode prog_12_method_86_code 70 = .ok (.iconst 2, 1) := by decide +kernel
theorem dm_isWord_71 : decode prog_12_method_86_code 71 = .ok (.if_icmp .ne 7, 3) := by decide +kernel
theorem dm_isWord_74 : decode prog_12_method_86_code 74 = .ok (.iload_n 3, 1) := by decide +kernel
theorem dm_isWord_75 : decode prog_12_method_86_code 75 = .ok (.goto 16, 3) := by decide +kernel
theorem dm_isWord_78 : decode prog_12_method_86_code 78 = .ok (.iload 7, 2) := by decide +kernel
theorem dm_isWord_80 : decode prog_12_method_86_code 80 = .ok (.iconst 3, 1) := by decide +kernel
theorem dm_isWord_81 : decode prog_12_method_86_code 81 = .ok (.if_icmp .ne 8, 3) := by decide +kernel
theorem dm_isWord_84 : decode prog_12_method_86_code 84 = .ok (.iload 4, 2) := by decide +kernel
theorem dm_isWord_86 : decode prog_12_method_86_code 86 = .ok (.goto 5, 3) := by decide +kernel
theorem dm_isWord_89 : decode prog_12_method_86_code 89 = .ok (.iload 5, 2) := by decide +kernel
theorem dm_isWord_91 : decode prog_12_method_86_code 91 = .ok (.if_icmp .ne 7, 3) := by decide +kernel
theorem dm_isWord_94 : decode prog_12_method_86_code 94 = .ok (.iconst 1, 1) := by decide +kernel
theorem dm_isWord_95 : decode prog_12_method_86_code 95 = .ok (.goto 4, 3) := by decide +kernel
theorem dm_isWord_98 : decode prog_12_method_86_code 98 = .ok (.iconst 0, 1) := by decide +kernel
theorem dm_isWord_99 : decode prog_12_method_86_code 99 = .ok (.istore 6, 2) := by decide +kernel
theorem dm_isWord_101 : decode prog_12_method_86_code 101 = .ok (.iinc 7 1, 3) := by decide +kernel
theorem dm_isWord_104 : decode prog_12_method_86_code 104 = .ok (.goto (-78), 3) := by decide +kernel
theorem dm_isWord_107 : decode prog_12_method_86_code 107 = .ok (.iload 6, 2) := by decide +kernel
theorem dm_isWord_109 : decode prog_12_method_86_code 109 = .ok (.ireturn, 1) := by decide +kernel
theorem dm_takesOne_0 : decode prog_12_method_87_code 0 = .ok (.aload_n 0, 1) := by decide +kernel
theorem dm_takesOne_1 : decode prog_12_method_87_code 1 = .ok (.getfield 307, 3) := by decide +kernel
theorem dm_takesOne_4 : decode prog_12_method_87_code 4 = .ok (.iconst 2, 1) := by decide +kernel
theorem dm_takesOne_5 : decode prog_12_method_87_code 5 = .ok (.if_icmp .ne 18, 3) := by decide +kernel
theorem dm_takesOne_8 : decode prog_12_method_87_code 8 = .ok (.aload_n 0, 1) := by decide +kernel
theorem dm_takesOne_9 : decode prog_12_method_87_code 9 = .ok (.getfield 310, 3) := by decide +kernel
theorem dm_takesOne_12 : decode prog_12_method_87_code 12 = .ok (.i2l, 1) := by decide +kernel
theorem dm_takesOne_13 : decode prog_12_method_87_code 13 = .ok (.iload_n 1, 1) := by decide +kernel
theorem dm_takesOne_14 : decode prog_12_method_87_code 14 = .ok (.i2l, 1) := by decide +kernel
theorem dm_takesOne_15 : decode prog_12_method_87_code 15 = .ok (.iload_n 2, 1) := by decide +kernel
theorem dm_takesOne_16 : decode prog_12_method_87_code 16 = .ok (.i2l, 1) := by decide +kernel
theorem dm_takesOne_17 : decode prog_12_method_87_code 17 = .ok (.invokestatic 126, 3) := by decide +kernel
theorem dm_takesOne_20 : decode prog_12_method_87_code 20 = .ok (.ifCond .ne 5, 3) := by decide +kernel
theorem dm_takesOne_23 : decode prog_12_method_87_code 23 = .ok (.iconst 0, 1) := by decide +kernel
theorem dm_takesOne_24 : decode prog_12_method_87_code 24 = .ok (.ireturn, 1) := by decide +kernel
theorem dm_takesOne_25 : decode prog_12_method_87_code 25 = .ok (.aload_n 0, 1) := by decide +kernel
theorem dm_takesOne_26 : decode prog_12_method_87_code 26 = .ok (.aload_n 0, 1) := by decide +kernel
theorem dm_takesOne_27 : decode prog_12_method_87_code 27 = .ok (.getfield 310, 3) := by decide +kernel
theorem dm_takesOne_30 : decode prog_12_method_87_code 30 = .ok (.putfield 322, 3) := by decide +kernel
theorem dm_takesOne_33 : decode prog_12_method_87_code 33 = .ok (.aload_n 0, 1) := by decide +kernel
theorem dm_takesOne_34 : decode prog_12_method_87_code 34 = .ok (.invokevirtual 325, 3) := by decide +kernel
theorem dm_takesOne_37 : decode prog_12_method_87_code 37 = .ok (.iconst 1, 1) := by decide +kernel
theorem dm_takesOne_38 : decode prog_12_method_87_code 38 = .ok (.ireturn, 1) := by decide +kernel
theorem dm_isReadNumber_0 : decode prog_12_method_88_code 0 = .ok (.iload_n 1, 1) := by decide +kernel
theorem dm_isReadNumber_1 : decode prog_12_method_88_code 1 = .ok (.i2l, 1) := by decide +kernel
theorem dm_isReadNumber_2 : decode prog_12_method_88_code 2 = .ok (.lconst 0, 1) := by decide +kernel
theorem dm_isReadNumber_3 : decode prog_12_method_88_code 3 = .ok (.aload_n 0, 1) := by decide +kernel
theorem dm_isReadNumber_4 : decode prog_12_method_88_code 4 = .ok (.getfield 328, 3) := by decide +kernel
theorem dm_isReadNumber_7 : decode prog_12_method_88_code 7 = .ok (.iconst 1, 1) := by decide +kernel
theorem dm_isReadNumber_8 : decode prog_12_method_88_code 8 = .ok (.isub, 1) := by decide +kernel
theorem dm_isReadNumber_9 : decode prog_12_method_88_code 9 = .ok (.i2l, 1) := by decide +kernel
theorem dm_isReadNumber_10 : decode prog_12_method_88_code 10 = .ok (.invokestatic 126, 3) := by decide +kernel
theorem dm_isReadNumber_13 : decode prog_12_method_88_code 13 = .ok (.ifCond .ne 21, 3) := by decide +kernel
theorem dm_isReadNumber_16 : decode prog_12_method_88_code 16 = .ok (.iload_n 1, 1) := by decide +kernel
theorem dm_isReadNumber_17 : decode prog_12_method_88_code 17 = .ok (.i2l, 1) := by decide +kernel
theorem dm_isReadNumber_18 : decode prog_12_method_88_code 18 = .ok (.ldc2_w 136, 3) := by decide +kernel
theorem dm_isReadNumber_21 : decode prog_12_method_88_code 21 = .ok (.iconst 3, 1) := by decide +kernel
theorem dm_isReadNumber_22 : decode prog_12_method_88_code 22 = .ok (.aload_n 0, 1) := by decide +kernel
theorem dm_isReadNumber_23 : decode prog_12_method_88_code 23 = .ok (.getfield 331, 3) := by decide +kernel
theorem dm_isReadNumber_26 : decode prog_12_method_88_code 26 = .ok (.iadd, 1) := by decide +kernel
theorem dm_isReadNumber_27 : decode prog_12_method_88_code 27 = .ok (.i2l, 1) := by decide +kernel
theorem dm_isReadNumber_28 : decode prog_12_method_88_code 28 = .ok (.invokestatic 126, 3) := by decide +kernel
theorem dm_isReadNumber_31 : decode prog_12_method_88_code 31 = .ok (.ifCond .eq 7, 3) := by decide +kernel
theorem dm_isReadNumber_34 : decode prog_12_method_88_code 34 = .ok (.iconst 1, 1) := by decide +kernel
theorem dm_isReadNumber_35 : decode prog_12_method_88_code 35 = .ok (.goto 4, 3) := by decide +kernel
theorem dm_isReadNumber_38 : decode prog_12_method_88_code 38 = .ok (.iconst 0, 1) := by decide +kernel
theorem dm_isReadNumber_39 : decode prog_12_method_88_code 39 = .ok (.ireturn, 1) := by decide +kernel
theorem dm_readsCloth_0 : decode prog_12_method_89_code 0 = .ok (.aload_n 0, 1) := by decide +kernel
theorem dm_readsCloth_1 : decode prog_12_method_89_code 1 = .ok (.getfield 328, 3) := by decide +kernel
theorem dm_readsCloth_4 : decode prog_12_method_89_code 4 = .ok (.iconst 4, 1) := by decide +kernel
theorem dm_readsCloth_5 : decode prog_12_method_89_code 5 = .ok (.if_icmp .ne 5, 3) := by decide +kernel
theorem dm_readsCloth_8 : decode prog_12_method_89_code 8 = .ok (.iconst 0, 1) := by decide +kernel
theorem dm_readsCloth_9 : decode prog_12_method_89_code 9 = .ok (.ireturn, 1) := by decide +kernel
theorem dm_readsCloth_10 : decode prog_12_method_89_code 10 = .ok (.aload_n 0, 1) := by decide +kernel
theorem dm_readsCloth_11 : decode prog_12_method_89_code 11 = .ok (.invokevirtual 325, 3) := by decide +kernel
theorem dm_readsCloth_14 : decode prog_12_method_89_code 14 = .ok (.iconst 1, 1) := by decide +kernel
theorem dm_readsCloth_15 : decode prog_12_method_89_code 15 = .ok (.istore_n 1, 1) := by decide +kernel
theorem dm_readsCloth_16 : decode prog_12_method_89_code 16 = .ok (.iconst 0, 1) := by decide +kernel
theorem dm_readsCloth_17 : decode prog_12_method_89_code 17 = .ok (.istore_n 2, 1) := by decide +kernel
theorem dm_readsCloth_18 : decode prog_12_method_89_code 18 = .ok (.iload_n 2, 1) := by decide +kernel
theorem dm_readsCloth_19 : decode prog_12_method_89_code 19 = .ok (.iconst 3, 1) := by decide +kernel
theorem dm_readsCloth_20 : decode prog_12_method_89_code 20 = .ok (.if_icmp .ge 55, 3) := by decide +kernel
theorem dm_readsCloth_23 : decode prog_12_method_89_code 23 = .ok (.iload_n 1, 1) := by decide +kernel
theorem dm_readsCloth_24 : decode prog_12_method_89_code 24 = .ok (.ifCond .eq 51, 3) := by decide +kernel
theorem dm_readsCloth_27 : decode prog_12_method_89_code 27 = .ok (.aload_n 0, 1) := by decide +kernel
theorem dm_readsCloth_28 : decode prog_12_method_89_code 28 = .ok (.iconst 0, 1) := by decide +kernel
theorem dm_readsCloth_29 : decode prog_12_method_89_code 29 = .ok (.iload_n 2, 1) := by decide +kernel
theorem dm_readsCloth_30 : decode prog_12_method_89_code 30 = .ok (.ifCond .ne 7, 3) := by decide +kernel
theorem dm_readsCloth_33 : decode prog_12_method_89_code 33 = .ok (.iconst 4, 1) := by decide +kernel
theorem dm_readsCloth_34 : decode prog_12_method_89_code 34 = .ok (.goto 14, 3) := by decide +kernel
theorem dm_readsCloth_37 : decode prog_12_method_89_code 37 = .ok (.iload_n 2, 1) := by decide +kernel
theorem dm_readsCloth_38 : decode prog_12_method_89_code 38 = .ok (.iconst 1, 1) := by decide +kernel
theorem dm_readsCloth_39 : decode prog_12_method_89_code 39 = .ok (.if_icmp .ne 7, 3) := by decide +kernel
theorem dm_readsCloth_42 : decode prog_12_method_89_code 42 = .ok (.iconst 3, 1) := by decide +kernel
theorem dm_readsCloth_43 : decode prog_12_method_89_code 43 = .ok (.goto 5, 3) := by decide +kernel
theorem dm_readsCloth_46 : decode prog_12_method_89_code 46 = .ok (.bipush 12, 2) := by decide +kernel
theorem dm_readsCloth_48 : decode prog_12_method_89_code 48 = .ok (.invokevirtual 334, 3) := by decide +kernel
theorem dm_readsCloth_51 : decode prog_12_method_89_code 51 = .ok (.istore_n 1, 1) := by decide +kernel
theorem dm_readsCloth_52 : decode prog_12_method_89_code 52 = .ok (.aload_n 0, 1) := by decide +kernel
theorem dm_readsCloth_53 : decode prog_12_method_89_code 53 = .ok (.getfield 63, 3) := by decide +kernel
theorem dm_readsCloth_56 : decode prog_12_method_89_code 56 = .ok (.iconst 3, 1) := by decide +kernel
theorem dm_readsCloth_57 : decode prog_12_method_89_code 57 = .ok (.aload_n 0, 1) := by decide +kernel
theorem dm_readsCloth_58 : decode prog_12_method_89_code 58 = .ok (.getfield 328, 3) := by decide +kernel
theorem dm_readsCloth_61 : decode prog_12_method_89_code 61 = .ok (.imul, 1) := by decide +kernel
theorem dm_readsCloth_62 : decode prog_12_method_89_code 62 = .ok (.iload_n 2, 1) := by decide +kernel
theorem dm_readsCloth_63 : decode prog_12_method_89_code 63 = .ok (.iadd, 1) := by decide +kernel
theorem dm_readsCloth_64 : decode prog_12_method_89_code 64 = .ok (.aload_n 0, 1) := by decide +kernel
theorem dm_readsCloth_65 : decode prog_12_method_89_code 65 = .ok (.getfield 322, 3) := by decide +kernel
theorem dm_readsCloth_68 : decode prog_12_method_89_code 68 = .ok (.iastore, 1) := by decide +kernel
theorem dm_readsCloth_69 : decode prog_12_method_89_code 69 = .ok (.iinc 2 1, 3) := by decide +kernel
theorem dm_readsCloth_72 : decode prog_12_method_89_code 72 = .ok (.goto (-54), 3) := by decide +kernel
theorem dm_readsCloth_75 : decode prog_12_method_89_code 75 = .ok (.aload_n 0, 1) := by decide +kernel
theorem dm_readsCloth_76 : decode prog_12_method_89_code 76 = .ok (.dup, 1) := by decide +kernel
theorem dm_readsCloth_77 : decode prog_12_method_89_code 77 = .ok (.getfield 328, 3) := by decide +kernel
theorem dm_readsCloth_80 : decode prog_12_method_89_code 80 = .ok (.iconst 1, 1) := by decide +kernel
theorem dm_readsCloth_81 : decode prog_12_method_89_code 81 = .ok (.iadd, 1) := by decide +kernel
theorem dm_readsCloth_82 : decode prog_12_method_89_code 82 = .ok (.putfield 328, 3) := by decide +kernel
theorem dm_readsCloth_85 : decode prog_12_method_89_code 85 = .ok (.iload_n 1, 1) := by decide +kernel
theorem dm_readsCloth_86 : decode prog_12_method_89_code 86 = .ok (.ireturn, 1) := by decide +kernel
theorem dm_readsThing_0 : decode prog_12_method_90_code 0 = .ok (.aload_n 0, 1) := by decide +kernel
theorem dm_readsThing_1 : decode prog_12_method_90_code 1 = .ok (.getfield 331, 3) := by decide +kernel
theorem dm_readsThing_4 : decode prog_12_method_90_code 4 = .ok (.iconst 4, 1) := by decide +kernel
theorem dm_readsThing_5 : decode prog_12_method_90_code 5 = .ok (.if_icmp .ne 5, 3) := by decide +kernel
theorem dm_readsThing_8 : decode prog_12_method_90_code 8 = .ok (.iconst 0, 1) := by decide +kernel
theorem dm_readsThing_9 : decode prog_12_method_90_code 9 = .ok (.ireturn, 1) := by decide +kernel
theorem dm_readsThing_10 : decode prog_12_method_90_code 10 = .ok (.aload_n 0, 1) := by decide +kernel
theorem dm_readsThing_11 : decode prog_12_method_90_code 11 = .ok (.invokevirtual 325, 3) := by decide +kernel
theorem dm_readsThing_14 : decode prog_12_method_90_code 14 = .ok (.aload_n 0, 1) := by decide +kernel
theorem dm_readsThing_15 : decode prog_12_method_90_code 15 = .ok (.iconst 0, 1) := by decide +kernel
theorem dm_readsThing_16 : decode prog_12_method_90_code 16 = .ok (.bipush 12, 2) := by decide +kernel
theorem dm_readsThing_18 : decode prog_12_method_90_code 18 = .ok (.invokevirtual 334, 3) := by decide +kernel
theorem dm_readsThing_21 : decode prog_12_method_90_code 21 = .ok (.ifCond .ne 5, 3) := by decide +kernel
theorem dm_readsThing_24 : decode prog_12_method_90_code 24 = .ok (.iconst 0, 1) := by decide +kernel
theorem dm_readsThing_25 : decode prog_12_method_90_code 25 = .ok (.ireturn, 1) := by decide +kernel
theorem dm_readsThing_26 : decode prog_12_method_90_code 26 = .ok (.aload_n 0, 1) := by decide +kernel
theorem dm_readsThing_27 : decode prog_12_method_90_code 27 = .ok (.getfield 69, 3) := by decide +kernel
theorem dm_readsThing_30 : decode prog_12_method_90_code 30 = .ok (.aload_n 0, 1) := by decide +kernel
theorem dm_readsThing_31 : decode prog_12_method_90_code 31 = .ok (.getfield 331, 3) := by decide +kernel
theorem dm_readsThing_34 : decode prog_12_method_90_code 34 = .ok (.aload_n 0, 1) := by decide +kernel
theorem dm_readsThing_35 : decode prog_12_method_90_code 35 = .ok (.getfield 322, 3) := by decide +kernel
theorem dm_readsThing_38 : decode prog_12_method_90_code 38 = .ok (.iastore, 1) := by decide +kernel
theorem dm_readsThing_39 : decode prog_12_method_90_code 39 = .ok (.aload_n 0, 1) := by decide +kernel
theorem dm_readsThing_40 : decode prog_12_method_90_code 40 = .ok (.dup, 1) := by decide +kernel
theorem dm_readsThing_41 : decode prog_12_method_90_code 41 = .ok (.getfield 331, 3) := by decide +kernel
theorem dm_readsThing_44 : decode prog_12_method_90_code 44 = .ok (.iconst 1, 1) := by decide +kernel
theorem dm_readsThing_45 : decode prog_12_method_90_code 45 = .ok (.iadd, 1) := by decide +kernel
theorem dm_readsThing_46 : decode prog_12_method_90_code 46 = .ok (.putfield 331, 3) := by decide +kernel
theorem dm_readsThing_49 : decode prog_12_method_90_code 49 = .ok (.iconst 1, 1) := by decide +kernel
theorem dm_readsThing_50 : decode prog_12_method_90_code 50 = .ok (.ireturn, 1) := by decide +kernel
theorem dm_readsTouch_0 : decode prog_12_method_91_code 0 = .ok (.aload_n 0, 1) := by decide +kernel
theorem dm_readsTouch_1 : decode prog_12_method_91_code 1 = .ok (.invokevirtual 325, 3) := by decide +kernel
theorem dm_readsTouch_4 : decode prog_12_method_91_code 4 = .ok (.aload_n 0, 1) := by decide +kernel
theorem dm_readsTouch_5 : decode prog_12_method_91_code 5 = .ok (.getfield 307, 3) := by decide +kernel
theorem dm_readsTouch_8 : decode prog_12_method_91_code 8 = .ok (.iconst 2, 1) := by decide +kernel
theorem dm_readsTouch_9 : decode prog_12_method_91_code 9 = .ok (.if_icmp .ne 14, 3) := by decide +kernel
theorem dm_readsTouch_12 : decode prog_12_method_91_code 12 = .ok (.aload_n 0, 1) := by decide +kernel
theorem dm_readsTouch_13 : decode prog_12_method_91_code 13 = .ok (.aload_n 0, 1) := by decide +kernel
theorem dm_readsTouch_14 : decode prog_12_method_91_code 14 = .ok (.getfield 310, 3) := by decide +kernel
theorem dm_readsTouch_17 : decode prog_12_method_91_code 17 = .ok (.invokevirtual 337, 3) := by decide +kernel
theorem dm_readsTouch_20 : decode prog_12_method_91_code 20 = .ok (.ifCond .ne 5, 3) := by decide +kernel
theorem dm_readsTouch_23 : decode prog_12_method_91_code 23 = .ok (.iconst 0, 1) := by decide +kernel
theorem dm_readsTouch_24 : decode prog_12_method_91_code 24 = .ok (.ireturn, 1) := by decide +kernel
theorem dm_readsTouch_25 : decode prog_12_method_91_code 25 = .ok (.aload_n 0, 1) := by decide +kernel
theorem dm_readsTouch_26 : decode prog_12_method_91_code 26 = .ok (.getfield 310, 3) := by decide +kernel
theorem dm_readsTouch_29 : decode prog_12_method_91_code 29 = .ok (.istore_n 1, 1) := by decide +kernel
theorem dm_readsTouch_30 : decode prog_12_method_91_code 30 = .ok (.aload_n 0, 1) := by decide +kernel
theorem dm_readsTouch_31 : decode prog_12_method_91_code 31 = .ok (.invokevirtual 325, 3) := by decide +kernel
theorem dm_readsTouch_34 : decode prog_12_method_91_code 34 = .ok (.aload_n 0, 1) := by decide +kernel
theorem dm_readsTouch_35 : decode prog_12_method_91_code 35 = .ok (.getfield 307, 3) := by decide +kernel
theorem dm_readsTouch_38 : decode prog_12_method_91_code 38 = .ok (.iconst 2, 1) := by decide +kernel
theorem dm_readsTouch_39 : decode prog_12_method_91_code 39 = .ok (.if_icmp .ne 35, 3) := by decide +kernel
theorem dm_readsTouch_42 : decode prog_12_method_91_code 42 = .ok (.aload_n 0, 1) := by decide +kernel
theorem dm_readsTouch_43 : decode prog_12_method_91_code 43 = .ok (.aload_n 0, 1) := by decide +kernel
theorem dm_readsTouch_44 : decode prog_12_method_91_code 44 = .ok (.getfield 310, 3) := by decide +kernel
theorem dm_readsTouch_47 : decode prog_12_method_91_code 47 = .ok (.invokevirtual 337, 3) := by decide +kernel
theorem dm_readsTouch_50 : decode prog_12_method_91_code 50 = .ok (.ifCond .eq 24, 3) := by decide +kernel
theorem dm_readsTouch_53 : decode prog_12_method_91_code 53 = .ok (.aload_n 0, 1) := by decide +kernel
theorem dm_readsTouch_54 : decode prog_12_method_91_code 54 = .ok (.getfield 310, 3) := by decide +kernel
theorem dm_readsTouch_57 : decode prog_12_method_91_code 57 = .ok (.iload_n 1, 1) := by decide +kernel
theorem dm_readsTouch_58 : decode prog_12_method_91_code 58 = .ok (.if_icmp .eq 16, 3) := by decide +kernel
theorem dm_readsTouch_61 : decode prog_12_method_91_code 61 = .ok (.iload_n 1, 1) := by decide +kernel
theorem dm_readsTouch_62 : decode prog_12_method_91_code 62 = .ok (.iconst 3, 1) := by decide +kernel
theorem dm_readsTouch_63 : decode prog_12_method_91_code 63 = .ok (.if_icmp .le 13, 3) := by decide +kernel
theorem dm_readsTouch_66 : decode prog_12_method_91_code 66 = .ok (.aload_n 0, 1) := by decide +kernel
theorem dm_readsTouch_67 : decode prog_12_method_91_code 67 = .ok (.getfield 310, 3) := by decide +kernel
theorem dm_readsTouch_70 : decode prog_12_method_91_code 70 = .ok (.iconst 3, 1) := by decide +kernel
theorem dm_readsTouch_71 : decode prog_12_method_91_code 71 = .ok (.if_icmp .le 5, 3) := by decide +kernel
theorem dm_readsTouch_74 : decode prog_12_method_91_code 74 = .ok (.iconst 0, 1) := by decide +kernel
theorem dm_readsTouch_75 : decode prog_12_method_91_code 75 = .ok (.ireturn, 1) := by decide +kernel
theorem dm_readsTouch_76 : decode prog_12_method_91_code 76 = .ok (.aload_n 0, 1) := by decide +kernel
theorem dm_readsTouch_77 : decode prog_12_method_91_code 77 = .ok (.getfield 310, 3) := by decide +kernel
theorem dm_readsTouch_80 : decode prog_12_method_91_code 80 = .ok (.istore_n 2, 1) := by decide +kernel
theorem dm_readsTouch_81 : decode prog_12_method_91_code 81 = .ok (.aload_n 0, 1) := by decide +kernel
theorem dm_readsTouch_82 : decode prog_12_method_91_code 82 = .ok (.invokevirtual 325, 3) := by decide +kernel
theorem dm_readsTouch_85 : decode prog_12_method_91_code 85 = .ok (.aload_n 0, 1) := by decide +kernel
theorem dm_readsTouch_86 : decode prog_12_method_91_code 86 = .ok (.iconst 0, 1) := by decide +kernel
theorem dm_readsTouch_87 : decode prog_12_method_91_code 87 = .ok (.iconst 3, 1) := by decide +kernel
theorem dm_readsTouch_88 : decode prog_12_method_91_code 88 = .ok (.invokevirtual 334, 3) := by decide +kernel
theorem dm_readsTouch_91 : decode prog_12_method_91_code 91 = .ok (.ifCond .ne 5, 3) := by decide +kernel
theorem dm_readsTouch_94 : decode prog_12_method_91_code 94 = .ok (.iconst 0, 1) := by decide +kernel
theorem dm_readsTouch_95 : decode prog_12_method_91_code 95 = .ok (.ireturn, 1) := by decide +kernel
theorem dm_readsTouch_96 : decode prog_12_method_91_code 96 = .ok (.aload_n 0, 1) := by decide +kernel
theorem dm_readsTouch_97 : decode prog_12_method_91_code 97 = .ok (.getfield 66, 3) := by decide +kernel
theorem dm_readsTouch_100 : decode prog_12_method_91_code 100 = .ok (.iconst 0, 1) := by decide +kernel
theorem dm_readsTouch_101 : decode prog_12_method_91_code 101 = .ok (.iload_n 1, 1) := by decide +kernel
theorem dm_readsTouch_102 : decode prog_12_method_91_code 102 = .ok (.iload_n 2, 1) := by decide +kernel
theorem dm_readsTouch_103 : decode prog_12_method_91_code 103 = .ok (.aload_n 0, 1) := by decide +kernel
theorem dm_readsTouch_104 : decode prog_12_method_91_code 104 = .ok (.getfield 322, 3) := by decide +kernel
theorem dm_readsTouch_107 : decode prog_12_method_91_code 107 = .ok (.invokestatic 156, 3) := by decide +kernel
theorem dm_readsTouch_110 : decode prog_12_method_91_code 110 = .ok (.iconst 1, 1) := by decide +kernel
theorem dm_readsTouch_111 : decode prog_12_method_91_code 111 = .ok (.ireturn, 1) := by decide +kernel
theorem dm_readsItem_0 : decode prog_12_method_92_code 0 = .ok (.aload_n 0, 1) := by decide +kernel
theorem dm_readsItem_1 : decode prog_12_method_92_code 1 = .ok (.bipush 99, 2) := by decide +kernel
theorem dm_readsItem_3 : decode prog_12_method_92_code 3 = .ok (.bipush 108, 2) := by decide +kernel
theorem dm_readsItem_5 : decode prog_12_method_92_code 5 = .ok (.bipush 111, 2) := by decide +kernel
theorem dm_readsItem_7 : decode prog_12_method_92_code 7 = .ok (.bipush 116, 2) := by decide +kernel
theorem dm_readsItem_9 : decode prog_12_method_92_code 9 = .ok (.bipush 104, 2) := by decide +kernel
theorem dm_readsItem_11 : decode prog_12_method_92_code 11 = .ok (.invokevirtual 340, 3) := by decide +kernel
theorem dm_readsItem_14 : decode prog_12_method_92_code 14 = .ok (.ifCond .eq 8, 3) := by decide +kernel
theorem dm_readsItem_17 : decode prog_12_method_92_code 17 = .ok (.aload_n 0, 1) := by decide +kernel
theorem dm_readsItem_18 : decode prog_12_method_92_code 18 = .ok (.invokevirtual 344, 3) := by decide +kernel
theorem dm_readsItem_21 : decode prog_12_method_92_code 21 = .ok (.ireturn, 1) := by decide +kernel
theorem dm_readsItem_22 : decode prog_12_method_92_code 22 = .ok (.aload_n 0, 1) := by decide +kernel
theorem dm_readsItem_23 : decode prog_12_method_92_code 23 = .ok (.bipush 116, 2) := by decide +kernel
theorem dm_readsItem_25 : decode prog_12_method_92_code 25 = .ok (.bipush 104, 2) := by decide +kernel
theorem dm_readsItem_27 : decode prog_12_method_92_code 27 = .ok (.bipush 105, 2) := by decide +kernel
theorem dm_readsItem_29 : decode prog_12_method_92_code 29 = .ok (.bipush 110, 2) := by decide +kernel
theorem dm_readsItem_31 : decode prog_12_method_92_code 31 = .ok (.bipush 103, 2) := by decide +kernel
theorem dm_readsItem_33 : decode prog_12_method_92_code 33 = .ok (.invokevirtual 340, 3) := by decide +kernel
theorem dm_readsItem_36 : decode prog_12_method_92_code 36 = .ok (.ifCond .eq 8, 3) := by decide +kernel
theorem dm_readsItem_39 : decode prog_12_method_92_code 39 = .ok (.aload_n 0, 1) := by decide +kernel
theorem dm_readsItem_40 : decode prog_12_method_92_code 40 = .ok (.invokevirtual 347, 3) := by decide +kernel
theorem dm_readsItem_43 : decode prog_12_method_92_code 43 = .ok (.ireturn, 1) := by decide +kernel
theorem dm_readsItem_44 : decode prog_12_method_92_code 44 = .ok (.aload_n 0, 1) := by decide +kernel
theorem dm_readsItem_45 : decode prog_12_method_92_code 45 = .ok (.bipush 116, 2) := by decide +kernel
theorem dm_readsItem_47 : decode prog_12_method_92_code 47 = .ok (.bipush 111, 2) := by decide +kernel
theorem dm_readsItem_49 : decode prog_12_method_92_code 49 = .ok (.bipush 117, 2) := by decide +kernel
theorem dm_readsItem_51 : decode prog_12_method_92_code 51 = .ok (.bipush 99, 2) := by decide +kernel
theorem dm_readsItem_53 : decode prog_12_method_92_code 53 = .ok (.bipush 104, 2) := by decide +kernel
theorem dm_readsItem_55 : decode prog_12_method_92_code 55 = .ok (.invokevirtual 340, 3) := by decide +kernel
theorem dm_readsItem_58 : decode prog_12_method_92_code 58 = .ok (.ifCond .eq 14, 3) := by decide +kernel
theorem dm_readsItem_61 : decode prog_12_method_92_code 61 = .ok (.aload_n 0, 1) := by decide +kernel
theorem dm_readsItem_62 : decode prog_12_method_92_code 62 = .ok (.invokevirtual 350, 3) := by decide +kernel
theorem dm_readsItem_65 : decode prog_12_method_92_code 65 = .ok (.ifCond .eq 7, 3) := by decide +kernel
theorem dm_readsItem_68 : decode prog_12_method_92_code 68 = .ok (.iconst 1, 1) := by decide +kernel
theorem dm_readsItem_69 : decode prog_12_method_92_code 69 = .ok (.goto 4, 3) := by decide +kernel
theorem dm_readsItem_72 : decode prog_12_method_92_code 72 = .ok (.iconst 0, 1) := by decide +kernel
theorem dm_readsItem_73 : decode prog_12_method_92_code 73 = .ok (.ireturn, 1) := by decide +kernel
theorem dm_putRead_0 : decode prog_12_method_94_code 0 = .ok (.aload_n 0, 1) := by decide +kernel
theorem dm_putRead_1 : decode prog_12_method_94_code 1 = .ok (.bipush 23, 2) := by decide +kernel
theorem dm_putRead_3 : decode prog_12_method_94_code 3 = .ok (.lconst 1, 1) := by decide +kernel
theorem dm_putRead_4 : decode prog_12_method_94_code 4 = .ok (.invokevirtual 72, 3) := by decide +kernel
theorem dm_putRead_7 : decode prog_12_method_94_code 7 = .ok (.iconst 0, 1) := by decide +kernel
theorem dm_putRead_8 : decode prog_12_method_94_code 8 = .ok (.istore_n 1, 1) := by decide +kernel
theorem dm_putRead_9 : decode prog_12_method_94_code 9 = .ok (.iload_n 1, 1) := by decide +kernel
theorem dm_putRead_10 : decode prog_12_method_94_code 10 = .ok (.aload_n 0, 1) := by decide +kernel
theorem dm_putRead_11 : decode prog_12_method_94_code 11 = .ok (.getfield 328, 3) := by decide +kernel
theorem dm_putRead_14 : decode prog_12_method_94_code 14 = .ok (.if_icmp .ge 90, 3) := by decide +kernel
theorem dm_putRead_17 : decode prog_12_method_94_code 17 = .ok (.aload_n 0, 1) := by decide +kernel
theorem dm_putRead_18 : decode prog_12_method_94_code 18 = .ok (.iload_n 1, 1) := by decide +kernel
theorem dm_putRead_19 : decode prog_12_method_94_code 19 = .ok (.aload_n 0, 1) := by decide +kernel
theorem dm_putRead_20 : decode prog_12_method_94_code 20 = .ok (.getfield 63, 3) := by decide +kernel
theorem dm_putRead_23 : decode prog_12_method_94_code 23 = .ok (.iconst 3, 1) := by decide +kernel
theorem dm_putRead_24 : decode prog_12_method_94_code 24 = .ok (.iload_n 1, 1) := by decide +kernel
theorem dm_putRead_25 : decode prog_12_method_94_code 25 = .ok (.imul, 1) := by decide +kernel
theorem dm_putRead_26 : decode prog_12_method_94_code 26 = .ok (.iaload, 1) := by decide +kernel
theorem dm_putRead_27 : decode prog_12_method_94_code 27 = .ok (.aload_n 0, 1) := by decide +kernel
theorem dm_putRead_28 : decode prog_12_method_94_code 28 = .ok (.getfield 63, 3) := by decide +kernel
theorem dm_putRead_31 : decode prog_12_method_94_code 31 = .ok (.iconst 3, 1) := by decide +kernel
theorem dm_putRead_32 : decode prog_12_method_94_code 32 = .ok (.iload_n 1, 1) := by decide +kernel
theorem dm_putRead_33 : decode prog_12_method_94_code 33 = .ok (.imul, 1) := by decide +kernel
theorem dm_putRead_34 : decode prog_12_method_94_code 34 = .ok (.iconst 1, 1) := by decide +kernel
theorem dm_putRead_35 : decode prog_12_method_94_code 35 = .ok (.iadd, 1) := by decide +kernel
theorem dm_putRead_36 : decode prog_12_method_94_code 36 = .ok (.iaload, 1) := by decide +kernel
theorem dm_putRead_37 : decode prog_12_method_94_code 37 = .ok (.invokevirtual 149, 3) := by decide +kernel
theorem dm_putRead_40 : decode prog_12_method_94_code 40 = .ok (.aload_n 0, 1) := by decide +kernel
theorem dm_putRead_41 : decode prog_12_method_94_code 41 = .ok (.bipush 19, 2) := by decide +kernel
theorem dm_putRead_43 : decode prog_12_method_94_code 43 = .ok (.iload_n 1, 1) := by decide +kernel
theorem dm_putRead_44 : decode prog_12_method_94_code 44 = .ok (.iadd, 1) := by decide +kernel
theorem dm_putRead_45 : decode prog_12_method_94_code 45 = .ok (.aload_n 0, 1) := by decide +kernel
theorem dm_putRead_46 : decode prog_12_method_94_code 46 = .ok (.getfield 63, 3) := by decide +kernel
theorem dm_putRead_49 : decode prog_12_method_94_code 49 = .ok (.iconst 3, 1) := by decide +kernel
theorem dm_putRead_50 : decode prog_12_method_94_code 50 = .ok (.iload_n 1, 1) := by decide +kernel
theorem dm_putRead_51 : decode prog_12_method_94_code 51 = .ok (.imul, 1) := by decide +kernel
theorem dm_putRead_52 : decode prog_12_method_94_code 52 = .ok (.iconst 2, 1) := by decide +kernel
theorem dm_putRead_53 : decode prog_12_method_94_code 53 = .ok (.iadd, 1) := by decide +kernel
theorem dm_putRead_54 : decode prog_12_method_94_code 54 = .ok (.iaload, 1) := by decide +kernel
theorem dm_putRead_55 : decode prog_12_method_94_code 55 = .ok (.i2l, 1) := by decide +kernel
theorem dm_putRead_56 : decode prog_12_method_94_code 56 = .ok (.invokevirtual 72, 3) := by decide +kernel
theorem dm_putRead_59 : decode prog_12_method_94_code 59 = .ok (.iconst 0, 1) := by decide +kernel
theorem dm_putRead_60 : decode prog_12_method_94_code 60 = .ok (.istore_n 2, 1) := by decide +kernel
theorem dm_putRead_61 : decode prog_12_method_94_code 61 = .ok (.iload_n 2, 1) := by decide +kernel
theorem dm_putRead_62 : decode prog_12_method_94_code 62 = .ok (.bipush 8, 2) := by decide +kernel
theorem dm_putRead_64 : decode prog_12_method_94_code 64 = .ok (.if_icmp .ge 34, 3) := by decide +kernel
theorem dm_putRead_67 : decode prog_12_method_94_code 67 = .ok (.aload_n 0, 1) := by decide +kernel
theorem dm_putRead_68 : decode prog_12_method_94_code 68 = .ok (.getfield 7, 3) := by decide +kernel
theorem dm_putRead_71 : decode prog_12_method_94_code 71 = .ok (.bipush 16, 2) := by decide +kernel
theorem dm_putRead_73 : decode prog_12_method_94_code 73 = .ok (.bipush 8, 2) := by decide +kernel
theorem dm_putRead_75 : decode prog_12_method_94_code 75 = .ok (.iload_n 1, 1) := by decide +kernel
theorem dm_putRead_76 : decode prog_12_method_94_code 76 = .ok (.imul, 1) := by decide +kernel
theorem dm_putRead_77 : decode prog_12_method_94_code 77 = .ok (.iadd, 1) := by decide +kernel
theorem dm_putRead_78 : decode prog_12_method_94_code 78 = .ok (.iload_n 2, 1) := by decide +kernel
theorem dm_putRead_79 : decode prog_12_method_94_code 79 = .ok (.iadd, 1) := by decide +kernel
theorem dm_putRead_80 : decode prog_12_method_94_code 80 = .ok (.aload_n 0, 1) := by decide +kernel
theorem dm_putRead_81 : decode prog_12_method_94_code 81 = .ok (.getfield 66, 3) := by decide +kernel
theorem dm_putRead_84 : decode prog_12_method_94_code 84 = .ok (.bipush 8, 2) := by decide +kernel
theorem dm_putRead_86 : decode prog_12_method_94_code 86 = .ok (.iload_n 1, 1) := by decide +kernel
theorem dm_putRead_87 : decode prog_12_method_94_code 87 = .ok (.imul, 1) := by decide +kernel
theorem dm_putRead_88 : decode prog_12_method_94_code 88 = .ok (.iload_n 2, 1) := by decide +kernel
theorem dm_putRead_89 : decode prog_12_method_94_code 89 = .ok (.iadd, 1) := by decide +kernel
theorem dm_putRead_90 : decode prog_12_method_94_code 90 = .ok (.iaload, 1) := by decide +kernel
theorem dm_putRead_91 : decode prog_12_method_94_code 91 = .ok (.iastore, 1) := by decide +kernel
theorem dm_putRead_92 : decode prog_12_method_94_code 92 = .ok (.iinc 2 1, 3) := by decide +kernel
theorem dm_putRead_95 : decode prog_12_method_94_code 95 = .ok (.goto (-34), 3) := by decide +kernel
theorem dm_putRead_98 : decode prog_12_method_94_code 98 = .ok (.iinc 1 1, 3) := by decide +kernel
theorem dm_putRead_101 : decode prog_12_method_94_code 101 = .ok (.goto (-92), 3) := by decide +kernel
theorem dm_putRead_104 : decode prog_12_method_94_code 104 = .ok (.iconst 0, 1) := by decide +kernel
theorem dm_putRead_105 : decode prog_12_method_94_code 105 = .ok (.istore_n 1, 1) := by decide +kernel
theorem dm_putRead_106 : decode prog_12_method_94_code 106 = .ok (.iload_n 1, 1) := by decide +kernel
theorem dm_putRead_107 : decode prog_12_method_94_code 107 = .ok (.aload_n 0, 1) := by decide +kernel
theorem dm_putRead_108 : decode prog_12_method_94_code 108 = .ok (.getfield 331, 3) := by decide +kernel
theorem dm_putRead_111 : decode prog_12_method_94_code 111 = .ok (.if_icmp .ge 24, 3) := by decide +kernel
theorem dm_putRead_114 : decode prog_12_method_94_code 114 = .ok (.aload_n 0, 1) := by decide +kernel
theorem dm_putRead_115 : decode prog_12_method_94_code 115 = .ok (.getfield 7, 3) := by decide +kernel
theorem dm_putRead_118 : decode prog_12_method_94_code 118 = .ok (.bipush 48, 2) := by decide +kernel
theorem dm_putRead_120 : decode prog_12_method_94_code 120 = .ok (.iload_n 1, 1) := by decide +kernel
theorem dm_putRead_121 : decode prog_12_method_94_code 121 = .ok (.iadd, 1) := by decide +kernel
theorem dm_putRead_122 : decode prog_12_method_94_code 122 = .ok (.aload_n 0, 1) := by decide +kernel
theorem dm_putRead_123 : decode prog_12_method_94_code 123 = .ok (.getfield 69, 3) := by decide +kernel
theorem dm_putRead_126 : decode prog_12_method_94_code 126 = .ok (.iload_n 1, 1) := by decide +kernel
theorem dm_putRead_127 : decode prog_12_method_94_code 127 = .ok (.iaload, 1) := by decide +kernel
theorem dm_putRead_128 : decode prog_12_method_94_code 128 = .ok (.iastore, 1) := by decide +kernel
theorem dm_putRead_129 : decode prog_12_method_94_code 129 = .ok (.iinc 1 1, 3) := by decide +kernel
theorem dm_putRead_132 : decode prog_12_method_94_code 132 = .ok (.goto (-26), 3) := by decide +kernel
theorem dm_putRead_135 : decode prog_12_method_94_code 135 = .ok (.aload_n 0, 1) := by decide +kernel
theorem dm_putRead_136 : decode prog_12_method_94_code 136 = .ok (.getfield 7, 3) := by decide +kernel
theorem dm_putRead_139 : decode prog_12_method_94_code 139 = .ok (.bipush 76, 2) := by decide +kernel
theorem dm_putRead_141 : decode prog_12_method_94_code 141 = .ok (.aload_n 0, 1) := by decide +kernel
theorem dm_putRead_142 : decode prog_12_method_94_code 142 = .ok (.getfield 328, 3) := by decide +kernel
theorem dm_putRead_145 : decode prog_12_method_94_code 145 = .ok (.iastore, 1) := by decide +kernel
theorem dm_putRead_146 : decode prog_12_method_94_code 146 = .ok (.aload_n 0, 1) := by decide +kernel
theorem dm_putRead_147 : decode prog_12_method_94_code 147 = .ok (.getfield 7, 3) := by decide +kernel
theorem dm_putRead_150 : decode prog_12_method_94_code 150 = .ok (.bipush 77, 2) := by decide +kernel
theorem dm_putRead_152 : decode prog_12_method_94_code 152 = .ok (.aload_n 0, 1) := by decide +kernel
theorem dm_putRead_153 : decode prog_12_method_94_code 153 = .ok (.getfield 331, 3) := by decide +kernel
theorem dm_putRead_156 : decode prog_12_method_94_code 156 = .ok (.iastore, 1) := by decide +kernel
theorem dm_putRead_157 : decode prog_12_method_94_code 157 = .ok (.aload_n 0, 1) := by decide +kernel
theorem dm_putRead_158 : decode prog_12_method_94_code 158 = .ok (.getfield 7, 3) := by decide +kernel
theorem dm_putRead_161 : decode prog_12_method_94_code 161 = .ok (.bipush 78, 2) := by decide +kernel
theorem dm_putRead_163 : decode prog_12_method_94_code 163 = .ok (.iconst 0, 1) := by decide +kernel
theorem dm_putRead_164 : decode prog_12_method_94_code 164 = .ok (.iastore, 1) := by decide +kernel
theorem dm_putRead_165 : decode prog_12_method_94_code 165 = .ok (.aload_n 0, 1) := by decide +kernel
theorem dm_putRead_166 : decode prog_12_method_94_code 166 = .ok (.getfield 7, 3) := by decide +kernel
theorem dm_putRead_169 : decode prog_12_method_94_code 169 = .ok (.bipush 79, 2) := by decide +kernel
theorem dm_putRead_171 : decode prog_12_method_94_code 171 = .ok (.iconst 0, 1) := by decide +kernel
theorem dm_putRead_172 : decode prog_12_method_94_code 172 = .ok (.iastore, 1) := by decide +kernel
theorem dm_putRead_173 : decode prog_12_method_94_code 173 = .ok (.return_, 1) := by decide +kernel
theorem dm_read_0 : decode prog_12_method_93_code 0 = .ok (.aload_n 0, 1) := by decide +kernel
theorem dm_read_1 : decode prog_12_method_93_code 1 = .ok (.iconst 0, 1) := by decide +kernel
theorem dm_read_2 : decode prog_12_method_93_code 2 = .ok (.putfield 328, 3) := by decide +kernel
theorem dm_read_5 : decode prog_12_method_93_code 5 = .ok (.aload_n 0, 1) := by decide +kernel
theorem dm_read_6 : decode prog_12_method_93_code 6 = .ok (.iconst 0, 1) := by decide +kernel
theorem dm_read_7 : decode prog_12_method_93_code 7 = .ok (.putfield 331, 3) := by decide +kernel
theorem dm_read_10 : decode prog_12_method_93_code 10 = .ok (.iconst 0, 1) := by decide +kernel
theorem dm_read_11 : decode prog_12_method_93_code 11 = .ok (.istore_n 1, 1) := by decide +kernel
theorem dm_read_12 : decode prog_12_method_93_code 12 = .ok (.iload_n 1, 1) := by decide +kernel
theorem dm_read_13 : decode prog_12_method_93_code 13 = .ok (.bipush 32, 2) := by decide +kernel
theorem dm_read_15 : decode prog_12_method_93_code 15 = .ok (.if_icmp .ge 16, 3) := by decide +kernel
theorem dm_read_18 : decode prog_12_method_93_code 18 = .ok (.aload_n 0, 1) := by decide +kernel
theorem dm_read_19 : decode prog_12_method_93_code 19 = .ok (.getfield 66, 3) := by decide +kernel
theorem dm_read_22 : decode prog_12_method_93_code 22 = .ok (.iload_n 1, 1) := by decide +kernel
theorem dm_read_23 : decode prog_12_method_93_code 23 = .ok (.iconst 0, 1) := by decide +kernel
theorem dm_read_24 : decode prog_12_method_93_code 24 = .ok (.iastore, 1) := by decide +kernel
theorem dm_read_25 : decode prog_12_method_93_code 25 = .ok (.iinc 1 1, 3) := by decide +kernel
theorem dm_read_28 : decode prog_12_method_93_code 28 = .ok (.goto (-16), 3) := by decide +kernel
theorem dm_read_31 : decode prog_12_method_93_code 31 = .ok (.iconst 0, 1) := by decide +kernel
theorem dm_read_32 : decode prog_12_method_93_code 32 = .ok (.istore_n 1, 1) := by decide +kernel
theorem dm_read_33 : decode prog_12_method_93_code 33 = .ok (.aload_n 0, 1) := by decide +kernel
theorem dm_read_34 : decode prog_12_method_93_code 34 = .ok (.iconst 0, 1) := by decide +kernel
theorem dm_read_35 : decode prog_12_method_93_code 35 = .ok (.invokevirtual 319, 3) := by decide +kernel
theorem dm_read_38 : decode prog_12_method_93_code 38 = .ok (.aload_n 0, 1) := by decide +kernel
theorem dm_read_39 : decode prog_12_method_93_code 39 = .ok (.getfield 307, 3) := by decide +kernel
theorem dm_read_42 : decode prog_12_method_93_code 42 = .ok (.ifCond .eq 36, 3) := by decide +kernel
theorem dm_read_45 : decode prog_12_method_93_code 45 = .ok (.aload_n 0, 1) := by decide +kernel
theorem dm_read_46 : decode prog_12_method_93_code 46 = .ok (.invokevirtual 353, 3) := by decide +kernel
theorem dm_read_49 : decode prog_12_method_93_code 49 = .ok (.ifCond .eq 11, 3) := by decide +kernel
theorem dm_read_52 : decode prog_12_method_93_code 52 = .ok (.aload_n 0, 1) := by decide +kernel
theorem dm_read_53 : decode prog_12_method_93_code 53 = .ok (.getfield 307, 3) := by decide +kernel
theorem dm_read_56 : decode prog_12_method_93_code 56 = .ok (.iconst 3, 1) := by decide +kernel
theorem dm_read_57 : decode prog_12_method_93_code 57 = .ok (.if_icmp .eq 11, 3) := by decide +kernel
theorem dm_read_60 : decode prog_12_method_93_code 60 = .ok (.bipush (-10), 2) := by decide +kernel
theorem dm_read_62 : decode prog_12_method_93_code 62 = .ok (.aload_n 0, 1) := by decide +kernel
theorem dm_read_63 : decode prog_12_method_93_code 63 = .ok (.getfield 301, 3) := by decide +kernel
theorem dm_read_66 : decode prog_12_method_93_code 66 = .ok (.isub, 1) := by decide +kernel
theorem dm_read_67 : decode prog_12_method_93_code 67 = .ok (.ireturn, 1) := by decide +kernel
theorem dm_read_68 : decode prog_12_method_93_code 68 = .ok (.aload_n 0, 1) := by decide +kernel
theorem dm_read_69 : decode prog_12_method_93_code 69 = .ok (.invokevirtual 325, 3) := by decide +kernel
theorem dm_read_72 : decode prog_12_method_93_code 72 = .ok (.iinc 1 1, 3) := by decide +kernel
theorem dm_read_75 : decode prog_12_method_93_code 75 = .ok (.goto (-37), 3) := by decide +kernel
theorem dm_read_78 : decode prog_12_method_93_code 78 = .ok (.aload_n 0, 1) := by decide +kernel
theorem dm_read_79 : decode prog_12_method_93_code 79 = .ok (.invokevirtual 356, 3) := by decide +kernel
theorem dm_read_82 : decode prog_12_method_93_code 82 = .ok (.iload_n 1, 1) := by decide +kernel
theorem dm_read_83 : decode prog_12_method_93_code 83 = .ok (.ireturn, 1) := by decide +kernel
theorem dm_sign_0 : decode prog_12_method_95_code 0 = .ok (.iload_n 1, 1) := by decide +kernel
theorem dm_sign_1 : decode prog_12_method_95_code 1 = .ok (.ifCond .ne 10, 3) := by decide +kernel
theorem dm_sign_4 : decode prog_12_method_95_code 4 = .ok (.aload_n 0, 1) := by decide +kernel
theorem dm_sign_5 : decode prog_12_method_95_code 5 = .ok (.getfield 108, 3) := by decide +kernel
theorem dm_sign_8 : decode prog_12_method_95_code 8 = .ok (.goto 37, 3) := by decide +kernel
theorem dm_sign_11 : decode prog_12_method_95_code 11 = .ok (.iload_n 1, 1) := by decide +kernel
theorem dm_sign_12 : decode prog_12_method_95_code 12 = .ok (.iconst 1, 1) := by decide +kernel
theorem dm_sign_13 : decode prog_12_method_95_code 13 = .ok (.if_icmp .ne 12, 3) := by decide +kernel
theorem dm_sign_16 : decode prog_12_method_95_code 16 = .ok (.aload_n 0, 1) := by decide +kernel
theorem dm_sign_17 : decode prog_12_method_95_code 17 = .ok (.getfield 27, 3) := by decide +kernel
theorem dm_sign_20 : decode prog_12_method_95_code 20 = .ok (.iconst 0, 1) := by decide +kernel
theorem dm_sign_21 : decode prog_12_method_95_code 21 = .ok (.iaload, 1) := by decide +kernel
theorem dm_sign_22 : decode prog_12_method_95_code 22 = .ok (.goto 23, 3) := by decide +kernel
theorem dm_sign_25 : decode prog_12_method_95_code 25 = .ok (.iload_n 1, 1) := by decide +kernel
theorem dm_sign_26 : decode prog_12_method_95_code 26 = .ok (.iconst 2, 1) := by decide +kernel
theorem dm_sign_27 : decode prog_12_method_95_code 27 = .ok (.if_icmp .ne 12, 3) := by decide +kernel
theorem dm_sign_30 : decode prog_12_method_95_code 30 = .ok (.aload_n 0, 1) := by decide +kernel
theorem dm_sign_31 : decode prog_12_method_95_code 31 = .ok (.getfield 27, 3) := by decide +kernel
theorem dm_sign_34 : decode prog_12_method_95_code 34 = .ok (.iconst 1, 1) := by decide +kernel
theorem dm_sign_35 : decode prog_12_method_95_code 35 = .ok (.iaload, 1) := by decide +kernel
theorem dm_sign_36 : decode prog_12_method_95_code 36 = .ok (.goto 9, 3) := by decide +kernel
theorem dm_sign_39 : decode prog_12_method_95_code 39 = .ok (.aload_n 0, 1) := by decide +kernel
theorem dm_sign_40 : decode prog_12_method_95_code 40 = .ok (.bipush (-2), 2) := by decide +kernel
theorem dm_sign_42 : decode prog_12_method_95_code 42 = .ok (.invokevirtual 142, 3) := by decide +kernel
theorem dm_sign_45 : decode prog_12_method_95_code 45 = .ok (.ireturn, 1) := by decide +kernel
theorem dm_limb_0 : decode prog_12_method_96_code 0 = .ok (.iload_n 1, 1) := by decide +kernel
theorem dm_limb_1 : decode prog_12_method_96_code 1 = .ok (.i2l, 1) := by decide +kernel
theorem dm_limb_2 : decode prog_12_method_96_code 2 = .ok (.lconst 0, 1) := by decide +kernel
theorem dm_limb_3 : decode prog_12_method_96_code 3 = .ok (.lconst 1, 1) := by decide +kernel
theorem dm_limb_4 : decode prog_12_method_96_code 4 = .ok (.invokestatic 126, 3) := by decide +kernel
theorem dm_limb_7 : decode prog_12_method_96_code 7 = .ok (.ifCond .eq 7, 3) := by decide +kernel
theorem dm_limb_10 : decode prog_12_method_96_code 10 = .ok (.iload_n 2, 1) := by decide +kernel
theorem dm_limb_11 : decode prog_12_method_96_code 11 = .ok (.ifCond .ge 10, 3) := by decide +kernel
theorem dm_limb_14 : decode prog_12_method_96_code 14 = .ok (.aload_n 0, 1) := by decide +kernel
theorem dm_limb_15 : decode prog_12_method_96_code 15 = .ok (.bipush (-2), 2) := by decide +kernel
theorem dm_limb_17 : decode prog_12_method_96_code 17 = .ok (.invokevirtual 142, 3) := by decide +kernel
theorem dm_limb_20 : decode prog_12_method_96_code 20 = .ok (.ireturn, 1) := by decide +kernel
theorem dm_limb_21 : decode prog_12_method_96_code 21 = .ok (.iload_n 2, 1) := by decide +kernel
theorem dm_limb_22 : decode prog_12_method_96_code 22 = .ok (.aload_n 0, 1) := by decide +kernel
theorem dm_limb_23 : decode prog_12_method_96_code 23 = .ok (.getfield 27, 3) := by decide +kernel
theorem dm_limb_26 : decode prog_12_method_96_code 26 = .ok (.iload_n 1, 1) := by decide +kernel
theorem dm_limb_27 : decode prog_12_method_96_code 27 = .ok (.iaload, 1) := by decide +kernel
theorem dm_limb_28 : decode prog_12_method_96_code 28 = .ok (.if_icmp .ge 18, 3) := by decide +kernel
theorem dm_limb_31 : decode prog_12_method_96_code 31 = .ok (.aload_n 0, 1) := by decide +kernel
theorem dm_limb_32 : decode prog_12_method_96_code 32 = .ok (.getfield 23, 3) := by decide +kernel
theorem dm_limb_35 : decode prog_12_method_96_code 35 = .ok (.bipush 64, 2) := by decide +kernel
theorem dm_limb_37 : decode prog_12_method_96_code 37 = .ok (.iload_n 1, 1) := by decide +kernel
theorem dm_limb_38 : decode prog_12_method_96_code 38 = .ok (.imul, 1) := by decide +kernel
theorem dm_limb_39 : decode prog_12_method_96_code 39 = .ok (.iload_n 2, 1) := by decide +kernel
theorem dm_limb_40 : decode prog_12_method_96_code 40 = .ok (.iadd, 1) := by decide +kernel
theorem dm_limb_41 : decode prog_12_method_96_code 41 = .ok (.laload, 1) := by decide +kernel
theorem dm_limb_42 : decode prog_12_method_96_code 42 = .ok (.l2i, 1) := by decide +kernel
theorem dm_limb_43 : decode prog_12_method_96_code 43 = .ok (.goto 4, 3) := by decide +kernel
theorem dm_limb_46 : decode prog_12_method_96_code 46 = .ok (.iconst (-1), 1) := by decide +kernel
theorem dm_limb_47 : decode prog_12_method_96_code 47 = .ok (.ireturn, 1) := by decide +kernel
theorem dm_copyAll_0 : decode prog_12_method_97_code 0 = .ok (.aload_n 0, 1) := by decide +kernel
theorem dm_copyAll_1 : decode prog_12_method_97_code 1 = .ok (.iload_n 1, 1) := by decide +kernel
theorem dm_copyAll_2 : decode prog_12_method_97_code 2 = .ok (.iload_n 2, 1) := by decide +kernel
theorem dm_copyAll_3 : decode prog_12_method_97_code 3 = .ok (.invokevirtual 209, 3) := by decide +kernel
theorem dm_copyAll_6 : decode prog_12_method_97_code 6 = .ok (.iconst 0, 1) := by decide +kernel
theorem dm_copyAll_7 : decode prog_12_method_97_code 7 = .ok (.istore 5, 2) := by decide +kernel
theorem dm_copyAll_9 : decode prog_12_method_97_code 9 = .ok (.iload 5, 2) := by decide +kernel
theorem dm_copyAll_11 : decode prog_12_method_97_code 11 = .ok (.bipush 6, 2) := by decide +kernel
theorem dm_copyAll_13 : decode prog_12_method_97_code 13 = .ok (.if_icmp .ge 26, 3) := by decide +kernel
theorem dm_copyAll_16 : decode prog_12_method_97_code 16 = .ok (.aload_n 0, 1) := by decide +kernel
theorem dm_copyAll_17 : decode prog_12_method_97_code 17 = .ok (.iload_n 3, 1) := by decide +kernel
theorem dm_copyAll_18 : decode prog_12_method_97_code 18 = .ok (.iconst 5, 1) := by decide +kernel
theorem dm_copyAll_19 : decode prog_12_method_97_code 19 = .ok (.iload 5, 2) := by decide +kernel
theorem dm_copyAll_21 : decode prog_12_method_97_code 21 = .ok (.imul, 1) := by decide +kernel
theorem dm_copyAll_22 : decode prog_12_method_97_code 22 = .ok (.iadd, 1) := by decide +kernel
theorem dm_copyAll_23 : decode prog_12_method_97_code 23 = .ok (.iload 4, 2) := by decide +kernel
theorem dm_copyAll_25 : decode prog_12_method_97_code 25 = .ok (.iconst 5, 1) := by decide +kernel
theorem dm_copyAll_26 : decode prog_12_method_97_code 26 = .ok (.iload 5, 2) := by decide +kernel
theorem dm_copyAll_28 : decode prog_12_method_97_code 28 = .ok (.imul, 1) := by decide +kernel
theorem dm_copyAll_29 : decode prog_12_method_97_code 29 = .ok (.iadd, 1) := by decide +kernel
theorem dm_copyAll_30 : decode prog_12_method_97_code 30 = .ok (.invokevirtual 209, 3) := by decide +kernel
theorem dm_copyAll_33 : decode prog_12_method_97_code 33 = .ok (.iinc 5 1, 3) := by decide +kernel
theorem dm_copyAll_36 : decode prog_12_method_97_code 36 = .ok (.goto (-27), 3) := by decide +kernel
theorem dm_copyAll_39 : decode prog_12_method_97_code 39 = .ok (.return_, 1) := by decide +kernel
theorem dm_image_0 : decode prog_12_method_98_code 0 = .ok (.iload_n 1, 1) := by decide +kernel
theorem dm_image_1 : decode prog_12_method_98_code 1 = .ok (.i2l, 1) := by decide +kernel
theorem dm_image_2 : decode prog_12_method_98_code 2 = .ok (.lconst 0, 1) := by decide +kernel
theorem dm_image_3 : decode prog_12_method_98_code 3 = .ok (.lconst 1, 1) := by decide +kernel
theorem dm_image_4 : decode prog_12_method_98_code 4 = .ok (.invokestatic 126, 3) := by decide +kernel
theorem dm_image_7 : decode prog_12_method_98_code 7 = .ok (.ifCond .ne 10, 3) := by decide +kernel
theorem dm_image_10 : decode prog_12_method_98_code 10 = .ok (.aload_n 0, 1) := by decide +kernel
theorem dm_image_11 : decode prog_12_method_98_code 11 = .ok (.bipush (-2), 2) := by decide +kernel
theorem dm_image_13 : decode prog_12_method_98_code 13 = .ok (.invokevirtual 142, 3) := by decide +kernel
theorem dm_image_16 : decode prog_12_method_98_code 16 = .ok (.ireturn, 1) := by decide +kernel
theorem dm_image_17 : decode prog_12_method_98_code 17 = .ok (.iconst 0, 1) := by decide +kernel
theorem dm_image_18 : decode prog_12_method_98_code 18 = .ok (.istore_n 2, 1) := by decide +kernel
theorem dm_image_19 : decode prog_12_method_98_code 19 = .ok (.iload_n 2, 1) := by decide +kernel
theorem dm_image_20 : decode prog_12_method_98_code 20 = .ok (.bipush 81, 2) := by decide +kernel
theorem dm_image_22 : decode prog_12_method_98_code 22 = .ok (.if_icmp .ge 26, 3) := by decide +kernel
theorem dm_image_25 : decode prog_12_method_98_code 25 = .ok (.aload_n 0, 1) := by decide +kernel
theorem dm_image_26 : decode prog_12_method_98_code 26 = .ok (.getfield 13, 3) := by decide +kernel
theorem dm_image_29 : decode prog_12_method_98_code 29 = .ok (.bipush 81, 2) := by decide +kernel
theorem dm_image_31 : decode prog_12_method_98_code 31 = .ok (.iload_n 1, 1) := by decide +kernel
theorem dm_image_32 : decode prog_12_method_98_code 32 = .ok (.imul, 1) := by decide +kernel
theorem dm_image_33 : decode prog_12_method_98_code 33 = .ok (.iload_n 2, 1) := by decide +kernel
theorem dm_image_34 : decode prog_12_method_98_code 34 = .ok (.iadd, 1) := by decide +kernel
theorem dm_image_35 : decode prog_12_method_98_code 35 = .ok (.aload_n 0, 1) := by decide +kernel
theorem dm_image_36 : decode prog_12_method_98_code 36 = .ok (.getfield 7, 3) := by decide +kernel
theorem dm_image_39 : decode prog_12_method_98_code 39 = .ok (.iload_n 2, 1) := by decide +kernel
theorem dm_image_40 : decode prog_12_method_98_code 40 = .ok (.iaload, 1) := by decide +kernel
theorem dm_image_41 : decode prog_12_method_98_code 41 = .ok (.iastore, 1) := by decide +kernel
theorem dm_image_42 : decode prog_12_method_98_code 42 = .ok (.iinc 2 1, 3) := by decide +kernel
theorem dm_image_45 : decode prog_12_method_98_code 45 = .ok (.goto (-26), 3) := by decide +kernel
theorem dm_image_48 : decode prog_12_method_98_code 48 = .ok (.aload_n 0, 1) := by decide +kernel
theorem dm_image_49 : decode prog_12_method_98_code 49 = .ok (.bipush 54, 2) := by decide +kernel
theorem dm_image_51 : decode prog_12_method_98_code 51 = .ok (.bipush 35, 2) := by decide +kernel
theorem dm_image_53 : decode prog_12_method_98_code 53 = .ok (.iload_n 1, 1) := by decide +kernel
theorem dm_image_54 : decode prog_12_method_98_code 54 = .ok (.imul, 1) := by decide +kernel
theorem dm_image_55 : decode prog_12_method_98_code 55 = .ok (.iadd, 1) := by decide +kernel
theorem dm_image_56 : decode prog_12_method_98_code 56 = .ok (.bipush 19, 2) := by decide +kernel
theorem dm_image_58 : decode prog_12_method_98_code 58 = .ok (.bipush 54, 2) := by decide +kernel
theorem dm_image_60 : decode prog_12_method_98_code 60 = .ok (.bipush 35, 2) := by decide +kernel
theorem dm_image_62 : decode prog_12_method_98_code 62 = .ok (.iload_n 1, 1) := by decide +kernel
theorem dm_image_63 : decode prog_12_method_98_code 63 = .ok (.imul, 1) := by decide +kernel
theorem dm_image_64 : decode prog_12_method_98_code 64 = .ok (.iadd, 1) := by decide +kernel
theorem dm_image_65 : decode prog_12_method_98_code 65 = .ok (.iconst 5, 1) := by decide +kernel
theorem dm_image_66 : decode prog_12_method_98_code 66 = .ok (.iadd, 1) := by decide +kernel
theorem dm_image_67 : decode prog_12_method_98_code 67 = .ok (.bipush 24, 2) := by decide +kernel
theorem dm_image_69 : decode prog_12_method_98_code 69 = .ok (.invokevirtual 359, 3) := by decide +kernel
theorem dm_image_72 : decode prog_12_method_98_code 72 = .ok (.aload_n 0, 1) := by decide +kernel
theorem dm_image_73 : decode prog_12_method_98_code 73 = .ok (.getfield 16, 3) := by decide +kernel
theorem dm_image_76 : decode prog_12_method_98_code 76 = .ok (.iload_n 1, 1) := by decide +kernel
theorem dm_image_77 : decode prog_12_method_98_code 77 = .ok (.iconst 1, 1) := by decide +kernel
theorem dm_image_78 : decode prog_12_method_98_code 78 = .ok (.bastore, 1) := by decide +kernel
theorem dm_image_79 : decode prog_12_method_98_code 79 = .ok (.iconst 1, 1) := by decide +kernel
theorem dm_image_80 : decode prog_12_method_98_code 80 = .ok (.ireturn, 1) := by decide +kernel
theorem dm_from_0 : decode prog_12_method_99_code 0 = .ok (.iload_n 1, 1) := by decide +kernel
theorem dm_from_1 : decode prog_12_method_99_code 1 = .ok (.i2l, 1) := by decide +kernel
theorem dm_from_2 : decode prog_12_method_99_code 2 = .ok (.lconst 0, 1) := by decide +kernel
theorem dm_from_3 : decode prog_12_method_99_code 3 = .ok (.lconst 1, 1) := by decide +kernel
theorem dm_from_4 : decode prog_12_method_99_code 4 = .ok (.invokestatic 126, 3) := by decide +kernel
theorem dm_from_7 : decode prog_12_method_99_code 7 = .ok (.ifCond .ne 10, 3) := by decide +kernel
theorem dm_from_10 : decode prog_12_method_99_code 10 = .ok (.aload_n 0, 1) := by decide +kernel
theorem dm_from_11 : decode prog_12_method_99_code 11 = .ok (.bipush (-2), 2) := by decide +kernel
theorem dm_from_13 : decode prog_12_method_99_code 13 = .ok (.invokevirtual 142, 3) := by decide +kernel
theorem dm_from_16 : decode prog_12_method_99_code 16 = .ok (.ireturn, 1) := by decide +kernel
theorem dm_from_17 : decode prog_12_method_99_code 17 = .ok (.aload_n 0, 1) := by decide +kernel
theorem dm_from_18 : decode prog_12_method_99_code 18 = .ok (.getfield 16, 3) := by decide +kernel
theorem dm_from_21 : decode prog_12_method_99_code 21 = .ok (.iload_n 1, 1) := by decide +kernel
theorem dm_from_22 : decode prog_12_method_99_code 22 = .ok (.baload, 1) := by decide +kernel
theorem dm_from_23 : decode prog_12_method_99_code 23 = .ok (.ifCond .ne 8, 3) := by decide +kernel
theorem dm_from_26 : decode prog_12_method_99_code 26 = .ok (.aload_n 0, 1) := by decide +kernel
theorem dm_from_27 : decode prog_12_method_99_code 27 = .ok (.invokevirtual 206, 3) := by decide +kernel
theorem dm_from_30 : decode prog_12_method_99_code 30 = .ok (.ireturn, 1) := by decide +kernel
theorem dm_from_31 : decode prog_12_method_99_code 31 = .ok (.iconst 0, 1) := by decide +kernel
theorem dm_from_32 : decode prog_12_method_99_code 32 = .ok (.istore_n 2, 1) := by decide +kernel
theorem dm_from_33 : decode prog_12_method_99_code 33 = .ok (.iload_n 2, 1) := by decide +kernel
theorem dm_from_34 : decode prog_12_method_99_code 34 = .ok (.bipush 81, 2) := by decide +kernel
theorem dm_from_36 : decode prog_12_method_99_code 36 = .ok (.if_icmp .ge 26, 3) := by decide +kernel
theorem dm_from_39 : decode prog_12_method_99_code 39 = .ok (.aload_n 0, 1) := by decide +kernel
theorem dm_from_40 : decode prog_12_method_99_code 40 = .ok (.getfield 7, 3) := by decide +kernel
theorem dm_from_43 : decode prog_12_method_99_code 43 = .ok (.iload_n 2, 1) := by decide +kernel
theorem dm_from_44 : decode prog_12_method_99_code 44 = .ok (.aload_n 0, 1) := by decide +kernel
theorem dm_from_45 : decode prog_12_method_99_code 45 = .ok (.getfield 13, 3) := by decide +kernel
theorem dm_from_48 : decode prog_12_method_99_code 48 = .ok (.bipush 81, 2) := by decide +kernel
theorem dm_from_50 : decode prog_12_method_99_code 50 = .ok (.iload_n 1, 1) := by decide +kernel
theorem dm_from_51 : decode prog_12_method_99_code 51 = .ok (.imul, 1) := by decide +kernel
theorem dm_from_52 : decode prog_12_method_99_code 52 = .ok (.iload_n 2, 1) := by decide +kernel
theorem dm_from_53 : decode prog_12_method_99_code 53 = .ok (.iadd, 1) := by decide +kernel
theorem dm_from_54 : decode prog_12_method_99_code 54 = .ok (.iaload, 1) := by decide +kernel
theorem dm_from_55 : decode prog_12_method_99_code 55 = .ok (.iastore, 1) := by decide +kernel
theorem dm_from_56 : decode prog_12_method_99_code 56 = .ok (.iinc 2 1, 3) := by decide +kernel
theorem dm_from_59 : decode prog_12_method_99_code 59 = .ok (.goto (-26), 3) := by decide +kernel
theorem dm_from_62 : decode prog_12_method_99_code 62 = .ok (.aload_n 0, 1) := by decide +kernel
theorem dm_from_63 : decode prog_12_method_99_code 63 = .ok (.bipush 19, 2) := by decide +kernel
theorem dm_from_65 : decode prog_12_method_99_code 65 = .ok (.bipush 54, 2) := by decide +kernel
theorem dm_from_67 : decode prog_12_method_99_code 67 = .ok (.bipush 35, 2) := by decide +kernel
theorem dm_from_69 : decode prog_12_method_99_code 69 = .ok (.iload_n 1, 1) := by decide +kernel
theorem dm_from_70 : decode prog_12_method_99_code 70 = .ok (.imul, 1) := by decide +kernel
theorem dm_from_71 : decode prog_12_method_99_code 71 = .ok (.iadd, 1) := by decide +kernel
theorem dm_from_72 : decode prog_12_method_99_code 72 = .ok (.bipush 24, 2) := by decide +kernel
theorem dm_from_74 : decode prog_12_method_99_code 74 = .ok (.bipush 54, 2) := by decide +kernel
theorem dm_from_76 : decode prog_12_method_99_code 76 = .ok (.bipush 35, 2) := by decide +kernel
theorem dm_from_78 : decode prog_12_method_99_code 78 = .ok (.iload_n 1, 1) := by decide +kernel
theorem dm_from_79 : decode prog_12_method_99_code 79 = .ok (.imul, 1) := by decide +kernel
theorem dm_from_80 : decode prog_12_method_99_code 80 = .ok (.iadd, 1) := by decide +kernel
theorem dm_from_81 : decode prog_12_method_99_code 81 = .ok (.iconst 5, 1) := by decide +kernel
theorem dm_from_82 : decode prog_12_method_99_code 82 = .ok (.iadd, 1) := by decide +kernel
theorem dm_from_83 : decode prog_12_method_99_code 83 = .ok (.invokevirtual 359, 3) := by decide +kernel
theorem dm_from_86 : decode prog_12_method_99_code 86 = .ok (.iconst 1, 1) := by decide +kernel
theorem dm_from_87 : decode prog_12_method_99_code 87 = .ok (.ireturn, 1) := by decide +kernel
theorem dm_status_0 : decode prog_12_method_100_code 0 = .ok (.iload_n 1, 1) := by decide +kernel
theorem dm_status_1 : decode prog_12_method_100_code 1 = .ok (.i2l, 1) := by decide +kernel
theorem dm_status_2 : decode prog_12_method_100_code 2 = .ok (.lconst 0, 1) := by decide +kernel
theorem dm_status_3 : decode prog_12_method_100_code 3 = .ok (.ldc2_w 82, 3) := by decide +kernel
theorem dm_status_6 : decode prog_12_method_100_code 6 = .ok (.invokestatic 126, 3) := by decide +kernel
theorem dm_status_9 : decode prog_12_method_100_code 9 = .ok (.ifCond .eq 12, 3) := by decide +kernel
theorem dm_status_12 : decode prog_12_method_100_code 12 = .ok (.aload_n 0, 1) := by decide +kernel
theorem dm_status_13 : decode prog_12_method_100_code 13 = .ok (.getfield 20, 3) := by decide +kernel
theorem dm_status_16 : decode prog_12_method_100_code 16 = .ok (.iload_n 1, 1) := by decide +kernel
theorem dm_status_17 : decode prog_12_method_100_code 17 = .ok (.iaload, 1) := by decide +kernel
theorem dm_status_18 : decode prog_12_method_100_code 18 = .ok (.goto 8, 3) := by decide +kernel
theorem dm_status_21 : decode prog_12_method_100_code 21 = .ok (.aload_n 0, 1) := by decide +kernel
theorem dm_status_22 : decode prog_12_method_100_code 22 = .ok (.iconst (-1), 1) := by decide +kernel
theorem dm_status_23 : decode prog_12_method_100_code 23 = .ok (.invokevirtual 142, 3) := by decide +kernel
theorem dm_status_26 : decode prog_12_method_100_code 26 = .ok (.ireturn, 1) := by decide +kernel
theorem dm_counted_0 : decode prog_12_method_101_code 0 = .ok (.iload_n 1, 1) := by decide +kernel
theorem dm_counted_1 : decode prog_12_method_101_code 1 = .ok (.ifCond .ne 10, 3) := by decide +kernel
theorem dm_counted_4 : decode prog_12_method_101_code 4 = .ok (.aload_n 0, 1) := by decide +kernel
theorem dm_counted_5 : decode prog_12_method_101_code 5 = .ok (.invokevirtual 122, 3) := by decide +kernel
theorem dm_counted_8 : decode prog_12_method_101_code 8 = .ok (.goto 64, 3) := by decide +kernel
theorem dm_counted_11 : decode prog_12_method_101_code 11 = .ok (.iload_n 1, 1) := by decide +kernel
theorem dm_counted_12 : decode prog_12_method_101_code 12 = .ok (.iconst 1, 1) := by decide +kernel
theorem dm_counted_13 : decode prog_12_method_101_code 13 = .ok (.if_icmp .ne 10, 3) := by decide +kernel
theorem dm_counted_16 : decode prog_12_method_101_code 16 = .ok (.aload_n 0, 1) := by decide +kernel
theorem dm_counted_17 : decode prog_12_method_101_code 17 = .ok (.invokevirtual 130, 3) := by decide +kernel
theorem dm_counted_20 : decode prog_12_method_101_code 20 = .ok (.goto 52, 3) := by decide +kernel
theorem dm_counted_23 : decode prog_12_method_101_code 23 = .ok (.iload_n 1, 1) := by decide +kernel
theorem dm_counted_24 : decode prog_12_method_101_code 24 = .ok (.iconst 2, 1) := by decide +kernel
theorem dm_counted_25 : decode prog_12_method_101_code 25 = .ok (.if_icmp .ne 13, 3) := by decide +kernel
theorem dm_counted_28 : decode prog_12_method_101_code 28 = .ok (.aload_n 0, 1) := by decide +kernel
theorem dm_counted_29 : decode prog_12_method_101_code 29 = .ok (.getfield 7, 3) := by decide +kernel
theorem dm_counted_32 : decode prog_12_method_101_code 32 = .ok (.bipush 78, 2) := by decide +kernel
theorem dm_counted_34 : decode prog_12_method_101_code 34 = .ok (.iaload, 1) := by decide +kernel
theorem dm_counted_35 : decode prog_12_method_101_code 35 = .ok (.goto 37, 3) := by decide +kernel
theorem dm_counted_38 : decode prog_12_method_101_code 38 = .ok (.iload_n 1, 1) := by decide +kernel
theorem dm_counted_39 : decode prog_12_method_101_code 39 = .ok (.iconst 3, 1) := by decide +kernel
theorem dm_counted_40 : decode prog_12_method_101_code 40 = .ok (.if_icmp .ne 13, 3) := by decide +kernel
theorem dm_counted_43 : decode prog_12_method_101_code 43 = .ok (.aload_n 0, 1) := by decide +kernel
theorem dm_counted_44 : decode prog_12_method_101_code 44 = .ok (.getfield 7, 3) := by decide +kernel
theorem dm_counted_47 : decode prog_12_method_101_code 47 = .ok (.bipush 79, 2) := by decide +kernel
theorem dm_counted_49 : decode prog_12_method_101_code 49 = .ok (.iaload, 1) := by decide +kernel
theorem dm_counted_50 : decode prog_12_method_101_code 50 = .ok (.goto 22, 3) := by decide +kernel
theorem dm_counted_53 : decode prog_12_method_101_code 53 = .ok (.iload_n 1, 1) := by decide +kernel
theorem dm_counted_54 : decode prog_12_method_101_code 54 = .ok (.iconst 4, 1) := by decide +kernel
theorem dm_counted_55 : decode prog_12_method_101_code 55 = .ok (.if_icmp .ne 10, 3) := by decide +kernel
theorem dm_counted_58 : decode prog_12_method_101_code 58 = .ok (.aload_n 0, 1) := by decide +kernel
theorem dm_counted_59 : decode prog_12_method_101_code 59 = .ok (.getfield 288, 3) := by decide +kernel
theorem dm_counted_62 : decode prog_12_method_101_code 62 = .ok (.goto 10, 3) := by decide +kernel
theorem dm_counted_65 : decode prog_12_method_101_code 65 = .ok (.aload_n 0, 1) := by decide +kernel
theorem dm_counted_66 : decode prog_12_method_101_code 66 = .ok (.getfield 7, 3) := by decide +kernel
theorem dm_counted_69 : decode prog_12_method_101_code 69 = .ok (.bipush 80, 2) := by decide +kernel
theorem dm_counted_71 : decode prog_12_method_101_code 71 = .ok (.iaload, 1) := by decide +kernel
theorem dm_counted_72 : decode prog_12_method_101_code 72 = .ok (.ireturn, 1) := by decide +kernel
theorem dm_count_0 : decode prog_12_method_102_code 0 = .ok (.iload_n 1, 1) := by decide +kernel
theorem dm_count_1 : decode prog_12_method_102_code 1 = .ok (.i2l, 1) := by decide +kernel
theorem dm_count_2 : decode prog_12_method_102_code 2 = .ok (.lconst 0, 1) := by decide +kernel
theorem dm_count_3 : decode prog_12_method_102_code 3 = .ok (.ldc2_w 363, 3) := by decide +kernel
theorem dm_count_6 : decode prog_12_method_102_code 6 = .ok (.invokestatic 126, 3) := by decide +kernel
theorem dm_count_9 : decode prog_12_method_102_code 9 = .ok (.ifCond .eq 11, 3) := by decide +kernel
theorem dm_count_12 : decode prog_12_method_102_code 12 = .ok (.aload_n 0, 1) := by decide +kernel
theorem dm_count_13 : decode prog_12_method_102_code 13 = .ok (.iload_n 1, 1) := by decide +kernel
theorem dm_count_14 : decode prog_12_method_102_code 14 = .ok (.invokevirtual 365, 3) := by decide +kernel
theorem dm_count_17 : decode prog_12_method_102_code 17 = .ok (.goto 9, 3) := by decide +kernel
theorem dm_count_20 : decode prog_12_method_102_code 20 = .ok (.aload_n 0, 1) := by decide +kernel
theorem dm_count_21 : decode prog_12_method_102_code 21 = .ok (.bipush (-2), 2) := by decide +kernel
theorem dm_count_23 : decode prog_12_method_102_code 23 = .ok (.invokevirtual 142, 3) := by decide +kernel
theorem dm_count_26 : decode prog_12_method_102_code 26 = .ok (.ireturn, 1) := by decide +kernel
theorem dm_sums_0 : decode prog_12_method_103_code 0 = .ok (.lload_n 1, 1) := by decide +kernel
theorem dm_sums_1 : decode prog_12_method_103_code 1 = .ok (.lstore 5, 2) := by decide +kernel
theorem dm_sums_3 : decode prog_12_method_103_code 3 = .ok (.iconst 0, 1) := by decide +kernel
theorem dm_sums_4 : decode prog_12_method_103_code 4 = .ok (.istore 7, 2) := by decide +kernel
theorem dm_sums_6 : decode prog_12_method_103_code 6 = .ok (.iload 7, 2) := by decide +kernel
theorem dm_sums_8 : decode prog_12_method_103_code 8 = .ok (.iload 4, 2) := by decide +kernel
theorem dm_sums_10 : decode prog_12_method_103_code 10 = .ok (.if_icmp .ge 28, 3) := by decide +kernel
theorem dm_sums_13 : decode prog_12_method_103_code 13 = .ok (.ldc2_w 368, 3) := by decide +kernel
theorem dm_sums_16 : decode prog_12_method_103_code 16 = .ok (.lload 5, 2) := by decide +kernel
theorem dm_sums_18 : decode prog_12_method_103_code 18 = .ok (.lmul, 1) := by decide +kernel
theorem dm_sums_19 : decode prog_12_method_103_code 19 = .ok (.aload_n 0, 1) := by decide +kernel
theorem dm_sums_20 : decode prog_12_method_103_code 20 = .ok (.getfield 7, 3) := by decide +kernel
theorem dm_sums_23 : decode prog_12_method_103_code 23 = .ok (.iload_n 3, 1) := by decide +kernel
theorem dm_sums_24 : decode prog_12_method_103_code 24 = .ok (.iload 7, 2) := by decide +kernel
theorem dm_sums_26 : decode prog_12_method_103_code 26 = .ok (.iadd, 1) := by decide +kernel
theorem dm_sums_27 : decode prog_12_method_103_code 27 = .ok (.iaload, 1) := by decide +kernel
theorem dm_sums_28 : decode prog_12_method_103_code 28 = .ok (.i2l, 1) := by decide +kernel
theorem dm_sums_29 : decode prog_12_method_103_code 29 = .ok (.ladd, 1) := by decide +kernel
theorem dm_sums_30 : decode prog_12_method_103_code 30 = .ok (.lstore 5, 2) := by decide +kernel
theorem dm_sums_32 : decode prog_12_method_103_code 32 = .ok (.iinc 7 1, 3) := by decide +kernel
theorem dm_sums_35 : decode prog_12_method_103_code 35 = .ok (.goto (-29), 3) := by decide +kernel
theorem dm_sums_38 : decode prog_12_method_103_code 38 = .ok (.lload 5, 2) := by decide +kernel
theorem dm_sums_40 : decode prog_12_method_103_code 40 = .ok (.lreturn, 1) := by decide +kernel
theorem dm_digest_0 : decode prog_12_method_104_code 0 = .ok (.ldc2_w 370, 3) := by decide +kernel
theorem dm_digest_3 : decode prog_12_method_104_code 3 = .ok (.lstore_n 1, 1) := by decide +kernel
theorem dm_digest_4 : decode prog_12_method_104_code 4 = .ok (.iconst 0, 1) := by decide +kernel
theorem dm_digest_5 : decode prog_12_method_104_code 5 = .ok (.istore_n 3, 1) := by decide +kernel
theorem dm_digest_6 : decode prog_12_method_104_code 6 = .ok (.iload_n 3, 1) := by decide +kernel
theorem dm_digest_7 : decode prog_12_method_104_code 7 = .ok (.bipush 6, 2) := by decide +kernel
theorem dm_digest_9 : decode prog_12_method_104_code 9 = .ok (.if_icmp .ge 22, 3) := by decide +kernel
theorem dm_digest_12 : decode prog_12_method_104_code 12 = .ok (.ldc2_w 368, 3) := by decide +kernel
theorem dm_digest_15 : decode prog_12_method_104_code 15 = .ok (.lload_n 1, 1) := by decide +kernel
theorem dm_digest_16 : decode prog_12_method_104_code 16 = .ok (.lmul, 1) := by decide +kernel
theorem dm_digest_17 : decode prog_12_method_104_code 17 = .ok (.aload_n 0, 1) := by decide +kernel
theorem dm_digest_18 : decode prog_12_method_104_code 18 = .ok (.iload_n 3, 1) := by decide +kernel
theorem dm_digest_19 : decode prog_12_method_104_code 19 = .ok (.invokevirtual 365, 3) := by decide +kernel
theorem dm_digest_22 : decode prog_12_method_104_code 22 = .ok (.i2l, 1) := by decide +kernel
theorem dm_digest_23 : decode prog_12_method_104_code 23 = .ok (.ladd, 1) := by decide +kernel
theorem dm_digest_24 : decode prog_12_method_104_code 24 = .ok (.lstore_n 1, 1) := by decide +kernel
theorem dm_digest_25 : decode prog_12_method_104_code 25 = .ok (.iinc 3 1, 3) := by decide +kernel
theorem dm_digest_28 : decode prog_12_method_104_code 28 = .ok (.goto (-22), 3) := by decide +kernel
theorem dm_digest_31 : decode prog_12_method_104_code 31 = .ok (.iconst 0, 1) := by decide +kernel
theorem dm_digest_32 : decode prog_12_method_104_code 32 = .ok (.istore_n 3, 1) := by decide +kernel
theorem dm_digest_33 : decode prog_12_method_104_code 33 = .ok (.iload_n 3, 1) := by decide +kernel
theorem dm_digest_34 : decode prog_12_method_104_code 34 = .ok (.aload_n 0, 1) := by decide +kernel
theorem dm_digest_35 : decode prog_12_method_104_code 35 = .ok (.invokevirtual 122, 3) := by decide +kernel
theorem dm_digest_38 : decode prog_12_method_104_code 38 = .ok (.if_icmp .ge 36, 3) := by decide +kernel
theorem dm_digest_41 : decode prog_12_method_104_code 41 = .ok (.aload_n 0, 1) := by decide +kernel
theorem dm_digest_42 : decode prog_12_method_104_code 42 = .ok (.lload_n 1, 1) := by decide +kernel
theorem dm_digest_43 : decode prog_12_method_104_code 43 = .ok (.iconst 0, 1) := by decide +kernel
theorem dm_digest_44 : decode prog_12_method_104_code 44 = .ok (.iconst 4, 1) := by decide +kernel
theorem dm_digest_45 : decode prog_12_method_104_code 45 = .ok (.iload_n 3, 1) := by decide +kernel
theorem dm_digest_46 : decode prog_12_method_104_code 46 = .ok (.imul, 1) := by decide +kernel
theorem dm_digest_47 : decode prog_12_method_104_code 47 = .ok (.iadd, 1) := by decide +kernel
theorem dm_digest_48 : decode prog_12_method_104_code 48 = .ok (.iconst 4, 1) := by decide +kernel
theorem dm_digest_49 : decode prog_12_method_104_code 49 = .ok (.invokevirtual 372, 3) := by decide +kernel
theorem dm_digest_52 : decode prog_12_method_104_code 52 = .ok (.lstore_n 1, 1) := by decide +kernel
theorem dm_digest_53 : decode prog_12_method_104_code 53 = .ok (.aload_n 0, 1) := by decide +kernel
theorem dm_digest_54 : decode prog_12_method_104_code 54 = .ok (.lload_n 1, 1) := by decide +kernel
theorem dm_digest_55 : decode prog_12_method_104_code 55 = .ok (.bipush 16, 2) := by decide +kernel
theorem dm_digest_57 : decode prog_12_method_104_code 57 = .ok (.bipush 8, 2) := by decide +kernel
theorem dm_digest_59 : decode prog_12_method_104_code 59 = .ok (.iload_n 3, 1) := by decide +kernel
theorem dm_digest_60 : decode prog_12_method_104_code 60 = .ok (.imul, 1) := by decide +kernel
theorem dm_digest_61 : decode prog_12_method_104_code 61 = .ok (.iadd, 1) := by decide +kernel
theorem dm_digest_62 : decode prog_12_method_104_code 62 = .ok (.bipush 8, 2) := by decide +kernel
theorem dm_digest_64 : decode prog_12_method_104_code 64 = .ok (.invokevirtual 372, 3) := by decide +kernel
theorem dm_digest_67 : decode prog_12_method_104_code 67 = .ok (.lstore_n 1, 1) := by decide +kernel
theorem dm_digest_68 : decode prog_12_method_104_code 68 = .ok (.iinc 3 1, 3) := by decide +kernel
theorem dm_digest_71 : decode prog_12_method_104_code 71 = .ok (.goto (-38), 3) := by decide +kernel
theorem dm_digest_74 : decode prog_12_method_104_code 74 = .ok (.aload_n 0, 1) := by decide +kernel
theorem dm_digest_75 : decode prog_12_method_104_code 75 = .ok (.lload_n 1, 1) := by decide +kernel
theorem dm_digest_76 : decode prog_12_method_104_code 76 = .ok (.bipush 48, 2) := by decide +kernel
theorem dm_digest_78 : decode prog_12_method_104_code 78 = .ok (.aload_n 0, 1) := by decide +kernel
theorem dm_digest_79 : decode prog_12_method_104_code 79 = .ok (.invokevirtual 130, 3) := by decide +kernel
theorem dm_digest_82 : decode prog_12_method_104_code 82 = .ok (.invokevirtual 372, 3) := by decide +kernel
theorem dm_digest_85 : decode prog_12_method_104_code 85 = .ok (.lstore_n 1, 1) := by decide +kernel
theorem dm_digest_86 : decode prog_12_method_104_code 86 = .ok (.aload_n 0, 1) := by decide +kernel
theorem dm_digest_87 : decode prog_12_method_104_code 87 = .ok (.lload_n 1, 1) := by decide +kernel
theorem dm_digest_88 : decode prog_12_method_104_code 88 = .ok (.bipush 52, 2) := by decide +kernel
theorem dm_digest_90 : decode prog_12_method_104_code 90 = .ok (.iconst 4, 1) := by decide +kernel
theorem dm_digest_91 : decode prog_12_method_104_code 91 = .ok (.aload_n 0, 1) := by decide +kernel
theorem dm_digest_92 : decode prog_12_method_104_code 92 = .ok (.getfield 7, 3) := by decide +kernel
theorem dm_digest_95 : decode prog_12_method_104_code 95 = .ok (.bipush 80, 2) := by decide +kernel
theorem dm_digest_97 : decode prog_12_method_104_code 97 = .ok (.iaload, 1) := by decide +kernel
theorem dm_digest_98 : decode prog_12_method_104_code 98 = .ok (.imul, 1) := by decide +kernel
theorem dm_digest_99 : decode prog_12_method_104_code 99 = .ok (.invokevirtual 372, 3) := by decide +kernel
theorem dm_digest_102 : decode prog_12_method_104_code 102 = .ok (.lstore_n 1, 1) := by decide +kernel
theorem dm_digest_103 : decode prog_12_method_104_code 103 = .ok (.ldc2_w 368, 3) := by decide +kernel
theorem dm_digest_106 : decode prog_12_method_104_code 106 = .ok (.ldc2_w 368, 3) := by decide +kernel
theorem dm_digest_109 : decode prog_12_method_104_code 109 = .ok (.ldc2_w 368, 3) := by decide +kernel
theorem dm_digest_112 : decode prog_12_method_104_code 112 = .ok (.lload_n 1, 1) := by decide +kernel
theorem dm_digest_113 : decode prog_12_method_104_code 113 = .ok (.lmul, 1) := by decide +kernel
theorem dm_digest_114 : decode prog_12_method_104_code 114 = .ok (.aload_n 0, 1) := by decide +kernel
theorem dm_digest_115 : decode prog_12_method_104_code 115 = .ok (.getfield 108, 3) := by decide +kernel
theorem dm_digest_118 : decode prog_12_method_104_code 118 = .ok (.i2l, 1) := by decide +kernel
theorem dm_digest_119 : decode prog_12_method_104_code 119 = .ok (.ladd, 1) := by decide +kernel
theorem dm_digest_120 : decode prog_12_method_104_code 120 = .ok (.lmul, 1) := by decide +kernel
theorem dm_digest_121 : decode prog_12_method_104_code 121 = .ok (.aload_n 0, 1) := by decide +kernel
theorem dm_digest_122 : decode prog_12_method_104_code 122 = .ok (.getfield 27, 3) := by decide +kernel
theorem dm_digest_125 : decode prog_12_method_104_code 125 = .ok (.iconst 0, 1) := by decide +kernel
theorem dm_digest_126 : decode prog_12_method_104_code 126 = .ok (.iaload, 1) := by decide +kernel
theorem dm_digest_127 : decode prog_12_method_104_code 127 = .ok (.i2l, 1) := by decide +kernel
theorem dm_digest_128 : decode prog_12_method_104_code 128 = .ok (.ladd, 1) := by decide +kernel
theorem dm_digest_129 : decode prog_12_method_104_code 129 = .ok (.lmul, 1) := by decide +kernel
theorem dm_digest_130 : decode prog_12_method_104_code 130 = .ok (.aload_n 0, 1) := by decide +kernel
theorem dm_digest_131 : decode prog_12_method_104_code 131 = .ok (.getfield 27, 3) := by decide +kernel
theorem dm_digest_134 : decode prog_12_method_104_code 134 = .ok (.iconst 1, 1) := by decide +kernel
theorem dm_digest_135 : decode prog_12_method_104_code 135 = .ok (.iaload, 1) := by decide +kernel
theorem dm_digest_136 : decode prog_12_method_104_code 136 = .ok (.i2l, 1) := by decide +kernel
theorem dm_digest_137 : decode prog_12_method_104_code 137 = .ok (.ladd, 1) := by decide +kernel
theorem dm_digest_138 : decode prog_12_method_104_code 138 = .ok (.lstore_n 1, 1) := by decide +kernel
theorem dm_digest_139 : decode prog_12_method_104_code 139 = .ok (.iconst 0, 1) := by decide +kernel
theorem dm_digest_140 : decode prog_12_method_104_code 140 = .ok (.istore_n 3, 1) := by decide +kernel
theorem dm_digest_141 : decode prog_12_method_104_code 141 = .ok (.iload_n 3, 1) := by decide +kernel
theorem dm_digest_142 : decode prog_12_method_104_code 142 = .ok (.iconst 1, 1) := by decide +kernel
theorem dm_digest_143 : decode prog_12_method_104_code 143 = .ok (.if_icmp .gt 48, 3) := by decide +kernel
theorem dm_digest_146 : decode prog_12_method_104_code 146 = .ok (.iconst 0, 1) := by decide +kernel
theorem dm_digest_147 : decode prog_12_method_104_code 147 = .ok (.istore 4, 2) := by decide +kernel
theorem dm_digest_149 : decode prog_12_method_104_code 149 = .ok (.iload 4, 2) := by decide +kernel
theorem dm_digest_151 : decode prog_12_method_104_code 151 = .ok (.aload_n 0, 1) := by decide +kernel
theorem dm_digest_152 : decode prog_12_method_104_code 152 = .ok (.getfield 27, 3) := by decide +kernel
theorem dm_digest_155 : decode prog_12_method_104_code 155 = .ok (.iload_n 3, 1) := by decide +kernel
theorem dm_digest_156 : decode prog_12_method_104_code 156 = .ok (.iaload, 1) := by decide +kernel
theorem dm_digest_157 : decode prog_12_method_104_code 157 = .ok (.if_icmp .ge 28, 3) := by decide +kernel
theorem dm_digest_160 : decode prog_12_method_104_code 160 = .ok (.ldc2_w 368, 3) := by decide +kernel
theorem dm_digest_163 : decode prog_12_method_104_code 163 = .ok (.lload_n 1, 1) := by decide +kernel
theorem dm_digest_164 : decode prog_12_method_104_code 164 = .ok (.lmul, 1) := by decide +kernel
theorem dm_digest_165 : decode prog_12_method_104_code 165 = .ok (.aload_n 0, 1) := by decide +kernel
theorem dm_digest_166 : decode prog_12_method_104_code 166 = .ok (.getfield 23, 3) := by decide +kernel
theorem dm_digest_169 : decode prog_12_method_104_code 169 = .ok (.bipush 64, 2) := by decide +kernel
theorem dm_digest_171 : decode prog_12_method_104_code 171 = .ok (.iload_n 3, 1) := by decide +kernel
theorem dm_digest_172 : decode prog_12_method_104_code 172 = .ok (.imul, 1) := by decide +kernel
theorem dm_digest_173 : decode prog_12_method_104_code 173 = .ok (.iload 4, 2) := by decide +kernel
theorem dm_digest_175 : decode prog_12_method_104_code 175 = .ok (.iadd, 1) := by decide +kernel
theorem dm_digest_176 : decode prog_12_method_104_code 176 = .ok (.laload, 1) := by decide +kernel
theorem dm_digest_177 : decode prog_12_method_104_code 177 = .ok (.ladd, 1) := by decide +kernel
theorem dm_digest_178 : decode prog_12_method_104_code 178 = .ok (.lstore_n 1, 1) := by decide +kernel
theorem dm_digest_179 : decode prog_12_method_104_code 179 = .ok (.iinc 4 1, 3) := by decide +kernel
theorem dm_digest_182 : decode prog_12_method_104_code 182 = .ok (.goto (-33), 3) := by decide +kernel
theorem dm_digest_185 : decode prog_12_method_104_code 185 = .ok (.iinc 3 1, 3) := by decide +kernel
theorem dm_digest_188 : decode prog_12_method_104_code 188 = .ok (.goto (-47), 3) := by decide +kernel
theorem dm_digest_191 : decode prog_12_method_104_code 191 = .ok (.lload_n 1, 1) := by decide +kernel
theorem dm_digest_192 : decode prog_12_method_104_code 192 = .ok (.lreturn, 1) := by decide +kernel
