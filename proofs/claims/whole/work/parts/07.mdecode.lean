theorem dm_in_0 : decode prog_12_method_3_code 0 = .ok (.lload_n 0, 1) := by decide +kernel
theorem dm_in_1 : decode prog_12_method_3_code 1 = .ok (.lload_n 2, 1) := by decide +kernel
theorem dm_in_2 : decode prog_12_method_3_code 2 = .ok (.lcmp, 1) := by decide +kernel
theorem dm_in_3 : decode prog_12_method_3_code 3 = .ok (.ifCond .lt 14, 3) := by decide +kernel
theorem dm_in_6 : decode prog_12_method_3_code 6 = .ok (.lload_n 0, 1) := by decide +kernel
theorem dm_in_7 : decode prog_12_method_3_code 7 = .ok (.lload 4, 2) := by decide +kernel
theorem dm_in_9 : decode prog_12_method_3_code 9 = .ok (.lcmp, 1) := by decide +kernel
theorem dm_in_10 : decode prog_12_method_3_code 10 = .ok (.ifCond .gt 7, 3) := by decide +kernel
theorem dm_in_13 : decode prog_12_method_3_code 13 = .ok (.iconst 1, 1) := by decide +kernel
theorem dm_in_14 : decode prog_12_method_3_code 14 = .ok (.goto 4, 3) := by decide +kernel
theorem dm_in_17 : decode prog_12_method_3_code 17 = .ok (.iconst 0, 1) := by decide +kernel
theorem dm_in_18 : decode prog_12_method_3_code 18 = .ok (.ireturn, 1) := by decide +kernel
theorem dm_bad_0 : decode prog_12_method_4_code 0 = .ok (.aload_n 0, 1) := by decide +kernel
theorem dm_bad_1 : decode prog_12_method_4_code 1 = .ok (.getfield 20, 3) := by decide +kernel
theorem dm_bad_4 : decode prog_12_method_4_code 4 = .ok (.iconst 0, 1) := by decide +kernel
theorem dm_bad_5 : decode prog_12_method_4_code 5 = .ok (.dup2, 1) := by decide +kernel
theorem dm_bad_6 : decode prog_12_method_4_code 6 = .ok (.iaload, 1) := by decide +kernel
theorem dm_bad_7 : decode prog_12_method_4_code 7 = .ok (.iconst 1, 1) := by decide +kernel
theorem dm_bad_8 : decode prog_12_method_4_code 8 = .ok (.iadd, 1) := by decide +kernel
theorem dm_bad_9 : decode prog_12_method_4_code 9 = .ok (.iastore, 1) := by decide +kernel
theorem dm_bad_10 : decode prog_12_method_4_code 10 = .ok (.iload_n 1, 1) := by decide +kernel
theorem dm_bad_11 : decode prog_12_method_4_code 11 = .ok (.ireturn, 1) := by decide +kernel
theorem dm_no_0 : decode prog_12_method_5_code 0 = .ok (.aload_n 0, 1) := by decide +kernel
theorem dm_no_1 : decode prog_12_method_5_code 1 = .ok (.getfield 20, 3) := by decide +kernel
theorem dm_no_4 : decode prog_12_method_5_code 4 = .ok (.iconst 1, 1) := by decide +kernel
theorem dm_no_5 : decode prog_12_method_5_code 5 = .ok (.dup2, 1) := by decide +kernel
theorem dm_no_6 : decode prog_12_method_5_code 6 = .ok (.iaload, 1) := by decide +kernel
theorem dm_no_7 : decode prog_12_method_5_code 7 = .ok (.iconst 1, 1) := by decide +kernel
theorem dm_no_8 : decode prog_12_method_5_code 8 = .ok (.iadd, 1) := by decide +kernel
theorem dm_no_9 : decode prog_12_method_5_code 9 = .ok (.iastore, 1) := by decide +kernel
theorem dm_no_10 : decode prog_12_method_5_code 10 = .ok (.bipush (-3), 2) := by decide +kernel
theorem dm_no_12 : decode prog_12_method_5_code 12 = .ok (.ireturn, 1) := by decide +kernel
theorem dm_full_0 : decode prog_12_method_6_code 0 = .ok (.aload_n 0, 1) := by decide +kernel
theorem dm_full_1 : decode prog_12_method_6_code 1 = .ok (.getfield 20, 3) := by decide +kernel
theorem dm_full_4 : decode prog_12_method_6_code 4 = .ok (.iconst 2, 1) := by decide +kernel
theorem dm_full_5 : decode prog_12_method_6_code 5 = .ok (.dup2, 1) := by decide +kernel
theorem dm_full_6 : decode prog_12_method_6_code 6 = .ok (.iaload, 1) := by decide +kernel
theorem dm_full_7 : decode prog_12_method_6_code 7 = .ok (.iconst 1, 1) := by decide +kernel
theorem dm_full_8 : decode prog_12_method_6_code 8 = .ok (.iadd, 1) := by decide +kernel
theorem dm_full_9 : decode prog_12_method_6_code 9 = .ok (.iastore, 1) := by decide +kernel
theorem dm_full_10 : decode prog_12_method_6_code 10 = .ok (.bipush (-4), 2) := by decide +kernel
theorem dm_full_12 : decode prog_12_method_6_code 12 = .ok (.ireturn, 1) := by decide +kernel
theorem dm_set_0 : decode prog_12_method_7_code 0 = .ok (.lload_n 2, 1) := by decide +kernel
theorem dm_set_1 : decode prog_12_method_7_code 1 = .ok (.lstore 4, 2) := by decide +kernel
theorem dm_set_3 : decode prog_12_method_7_code 3 = .ok (.aload_n 0, 1) := by decide +kernel
theorem dm_set_4 : decode prog_12_method_7_code 4 = .ok (.getfield 27, 3) := by decide +kernel
theorem dm_set_7 : decode prog_12_method_7_code 7 = .ok (.iload_n 1, 1) := by decide +kernel
theorem dm_set_8 : decode prog_12_method_7_code 8 = .ok (.iconst 0, 1) := by decide +kernel
theorem dm_set_9 : decode prog_12_method_7_code 9 = .ok (.iastore, 1) := by decide +kernel
theorem dm_set_10 : decode prog_12_method_7_code 10 = .ok (.lload 4, 2) := by decide +kernel
theorem dm_set_12 : decode prog_12_method_7_code 12 = .ok (.lconst 0, 1) := by decide +kernel
theorem dm_set_13 : decode prog_12_method_7_code 13 = .ok (.lcmp, 1) := by decide +kernel
theorem dm_set_14 : decode prog_12_method_7_code 14 = .ok (.ifCond .le 46, 3) := by decide +kernel
theorem dm_set_17 : decode prog_12_method_7_code 17 = .ok (.aload_n 0, 1) := by decide +kernel
theorem dm_set_18 : decode prog_12_method_7_code 18 = .ok (.getfield 23, 3) := by decide +kernel
theorem dm_set_21 : decode prog_12_method_7_code 21 = .ok (.bipush 64, 2) := by decide +kernel
theorem dm_set_23 : decode prog_12_method_7_code 23 = .ok (.iload_n 1, 1) := by decide +kernel
theorem dm_set_24 : decode prog_12_method_7_code 24 = .ok (.imul, 1) := by decide +kernel
theorem dm_set_25 : decode prog_12_method_7_code 25 = .ok (.aload_n 0, 1) := by decide +kernel
theorem dm_set_26 : decode prog_12_method_7_code 26 = .ok (.getfield 27, 3) := by decide +kernel
theorem dm_set_29 : decode prog_12_method_7_code 29 = .ok (.iload_n 1, 1) := by decide +kernel
theorem dm_set_30 : decode prog_12_method_7_code 30 = .ok (.iaload, 1) := by decide +kernel
theorem dm_set_31 : decode prog_12_method_7_code 31 = .ok (.iadd, 1) := by decide +kernel
theorem dm_set_32 : decode prog_12_method_7_code 32 = .ok (.lload 4, 2) := by decide +kernel
theorem dm_set_34 : decode prog_12_method_7_code 34 = .ok (.ldc2_w 76, 3) := by decide +kernel
theorem dm_set_37 : decode prog_12_method_7_code 37 = .ok (.lrem, 1) := by decide +kernel
theorem dm_set_38 : decode prog_12_method_7_code 38 = .ok (.lastore, 1) := by decide +kernel
theorem dm_set_39 : decode prog_12_method_7_code 39 = .ok (.lload 4, 2) := by decide +kernel
theorem dm_set_41 : decode prog_12_method_7_code 41 = .ok (.ldc2_w 76, 3) := by decide +kernel
theorem dm_set_44 : decode prog_12_method_7_code 44 = .ok (.ldiv, 1) := by decide +kernel
theorem dm_set_45 : decode prog_12_method_7_code 45 = .ok (.lstore 4, 2) := by decide +kernel
theorem dm_set_47 : decode prog_12_method_7_code 47 = .ok (.aload_n 0, 1) := by decide +kernel
theorem dm_set_48 : decode prog_12_method_7_code 48 = .ok (.getfield 27, 3) := by decide +kernel
theorem dm_set_51 : decode prog_12_method_7_code 51 = .ok (.iload_n 1, 1) := by decide +kernel
theorem dm_set_52 : decode prog_12_method_7_code 52 = .ok (.dup2, 1) := by decide +kernel
theorem dm_set_53 : decode prog_12_method_7_code 53 = .ok (.iaload, 1) := by decide +kernel
theorem dm_set_54 : decode prog_12_method_7_code 54 = .ok (.iconst 1, 1) := by decide +kernel
theorem dm_set_55 : decode prog_12_method_7_code 55 = .ok (.iadd, 1) := by decide +kernel
theorem dm_set_56 : decode prog_12_method_7_code 56 = .ok (.iastore, 1) := by decide +kernel
theorem dm_set_57 : decode prog_12_method_7_code 57 = .ok (.goto (-47), 3) := by decide +kernel
theorem dm_set_60 : decode prog_12_method_7_code 60 = .ok (.return_, 1) := by decide +kernel
theorem dm_copy_0 : decode prog_12_method_8_code 0 = .ok (.iconst 0, 1) := by decide +kernel
theorem dm_copy_1 : decode prog_12_method_8_code 1 = .ok (.istore_n 3, 1) := by decide +kernel
theorem dm_copy_2 : decode prog_12_method_8_code 2 = .ok (.iload_n 3, 1) := by decide +kernel
theorem dm_copy_3 : decode prog_12_method_8_code 3 = .ok (.aload_n 0, 1) := by decide +kernel
theorem dm_copy_4 : decode prog_12_method_8_code 4 = .ok (.getfield 27, 3) := by decide +kernel
theorem dm_copy_7 : decode prog_12_method_8_code 7 = .ok (.iload_n 2, 1) := by decide +kernel
theorem dm_copy_8 : decode prog_12_method_8_code 8 = .ok (.iaload, 1) := by decide +kernel
theorem dm_copy_9 : decode prog_12_method_8_code 9 = .ok (.if_icmp .ge 31, 3) := by decide +kernel
theorem dm_copy_12 : decode prog_12_method_8_code 12 = .ok (.aload_n 0, 1) := by decide +kernel
theorem dm_copy_13 : decode prog_12_method_8_code 13 = .ok (.getfield 23, 3) := by decide +kernel
theorem dm_copy_16 : decode prog_12_method_8_code 16 = .ok (.bipush 64, 2) := by decide +kernel
theorem dm_copy_18 : decode prog_12_method_8_code 18 = .ok (.iload_n 1, 1) := by decide +kernel
theorem dm_copy_19 : decode prog_12_method_8_code 19 = .ok (.imul, 1) := by decide +kernel
theorem dm_copy_20 : decode prog_12_method_8_code 20 = .ok (.iload_n 3, 1) := by decide +kernel
theorem dm_copy_21 : decode prog_12_method_8_code 21 = .ok (.iadd, 1) := by decide +kernel
theorem dm_copy_22 : decode prog_12_method_8_code 22 = .ok (.aload_n 0, 1) := by decide +kernel
theorem dm_copy_23 : decode prog_12_method_8_code 23 = .ok (.getfield 23, 3) := by decide +kernel
theorem dm_copy_26 : decode prog_12_method_8_code 26 = .ok (.bipush 64, 2) := by decide +kernel
theorem dm_copy_28 : decode prog_12_method_8_code 28 = .ok (.iload_n 2, 1) := by decide +kernel
theorem dm_copy_29 : decode prog_12_method_8_code 29 = .ok (.imul, 1) := by decide +kernel
theorem dm_copy_30 : decode prog_12_method_8_code 30 = .ok (.iload_n 3, 1) := by decide +kernel
theorem dm_copy_31 : decode prog_12_method_8_code 31 = .ok (.iadd, 1) := by decide +kernel
theorem dm_copy_32 : decode prog_12_method_8_code 32 = .ok (.laload, 1) := by decide +kernel
theorem dm_copy_33 : decode prog_12_method_8_code 33 = .ok (.lastore, 1) := by decide +kernel
theorem dm_copy_34 : decode prog_12_method_8_code 34 = .ok (.iinc 3 1, 3) := by decide +kernel
theorem dm_copy_37 : decode prog_12_method_8_code 37 = .ok (.goto (-35), 3) := by decide +kernel
theorem dm_copy_40 : decode prog_12_method_8_code 40 = .ok (.aload_n 0, 1) := by decide +kernel
theorem dm_copy_41 : decode prog_12_method_8_code 41 = .ok (.getfield 27, 3) := by decide +kernel
theorem dm_copy_44 : decode prog_12_method_8_code 44 = .ok (.iload_n 1, 1) := by decide +kernel
theorem dm_copy_45 : decode prog_12_method_8_code 45 = .ok (.aload_n 0, 1) := by decide +kernel
theorem dm_copy_46 : decode prog_12_method_8_code 46 = .ok (.getfield 27, 3) := by decide +kernel
theorem dm_copy_49 : decode prog_12_method_8_code 49 = .ok (.iload_n 2, 1) := by decide +kernel
theorem dm_copy_50 : decode prog_12_method_8_code 50 = .ok (.iaload, 1) := by decide +kernel
theorem dm_copy_51 : decode prog_12_method_8_code 51 = .ok (.iastore, 1) := by decide +kernel
theorem dm_copy_52 : decode prog_12_method_8_code 52 = .ok (.return_, 1) := by decide +kernel
theorem dm_trim_0 : decode prog_12_method_9_code 0 = .ok (.aload_n 0, 1) := by decide +kernel
theorem dm_trim_1 : decode prog_12_method_9_code 1 = .ok (.getfield 27, 3) := by decide +kernel
theorem dm_trim_4 : decode prog_12_method_9_code 4 = .ok (.iload_n 1, 1) := by decide +kernel
theorem dm_trim_5 : decode prog_12_method_9_code 5 = .ok (.iaload, 1) := by decide +kernel
theorem dm_trim_6 : decode prog_12_method_9_code 6 = .ok (.ifCond .le 39, 3) := by decide +kernel
theorem dm_trim_9 : decode prog_12_method_9_code 9 = .ok (.aload_n 0, 1) := by decide +kernel
theorem dm_trim_10 : decode prog_12_method_9_code 10 = .ok (.getfield 23, 3) := by decide +kernel
theorem dm_trim_13 : decode prog_12_method_9_code 13 = .ok (.bipush 64, 2) := by decide +kernel
theorem dm_trim_15 : decode prog_12_method_9_code 15 = .ok (.iload_n 1, 1) := by decide +kernel
theorem dm_trim_16 : decode prog_12_method_9_code 16 = .ok (.imul, 1) := by decide +kernel
theorem dm_trim_17 : decode prog_12_method_9_code 17 = .ok (.aload_n 0, 1) := by decide +kernel
theorem dm_trim_18 : decode prog_12_method_9_code 18 = .ok (.getfield 27, 3) := by decide +kernel
theorem dm_trim_21 : decode prog_12_method_9_code 21 = .ok (.iload_n 1, 1) := by decide +kernel
theorem dm_trim_22 : decode prog_12_method_9_code 22 = .ok (.iaload, 1) := by decide +kernel
theorem dm_trim_23 : decode prog_12_method_9_code 23 = .ok (.iadd, 1) := by decide +kernel
theorem dm_trim_24 : decode prog_12_method_9_code 24 = .ok (.iconst 1, 1) := by decide +kernel
theorem dm_trim_25 : decode prog_12_method_9_code 25 = .ok (.isub, 1) := by decide +kernel
theorem dm_trim_26 : decode prog_12_method_9_code 26 = .ok (.laload, 1) := by decide +kernel
theorem dm_trim_27 : decode prog_12_method_9_code 27 = .ok (.lconst 0, 1) := by decide +kernel
theorem dm_trim_28 : decode prog_12_method_9_code 28 = .ok (.lcmp, 1) := by decide +kernel
theorem dm_trim_29 : decode prog_12_method_9_code 29 = .ok (.ifCond .ne 16, 3) := by decide +kernel
theorem dm_trim_32 : decode prog_12_method_9_code 32 = .ok (.aload_n 0, 1) := by decide +kernel
theorem dm_trim_33 : decode prog_12_method_9_code 33 = .ok (.getfield 27, 3) := by decide +kernel
theorem dm_trim_36 : decode prog_12_method_9_code 36 = .ok (.iload_n 1, 1) := by decide +kernel
theorem dm_trim_37 : decode prog_12_method_9_code 37 = .ok (.dup2, 1) := by decide +kernel
theorem dm_trim_38 : decode prog_12_method_9_code 38 = .ok (.iaload, 1) := by decide +kernel
theorem dm_trim_39 : decode prog_12_method_9_code 39 = .ok (.iconst 1, 1) := by decide +kernel
theorem dm_trim_40 : decode prog_12_method_9_code 40 = .ok (.isub, 1) := by decide +kernel
theorem dm_trim_41 : decode prog_12_method_9_code 41 = .ok (.iastore, 1) := by decide +kernel
theorem dm_trim_42 : decode prog_12_method_9_code 42 = .ok (.goto (-42), 3) := by decide +kernel
theorem dm_trim_45 : decode prog_12_method_9_code 45 = .ok (.return_, 1) := by decide +kernel
theorem dm_times_0 : decode prog_12_method_10_code 0 = .ok (.lconst 0, 1) := by decide +kernel
theorem dm_times_1 : decode prog_12_method_10_code 1 = .ok (.lstore 4, 2) := by decide +kernel
theorem dm_times_3 : decode prog_12_method_10_code 3 = .ok (.iconst 0, 1) := by decide +kernel
theorem dm_times_4 : decode prog_12_method_10_code 4 = .ok (.istore 6, 2) := by decide +kernel
theorem dm_times_6 : decode prog_12_method_10_code 6 = .ok (.iload 6, 2) := by decide +kernel
theorem dm_times_8 : decode prog_12_method_10_code 8 = .ok (.aload_n 0, 1) := by decide +kernel
theorem dm_times_9 : decode prog_12_method_10_code 9 = .ok (.getfield 27, 3) := by decide +kernel
theorem dm_times_12 : decode prog_12_method_10_code 12 = .ok (.iload_n 1, 1) := by decide +kernel
theorem dm_times_13 : decode prog_12_method_10_code 13 = .ok (.iaload, 1) := by decide +kernel
theorem dm_times_14 : decode prog_12_method_10_code 14 = .ok (.if_icmp .ge 54, 3) := by decide +kernel
theorem dm_times_17 : decode prog_12_method_10_code 17 = .ok (.aload_n 0, 1) := by decide +kernel
theorem dm_times_18 : decode prog_12_method_10_code 18 = .ok (.getfield 23, 3) := by decide +kernel
theorem dm_times_21 : decode prog_12_method_10_code 21 = .ok (.bipush 64, 2) := by decide +kernel
theorem dm_times_23 : decode prog_12_method_10_code 23 = .ok (.iload_n 1, 1) := by decide +kernel
theorem dm_times_24 : decode prog_12_method_10_code 24 = .ok (.imul, 1) := by decide +kernel
theorem dm_times_25 : decode prog_12_method_10_code 25 = .ok (.iload 6, 2) := by decide +kernel
theorem dm_times_27 : decode prog_12_method_10_code 27 = .ok (.iadd, 1) := by decide +kernel
theorem dm_times_28 : decode prog_12_method_10_code 28 = .ok (.laload, 1) := by decide +kernel
theorem dm_times_29 : decode prog_12_method_10_code 29 = .ok (.lload_n 2, 1) := by decide +kernel
theorem dm_times_30 : decode prog_12_method_10_code 30 = .ok (.lmul, 1) := by decide +kernel
theorem dm_times_31 : decode prog_12_method_10_code 31 = .ok (.lload 4, 2) := by decide +kernel
theorem dm_times_33 : decode prog_12_method_10_code 33 = .ok (.ladd, 1) := by decide +kernel
theorem dm_times_34 : decode prog_12_method_10_code 34 = .ok (.lstore 7, 2) := by decide +kernel
theorem dm_times_36 : decode prog_12_method_10_code 36 = .ok (.aload_n 0, 1) := by decide +kernel
theorem dm_times_37 : decode prog_12_method_10_code 37 = .ok (.getfield 23, 3) := by decide +kernel
theorem dm_times_40 : decode prog_12_method_10_code 40 = .ok (.bipush 64, 2) := by decide +kernel
theorem dm_times_42 : decode prog_12_method_10_code 42 = .ok (.iload_n 1, 1) := by decide +kernel
theorem dm_times_43 : decode prog_12_method_10_code 43 = .ok (.imul, 1) := by decide +kernel
theorem dm_times_44 : decode prog_12_method_10_code 44 = .ok (.iload 6, 2) := by decide +kernel
theorem dm_times_46 : decode prog_12_method_10_code 46 = .ok (.iadd, 1) := by decide +kernel
theorem dm_times_47 : decode prog_12_method_10_code 47 = .ok (.lload 7, 2) := by decide +kernel
theorem dm_times_49 : decode prog_12_method_10_code 49 = .ok (.ldc2_w 76, 3) := by decide +kernel
theorem dm_times_52 : decode prog_12_method_10_code 52 = .ok (.lrem, 1) := by decide +kernel
theorem dm_times_53 : decode prog_12_method_10_code 53 = .ok (.lastore, 1) := by decide +kernel
theorem dm_times_54 : decode prog_12_method_10_code 54 = .ok (.lload 7, 2) := by decide +kernel
theorem dm_times_56 : decode prog_12_method_10_code 56 = .ok (.ldc2_w 76, 3) := by decide +kernel
theorem dm_times_59 : decode prog_12_method_10_code 59 = .ok (.ldiv, 1) := by decide +kernel
theorem dm_times_60 : decode prog_12_method_10_code 60 = .ok (.lstore 4, 2) := by decide +kernel
theorem dm_times_62 : decode prog_12_method_10_code 62 = .ok (.iinc 6 1, 3) := by decide +kernel
theorem dm_times_65 : decode prog_12_method_10_code 65 = .ok (.goto (-59), 3) := by decide +kernel
theorem dm_times_68 : decode prog_12_method_10_code 68 = .ok (.lload 4, 2) := by decide +kernel
theorem dm_times_70 : decode prog_12_method_10_code 70 = .ok (.lconst 0, 1) := by decide +kernel
theorem dm_times_71 : decode prog_12_method_10_code 71 = .ok (.lcmp, 1) := by decide +kernel
theorem dm_times_72 : decode prog_12_method_10_code 72 = .ok (.ifCond .le 31, 3) := by decide +kernel
theorem dm_times_75 : decode prog_12_method_10_code 75 = .ok (.aload_n 0, 1) := by decide +kernel
theorem dm_times_76 : decode prog_12_method_10_code 76 = .ok (.getfield 23, 3) := by decide +kernel
theorem dm_times_79 : decode prog_12_method_10_code 79 = .ok (.bipush 64, 2) := by decide +kernel
theorem dm_times_81 : decode prog_12_method_10_code 81 = .ok (.iload_n 1, 1) := by decide +kernel
theorem dm_times_82 : decode prog_12_method_10_code 82 = .ok (.imul, 1) := by decide +kernel
theorem dm_times_83 : decode prog_12_method_10_code 83 = .ok (.aload_n 0, 1) := by decide +kernel
theorem dm_times_84 : decode prog_12_method_10_code 84 = .ok (.getfield 27, 3) := by decide +kernel
theorem dm_times_87 : decode prog_12_method_10_code 87 = .ok (.iload_n 1, 1) := by decide +kernel
theorem dm_times_88 : decode prog_12_method_10_code 88 = .ok (.iaload, 1) := by decide +kernel
theorem dm_times_89 : decode prog_12_method_10_code 89 = .ok (.iadd, 1) := by decide +kernel
theorem dm_times_90 : decode prog_12_method_10_code 90 = .ok (.lload 4, 2) := by decide +kernel
theorem dm_times_92 : decode prog_12_method_10_code 92 = .ok (.lastore, 1) := by decide +kernel
theorem dm_times_93 : decode prog_12_method_10_code 93 = .ok (.aload_n 0, 1) := by decide +kernel
theorem dm_times_94 : decode prog_12_method_10_code 94 = .ok (.getfield 27, 3) := by decide +kernel
theorem dm_times_97 : decode prog_12_method_10_code 97 = .ok (.iload_n 1, 1) := by decide +kernel
theorem dm_times_98 : decode prog_12_method_10_code 98 = .ok (.dup2, 1) := by decide +kernel
theorem dm_times_99 : decode prog_12_method_10_code 99 = .ok (.iaload, 1) := by decide +kernel
theorem dm_times_100 : decode prog_12_method_10_code 100 = .ok (.iconst 1, 1) := by decide +kernel
theorem dm_times_101 : decode prog_12_method_10_code 101 = .ok (.iadd, 1) := by decide +kernel
theorem dm_times_102 : decode prog_12_method_10_code 102 = .ok (.iastore, 1) := by decide +kernel
theorem dm_times_103 : decode prog_12_method_10_code 103 = .ok (.aload_n 0, 1) := by decide +kernel
theorem dm_times_104 : decode prog_12_method_10_code 104 = .ok (.iload_n 1, 1) := by decide +kernel
theorem dm_times_105 : decode prog_12_method_10_code 105 = .ok (.invokevirtual 78, 3) := by decide +kernel
theorem dm_times_108 : decode prog_12_method_10_code 108 = .ok (.return_, 1) := by decide +kernel
theorem dm_compare_0 : decode prog_12_method_11_code 0 = .ok (.aload_n 0, 1) := by decide +kernel
theorem dm_compare_1 : decode prog_12_method_11_code 1 = .ok (.getfield 27, 3) := by decide +kernel
theorem dm_compare_4 : decode prog_12_method_11_code 4 = .ok (.iload_n 1, 1) := by decide +kernel
theorem dm_compare_5 : decode prog_12_method_11_code 5 = .ok (.iaload, 1) := by decide +kernel
theorem dm_compare_6 : decode prog_12_method_11_code 6 = .ok (.aload_n 0, 1) := by decide +kernel
theorem dm_compare_7 : decode prog_12_method_11_code 7 = .ok (.getfield 27, 3) := by decide +kernel
theorem dm_compare_10 : decode prog_12_method_11_code 10 = .ok (.iload_n 2, 1) := by decide +kernel
theorem dm_compare_11 : decode prog_12_method_11_code 11 = .ok (.iaload, 1) := by decide +kernel
theorem dm_compare_12 : decode prog_12_method_11_code 12 = .ok (.if_icmp .eq 24, 3) := by decide +kernel
theorem dm_compare_15 : decode prog_12_method_11_code 15 = .ok (.aload_n 0, 1) := by decide +kernel
theorem dm_compare_16 : decode prog_12_method_11_code 16 = .ok (.getfield 27, 3) := by decide +kernel
theorem dm_compare_19 : decode prog_12_method_11_code 19 = .ok (.iload_n 1, 1) := by decide +kernel
theorem dm_compare_20 : decode prog_12_method_11_code 20 = .ok (.iaload, 1) := by decide +kernel
theorem dm_compare_21 : decode prog_12_method_11_code 21 = .ok (.aload_n 0, 1) := by decide +kernel
theorem dm_compare_22 : decode prog_12_method_11_code 22 = .ok (.getfield 27, 3) := by decide +kernel
theorem dm_compare_25 : decode prog_12_method_11_code 25 = .ok (.iload_n 2, 1) := by decide +kernel
theorem dm_compare_26 : decode prog_12_method_11_code 26 = .ok (.iaload, 1) := by decide +kernel
theorem dm_compare_27 : decode prog_12_method_11_code 27 = .ok (.if_icmp .ge 7, 3) := by decide +kernel
theorem dm_compare_30 : decode prog_12_method_11_code 30 = .ok (.iconst (-1), 1) := by decide +kernel
theorem dm_compare_31 : decode prog_12_method_11_code 31 = .ok (.goto 4, 3) := by decide +kernel
theorem dm_compare_34 : decode prog_12_method_11_code 34 = .ok (.iconst 1, 1) := by decide +kernel
theorem dm_compare_35 : decode prog_12_method_11_code 35 = .ok (.ireturn, 1) := by decide +kernel
theorem dm_compare_36 : decode prog_12_method_11_code 36 = .ok (.aload_n 0, 1) := by decide +kernel
theorem dm_compare_37 : decode prog_12_method_11_code 37 = .ok (.getfield 27, 3) := by decide +kernel
theorem dm_compare_40 : decode prog_12_method_11_code 40 = .ok (.iload_n 1, 1) := by decide +kernel
theorem dm_compare_41 : decode prog_12_method_11_code 41 = .ok (.iaload, 1) := by decide +kernel
theorem dm_compare_42 : decode prog_12_method_11_code 42 = .ok (.iconst 1, 1) := by decide +kernel
theorem dm_compare_43 : decode prog_12_method_11_code 43 = .ok (.isub, 1) := by decide +kernel
theorem dm_compare_44 : decode prog_12_method_11_code 44 = .ok (.istore_n 3, 1) := by decide +kernel
theorem dm_compare_45 : decode prog_12_method_11_code 45 = .ok (.iload_n 3, 1) := by decide +kernel
theorem dm_compare_46 : decode prog_12_method_11_code 46 = .ok (.ifCond .lt 54, 3) := by decide +kernel
theorem dm_compare_49 : decode prog_12_method_11_code 49 = .ok (.aload_n 0, 1) := by decide +kernel
theorem dm_compare_50 : decode prog_12_method_11_code 50 = .ok (.getfield 23, 3) := by decide +kernel
theorem dm_compare_53 : decode prog_12_method_11_code 53 = .ok (.bipush 64, 2) := by decide +kernel
theorem dm_compare_55 : decode prog_12_method_11_code 55 = .ok (.iload_n 1, 1) := by decide +kernel
theorem dm_compare_56 : decode prog_12_method_11_code 56 = .ok (.imul, 1) := by decide +kernel
theorem dm_compare_57 : decode prog_12_method_11_code 57 = .ok (.iload_n 3, 1) := by decide +kernel
theorem dm_compare_58 : decode prog_12_method_11_code 58 = .ok (.iadd, 1) := by decide +kernel
theorem dm_compare_59 : decode prog_12_method_11_code 59 = .ok (.laload, 1) := by decide +kernel
theorem dm_compare_60 : decode prog_12_method_11_code 60 = .ok (.aload_n 0, 1) := by decide +kernel
theorem dm_compare_61 : decode prog_12_method_11_code 61 = .ok (.getfield 23, 3) := by decide +kernel
theorem dm_compare_64 : decode prog_12_method_11_code 64 = .ok (.bipush 64, 2) := by decide +kernel
theorem dm_compare_66 : decode prog_12_method_11_code 66 = .ok (.iload_n 2, 1) := by decide +kernel
theorem dm_compare_67 : decode prog_12_method_11_code 67 = .ok (.imul, 1) := by decide +kernel
theorem dm_compare_68 : decode prog_12_method_11_code 68 = .ok (.iload_n 3, 1) := by decide +kernel
theorem dm_compare_69 : decode prog_12_method_11_code 69 = .ok (.iadd, 1) := by decide +kernel
theorem dm_compare_70 : decode prog_12_method_11_code 70 = .ok (.laload, 1) := by decide +kernel
theorem dm_compare_71 : decode prog_12_method_11_code 71 = .ok (.lsub, 1) := by decide +kernel
theorem dm_compare_72 : decode prog_12_method_11_code 72 = .ok (.lstore 4, 2) := by decide +kernel
theorem dm_compare_74 : decode prog_12_method_11_code 74 = .ok (.lload 4, 2) := by decide +kernel
theorem dm_compare_76 : decode prog_12_method_11_code 76 = .ok (.lconst 0, 1) := by decide +kernel
theorem dm_compare_77 : decode prog_12_method_11_code 77 = .ok (.lcmp, 1) := by decide +kernel
theorem dm_compare_78 : decode prog_12_method_11_code 78 = .ok (.ifCond .eq 16, 3) := by decide +kernel
theorem dm_compare_81 : decode prog_12_method_11_code 81 = .ok (.lload 4, 2) := by decide +kernel
theorem dm_compare_83 : decode prog_12_method_11_code 83 = .ok (.lconst 0, 1) := by decide +kernel
theorem dm_compare_84 : decode prog_12_method_11_code 84 = .ok (.lcmp, 1) := by decide +kernel
theorem dm_compare_85 : decode prog_12_method_11_code 85 = .ok (.ifCond .ge 7, 3) := by decide +kernel
theorem dm_compare_88 : decode prog_12_method_11_code 88 = .ok (.iconst (-1), 1) := by decide +kernel
theorem dm_compare_89 : decode prog_12_method_11_code 89 = .ok (.goto 4, 3) := by decide +kernel
theorem dm_compare_92 : decode prog_12_method_11_code 92 = .ok (.iconst 1, 1) := by decide +kernel
theorem dm_compare_93 : decode prog_12_method_11_code 93 = .ok (.ireturn, 1) := by decide +kernel
theorem dm_compare_94 : decode prog_12_method_11_code 94 = .ok (.iinc 3 (-1), 3) := by decide +kernel
theorem dm_compare_97 : decode prog_12_method_11_code 97 = .ok (.goto (-52), 3) := by decide +kernel
theorem dm_compare_100 : decode prog_12_method_11_code 100 = .ok (.iconst 0, 1) := by decide +kernel
theorem dm_compare_101 : decode prog_12_method_11_code 101 = .ok (.ireturn, 1) := by decide +kernel
theorem dm_add_0 : decode prog_12_method_12_code 0 = .ok (.lconst 0, 1) := by decide +kernel
theorem dm_add_1 : decode prog_12_method_12_code 1 = .ok (.lstore_n 3, 1) := by decide +kernel
theorem dm_add_2 : decode prog_12_method_12_code 2 = .ok (.aload_n 0, 1) := by decide +kernel
theorem dm_add_3 : decode prog_12_method_12_code 3 = .ok (.getfield 27, 3) := by decide +kernel
theorem dm_add_6 : decode prog_12_method_12_code 6 = .ok (.iload_n 1, 1) := by decide +kernel
theorem dm_add_7 : decode prog_12_method_12_code 7 = .ok (.iaload, 1) := by decide +kernel
theorem dm_add_8 : decode prog_12_method_12_code 8 = .ok (.aload_n 0, 1) := by decide +kernel
theorem dm_add_9 : decode prog_12_method_12_code 9 = .ok (.getfield 27, 3) := by decide +kernel
theorem dm_add_12 : decode prog_12_method_12_code 12 = .ok (.iload_n 2, 1) := by decide +kernel
theorem dm_add_13 : decode prog_12_method_12_code 13 = .ok (.iaload, 1) := by decide +kernel
theorem dm_add_14 : decode prog_12_method_12_code 14 = .ok (.if_icmp .le 12, 3) := by decide +kernel
theorem dm_add_17 : decode prog_12_method_12_code 17 = .ok (.aload_n 0, 1) := by decide +kernel
theorem dm_add_18 : decode prog_12_method_12_code 18 = .ok (.getfield 27, 3) := by decide +kernel
theorem dm_add_21 : decode prog_12_method_12_code 21 = .ok (.iload_n 1, 1) := by decide +kernel
theorem dm_add_22 : decode prog_12_method_12_code 22 = .ok (.iaload, 1) := by decide +kernel
theorem dm_add_23 : decode prog_12_method_12_code 23 = .ok (.goto 9, 3) := by decide +kernel
theorem dm_add_26 : decode prog_12_method_12_code 26 = .ok (.aload_n 0, 1) := by decide +kernel
theorem dm_add_27 : decode prog_12_method_12_code 27 = .ok (.getfield 27, 3) := by decide +kernel
theorem dm_add_30 : decode prog_12_method_12_code 30 = .ok (.iload_n 2, 1) := by decide +kernel
theorem dm_add_31 : decode prog_12_method_12_code 31 = .ok (.iaload, 1) := by decide +kernel
theorem dm_add_32 : decode prog_12_method_12_code 32 = .ok (.istore 5, 2) := by decide +kernel
theorem dm_add_34 : decode prog_12_method_12_code 34 = .ok (.iconst 0, 1) := by decide +kernel
theorem dm_add_35 : decode prog_12_method_12_code 35 = .ok (.istore 6, 2) := by decide +kernel
theorem dm_add_37 : decode prog_12_method_12_code 37 = .ok (.iload 6, 2) := by decide +kernel
theorem dm_add_39 : decode prog_12_method_12_code 39 = .ok (.iload 5, 2) := by decide +kernel
theorem dm_add_41 : decode prog_12_method_12_code 41 = .ok (.if_icmp .ge 93, 3) := by decide +kernel
theorem dm_add_44 : decode prog_12_method_12_code 44 = .ok (.iload 6, 2) := by decide +kernel
theorem dm_add_46 : decode prog_12_method_12_code 46 = .ok (.aload_n 0, 1) := by decide +kernel
theorem dm_add_47 : decode prog_12_method_12_code 47 = .ok (.getfield 27, 3) := by decide +kernel
theorem dm_add_50 : decode prog_12_method_12_code 50 = .ok (.iload_n 1, 1) := by decide +kernel
theorem dm_add_51 : decode prog_12_method_12_code 51 = .ok (.iaload, 1) := by decide +kernel
theorem dm_add_52 : decode prog_12_method_12_code 52 = .ok (.if_icmp .ge 18, 3) := by decide +kernel
theorem dm_add_55 : decode prog_12_method_12_code 55 = .ok (.aload_n 0, 1) := by decide +kernel
theorem dm_add_56 : decode prog_12_method_12_code 56 = .ok (.getfield 23, 3) := by decide +kernel
theorem dm_add_59 : decode prog_12_method_12_code 59 = .ok (.bipush 64, 2) := by decide +kernel
theorem dm_add_61 : decode prog_12_method_12_code 61 = .ok (.iload_n 1, 1) := by decide +kernel
theorem dm_add_62 : decode prog_12_method_12_code 62 = .ok (.imul, 1) := by decide +kernel
theorem dm_add_63 : decode prog_12_method_12_code 63 = .ok (.iload 6, 2) := by decide +kernel
theorem dm_add_65 : decode prog_12_method_12_code 65 = .ok (.iadd, 1) := by decide +kernel
theorem dm_add_66 : decode prog_12_method_12_code 66 = .ok (.laload, 1) := by decide +kernel
theorem dm_add_67 : decode prog_12_method_12_code 67 = .ok (.goto 4, 3) := by decide +kernel
theorem dm_add_70 : decode prog_12_method_12_code 70 = .ok (.lconst 0, 1) := by decide +kernel
theorem dm_add_71 : decode prog_12_method_12_code 71 = .ok (.iload 6, 2) := by decide +kernel
theorem dm_add_73 : decode prog_12_method_12_code 73 = .ok (.aload_n 0, 1) := by decide +kernel
theorem dm_add_74 : decode prog_12_method_12_code 74 = .ok (.getfield 27, 3) := by decide +kernel
theorem dm_add_77 : decode prog_12_method_12_code 77 = .ok (.iload_n 2, 1) := by decide +kernel
theorem dm_add_78 : decode prog_12_method_12_code 78 = .ok (.iaload, 1) := by decide +kernel
theorem dm_add_79 : decode prog_12_method_12_code 79 = .ok (.if_icmp .ge 18, 3) := by decide +kernel
theorem dm_add_82 : decode prog_12_method_12_code 82 = .ok (.aload_n 0, 1) := by decide +kernel
theorem dm_add_83 : decode prog_12_method_12_code 83 = .ok (.getfield 23, 3) := by decide +kernel
theorem dm_add_86 : decode prog_12_method_12_code 86 = .ok (.bipush 64, 2) := by decide +kernel
theorem dm_add_88 : decode prog_12_method_12_code 88 = .ok (.iload_n 2, 1) := by decide +kernel
theorem dm_add_89 : decode prog_12_method_12_code 89 = .ok (.imul, 1) := by decide +kernel
theorem dm_add_90 : decode prog_12_method_12_code 90 = .ok (.iload 6, 2) := by decide +kernel
theorem dm_add_92 : decode prog_12_method_12_code 92 = .ok (.iadd, 1) := by decide +kernel
theorem dm_add_93 : decode prog_12_method_12_code 93 = .ok (.laload, 1) := by decide +kernel
theorem dm_add_94 : decode prog_12_method_12_code 94 = .ok (.goto 4, 3) := by decide +kernel
theorem dm_add_97 : decode prog_12_method_12_code 97 = .ok (.lconst 0, 1) := by decide +kernel
theorem dm_add_98 : decode prog_12_method_12_code 98 = .ok (.ladd, 1) := by decide +kernel
theorem dm_add_99 : decode prog_12_method_12_code 99 = .ok (.lload_n 3, 1) := by decide +kernel
theorem dm_add_100 : decode prog_12_method_12_code 100 = .ok (.ladd, 1) := by decide +kernel
theorem dm_add_101 : decode prog_12_method_12_code 101 = .ok (.lstore 7, 2) := by decide +kernel
theorem dm_add_103 : decode prog_12_method_12_code 103 = .ok (.aload_n 0, 1) := by decide +kernel
theorem dm_add_104 : decode prog_12_method_12_code 104 = .ok (.getfield 23, 3) := by decide +kernel
theorem dm_add_107 : decode prog_12_method_12_code 107 = .ok (.bipush 64, 2) := by decide +kernel
theorem dm_add_109 : decode prog_12_method_12_code 109 = .ok (.iload_n 1, 1) := by decide +kernel
theorem dm_add_110 : decode prog_12_method_12_code 110 = .ok (.imul, 1) := by decide +kernel
theorem dm_add_111 : decode prog_12_method_12_code 111 = .ok (.iload 6, 2) := by decide +kernel
theorem dm_add_113 : decode prog_12_method_12_code 113 = .ok (.iadd, 1) := by decide +kernel
theorem dm_add_114 : decode prog_12_method_12_code 114 = .ok (.lload 7, 2) := by decide +kernel
theorem dm_add_116 : decode prog_12_method_12_code 116 = .ok (.ldc2_w 76, 3) := by decide +kernel
theorem dm_add_119 : decode prog_12_method_12_code 119 = .ok (.lrem, 1) := by decide +kernel
theorem dm_add_120 : decode prog_12_method_12_code 120 = .ok (.lastore, 1) := by decide +kernel
theorem dm_add_121 : decode prog_12_method_12_code 121 = .ok (.lload 7, 2) := by decide +kernel
theorem dm_add_123 : decode prog_12_method_12_code 123 = .ok (.ldc2_w 76, 3) := by decide +kernel
theorem dm_add_126 : decode prog_12_method_12_code 126 = .ok (.ldiv, 1) := by decide +kernel
theorem dm_add_127 : decode prog_12_method_12_code 127 = .ok (.lstore_n 3, 1) := by decide +kernel
theorem dm_add_128 : decode prog_12_method_12_code 128 = .ok (.iinc 6 1, 3) := by decide +kernel
theorem dm_add_131 : decode prog_12_method_12_code 131 = .ok (.goto (-94), 3) := by decide +kernel
theorem dm_add_134 : decode prog_12_method_12_code 134 = .ok (.aload_n 0, 1) := by decide +kernel
theorem dm_add_135 : decode prog_12_method_12_code 135 = .ok (.getfield 23, 3) := by decide +kernel
theorem dm_add_138 : decode prog_12_method_12_code 138 = .ok (.bipush 64, 2) := by decide +kernel
theorem dm_add_140 : decode prog_12_method_12_code 140 = .ok (.iload_n 1, 1) := by decide +kernel
theorem dm_add_141 : decode prog_12_method_12_code 141 = .ok (.imul, 1) := by decide +kernel
theorem dm_add_142 : decode prog_12_method_12_code 142 = .ok (.iload 5, 2) := by decide +kernel
theorem dm_add_144 : decode prog_12_method_12_code 144 = .ok (.iadd, 1) := by decide +kernel
theorem dm_add_145 : decode prog_12_method_12_code 145 = .ok (.lload_n 3, 1) := by decide +kernel
theorem dm_add_146 : decode prog_12_method_12_code 146 = .ok (.lastore, 1) := by decide +kernel
theorem dm_add_147 : decode prog_12_method_12_code 147 = .ok (.aload_n 0, 1) := by decide +kernel
theorem dm_add_148 : decode prog_12_method_12_code 148 = .ok (.getfield 27, 3) := by decide +kernel
theorem dm_add_151 : decode prog_12_method_12_code 151 = .ok (.iload_n 1, 1) := by decide +kernel
theorem dm_add_152 : decode prog_12_method_12_code 152 = .ok (.iload 5, 2) := by decide +kernel
theorem dm_add_154 : decode prog_12_method_12_code 154 = .ok (.iconst 1, 1) := by decide +kernel
theorem dm_add_155 : decode prog_12_method_12_code 155 = .ok (.iadd, 1) := by decide +kernel
theorem dm_add_156 : decode prog_12_method_12_code 156 = .ok (.iastore, 1) := by decide +kernel
theorem dm_add_157 : decode prog_12_method_12_code 157 = .ok (.aload_n 0, 1) := by decide +kernel
theorem dm_add_158 : decode prog_12_method_12_code 158 = .ok (.iload_n 1, 1) := by decide +kernel
theorem dm_add_159 : decode prog_12_method_12_code 159 = .ok (.invokevirtual 78, 3) := by decide +kernel
theorem dm_add_162 : decode prog_12_method_12_code 162 = .ok (.return_, 1) := by decide +kernel
theorem dm_take_0 : decode prog_12_method_13_code 0 = .ok (.lconst 0, 1) := by decide +kernel
theorem dm_take_1 : decode prog_12_method_13_code 1 = .ok (.lstore_n 3, 1) := by decide +kernel
theorem dm_take_2 : decode prog_12_method_13_code 2 = .ok (.iconst 0, 1) := by decide +kernel
theorem dm_take_3 : decode prog_12_method_13_code 3 = .ok (.istore 5, 2) := by decide +kernel
theorem dm_take_5 : decode prog_12_method_13_code 5 = .ok (.iload 5, 2) := by decide +kernel
theorem dm_take_7 : decode prog_12_method_13_code 7 = .ok (.aload_n 0, 1) := by decide +kernel
theorem dm_take_8 : decode prog_12_method_13_code 8 = .ok (.getfield 27, 3) := by decide +kernel
theorem dm_take_11 : decode prog_12_method_13_code 11 = .ok (.iload_n 1, 1) := by decide +kernel
theorem dm_take_12 : decode prog_12_method_13_code 12 = .ok (.iaload, 1) := by decide +kernel
theorem dm_take_13 : decode prog_12_method_13_code 13 = .ok (.if_icmp .ge 86, 3) := by decide +kernel
theorem dm_take_16 : decode prog_12_method_13_code 16 = .ok (.aload_n 0, 1) := by decide +kernel
theorem dm_take_17 : decode prog_12_method_13_code 17 = .ok (.getfield 23, 3) := by decide +kernel
theorem dm_take_20 : decode prog_12_method_13_code 20 = .ok (.bipush 64, 2) := by decide +kernel
theorem dm_take_22 : decode prog_12_method_13_code 22 = .ok (.iload_n 1, 1) := by decide +kernel
theorem dm_take_23 : decode prog_12_method_13_code 23 = .ok (.imul, 1) := by decide +kernel
theorem dm_take_24 : decode prog_12_method_13_code 24 = .ok (.iload 5, 2) := by decide +kernel
theorem dm_take_26 : decode prog_12_method_13_code 26 = .ok (.iadd, 1) := by decide +kernel
theorem dm_take_27 : decode prog_12_method_13_code 27 = .ok (.laload, 1) := by decide +kernel
theorem dm_take_28 : decode prog_12_method_13_code 28 = .ok (.iload 5, 2) := by decide +kernel
theorem dm_take_30 : decode prog_12_method_13_code 30 = .ok (.aload_n 0, 1) := by decide +kernel
theorem dm_take_31 : decode prog_12_method_13_code 31 = .ok (.getfield 27, 3) := by decide +kernel
theorem dm_take_34 : decode prog_12_method_13_code 34 = .ok (.iload_n 2, 1) := by decide +kernel
theorem dm_take_35 : decode prog_12_method_13_code 35 = .ok (.iaload, 1) := by decide +kernel
theorem dm_take_36 : decode prog_12_method_13_code 36 = .ok (.if_icmp .ge 18, 3) := by decide +kernel
theorem dm_take_39 : decode prog_12_method_13_code 39 = .ok (.aload_n 0, 1) := by decide +kernel
theorem dm_take_40 : decode prog_12_method_13_code 40 = .ok (.getfield 23, 3) := by decide +kernel
theorem dm_take_43 : decode prog_12_method_13_code 43 = .ok (.bipush 64, 2) := by decide +kernel
theorem dm_take_45 : decode prog_12_method_13_code 45 = .ok (.iload_n 2, 1) := by decide +kernel
theorem dm_take_46 : decode prog_12_method_13_code 46 = .ok (.imul, 1) := by decide +kernel
theorem dm_take_47 : decode prog_12_method_13_code 47 = .ok (.iload 5, 2) := by decide +kernel
theorem dm_take_49 : decode prog_12_method_13_code 49 = .ok (.iadd, 1) := by decide +kernel
theorem dm_take_50 : decode prog_12_method_13_code 50 = .ok (.laload, 1) := by decide +kernel
theorem dm_take_51 : decode prog_12_method_13_code 51 = .ok (.goto 4, 3) := by decide +kernel
theorem dm_take_54 : decode prog_12_method_13_code 54 = .ok (.lconst 0, 1) := by decide +kernel
theorem dm_take_55 : decode prog_12_method_13_code 55 = .ok (.lsub, 1) := by decide +kernel
theorem dm_take_56 : decode prog_12_method_13_code 56 = .ok (.lload_n 3, 1) := by decide +kernel
theorem dm_take_57 : decode prog_12_method_13_code 57 = .ok (.lsub, 1) := by decide +kernel
theorem dm_take_58 : decode prog_12_method_13_code 58 = .ok (.lstore 6, 2) := by decide +kernel
theorem dm_take_60 : decode prog_12_method_13_code 60 = .ok (.lload 6, 2) := by decide +kernel
theorem dm_take_62 : decode prog_12_method_13_code 62 = .ok (.lconst 0, 1) := by decide +kernel
theorem dm_take_63 : decode prog_12_method_13_code 63 = .ok (.lcmp, 1) := by decide +kernel
theorem dm_take_64 : decode prog_12_method_13_code 64 = .ok (.ifCond .ge 7, 3) := by decide +kernel
theorem dm_take_67 : decode prog_12_method_13_code 67 = .ok (.lconst 1, 1) := by decide +kernel
theorem dm_take_68 : decode prog_12_method_13_code 68 = .ok (.goto 4, 3) := by decide +kernel
theorem dm_take_71 : decode prog_12_method_13_code 71 = .ok (.lconst 0, 1) := by decide +kernel
theorem dm_take_72 : decode prog_12_method_13_code 72 = .ok (.lstore_n 3, 1) := by decide +kernel
theorem dm_take_73 : decode prog_12_method_13_code 73 = .ok (.aload_n 0, 1) := by decide +kernel
theorem dm_take_74 : decode prog_12_method_13_code 74 = .ok (.getfield 23, 3) := by decide +kernel
theorem dm_take_77 : decode prog_12_method_13_code 77 = .ok (.bipush 64, 2) := by decide +kernel
theorem dm_take_79 : decode prog_12_method_13_code 79 = .ok (.iload_n 1, 1) := by decide +kernel
theorem dm_take_80 : decode prog_12_method_13_code 80 = .ok (.imul, 1) := by decide +kernel
theorem dm_take_81 : decode prog_12_method_13_code 81 = .ok (.iload 5, 2) := by decide +kernel
theorem dm_take_83 : decode prog_12_method_13_code 83 = .ok (.iadd, 1) := by decide +kernel
theorem dm_take_84 : decode prog_12_method_13_code 84 = .ok (.lload 6, 2) := by decide +kernel
theorem dm_take_86 : decode prog_12_method_13_code 86 = .ok (.lload_n 3, 1) := by decide +kernel
theorem dm_take_87 : decode prog_12_method_13_code 87 = .ok (.ldc2_w 76, 3) := by decide +kernel
theorem dm_take_90 : decode prog_12_method_13_code 90 = .ok (.lmul, 1) := by decide +kernel
theorem dm_take_91 : decode prog_12_method_13_code 91 = .ok (.ladd, 1) := by decide +kernel
theorem dm_take_92 : decode prog_12_method_13_code 92 = .ok (.lastore, 1) := by decide +kernel
theorem dm_take_93 : decode prog_12_method_13_code 93 = .ok (.iinc 5 1, 3) := by decide +kernel
theorem dm_take_96 : decode prog_12_method_13_code 96 = .ok (.goto (-91), 3) := by decide +kernel
theorem dm_take_99 : decode prog_12_method_13_code 99 = .ok (.aload_n 0, 1) := by decide +kernel
theorem dm_take_100 : decode prog_12_method_13_code 100 = .ok (.iload_n 1, 1) := by decide +kernel
theorem dm_take_101 : decode prog_12_method_13_code 101 = .ok (.invokevirtual 78, 3) := by decide +kernel
theorem dm_take_104 : decode prog_12_method_13_code 104 = .ok (.return_, 1) := by decide +kernel
theorem dm_halve_0 : decode prog_12_method_14_code 0 = .ok (.lconst 0, 1) := by decide +kernel
theorem dm_halve_1 : decode prog_12_method_14_code 1 = .ok (.lstore_n 2, 1) := by decide +kernel
theorem dm_halve_2 : decode prog_12_method_14_code 2 = .ok (.aload_n 0, 1) := by decide +kernel
theorem dm_halve_3 : decode prog_12_method_14_code 3 = .ok (.getfield 27, 3) := by decide +kernel
theorem dm_halve_6 : decode prog_12_method_14_code 6 = .ok (.iload_n 1, 1) := by decide +kernel
theorem dm_halve_7 : decode prog_12_method_14_code 7 = .ok (.iaload, 1) := by decide +kernel
theorem dm_halve_8 : decode prog_12_method_14_code 8 = .ok (.iconst 1, 1) := by decide +kernel
theorem dm_halve_9 : decode prog_12_method_14_code 9 = .ok (.isub, 1) := by decide +kernel
theorem dm_halve_10 : decode prog_12_method_14_code 10 = .ok (.istore 4, 2) := by decide +kernel
theorem dm_halve_12 : decode prog_12_method_14_code 12 = .ok (.iload 4, 2) := by decide +kernel
theorem dm_halve_14 : decode prog_12_method_14_code 14 = .ok (.ifCond .lt 54, 3) := by decide +kernel
theorem dm_halve_17 : decode prog_12_method_14_code 17 = .ok (.aload_n 0, 1) := by decide +kernel
theorem dm_halve_18 : decode prog_12_method_14_code 18 = .ok (.getfield 23, 3) := by decide +kernel
theorem dm_halve_21 : decode prog_12_method_14_code 21 = .ok (.bipush 64, 2) := by decide +kernel
theorem dm_halve_23 : decode prog_12_method_14_code 23 = .ok (.iload_n 1, 1) := by decide +kernel
theorem dm_halve_24 : decode prog_12_method_14_code 24 = .ok (.imul, 1) := by decide +kernel
theorem dm_halve_25 : decode prog_12_method_14_code 25 = .ok (.iload 4, 2) := by decide +kernel
theorem dm_halve_27 : decode prog_12_method_14_code 27 = .ok (.iadd, 1) := by decide +kernel
theorem dm_halve_28 : decode prog_12_method_14_code 28 = .ok (.laload, 1) := by decide +kernel
theorem dm_halve_29 : decode prog_12_method_14_code 29 = .ok (.lload_n 2, 1) := by decide +kernel
theorem dm_halve_30 : decode prog_12_method_14_code 30 = .ok (.ldc2_w 76, 3) := by decide +kernel
theorem dm_halve_33 : decode prog_12_method_14_code 33 = .ok (.lmul, 1) := by decide +kernel
theorem dm_halve_34 : decode prog_12_method_14_code 34 = .ok (.ladd, 1) := by decide +kernel
theorem dm_halve_35 : decode prog_12_method_14_code 35 = .ok (.lstore 5, 2) := by decide +kernel
theorem dm_halve_37 : decode prog_12_method_14_code 37 = .ok (.aload_n 0, 1) := by decide +kernel
theorem dm_halve_38 : decode prog_12_method_14_code 38 = .ok (.getfield 23, 3) := by decide +kernel
theorem dm_halve_41 : decode prog_12_method_14_code 41 = .ok (.bipush 64, 2) := by decide +kernel
theorem dm_halve_43 : decode prog_12_method_14_code 43 = .ok (.iload_n 1, 1) := by decide +kernel
theorem dm_halve_44 : decode prog_12_method_14_code 44 = .ok (.imul, 1) := by decide +kernel
theorem dm_halve_45 : decode prog_12_method_14_code 45 = .ok (.iload 4, 2) := by decide +kernel
theorem dm_halve_47 : decode prog_12_method_14_code 47 = .ok (.iadd, 1) := by decide +kernel
theorem dm_halve_48 : decode prog_12_method_14_code 48 = .ok (.lload 5, 2) := by decide +kernel
theorem dm_halve_50 : decode prog_12_method_14_code 50 = .ok (.ldc2_w 82, 3) := by decide +kernel
theorem dm_halve_53 : decode prog_12_method_14_code 53 = .ok (.ldiv, 1) := by decide +kernel
theorem dm_halve_54 : decode prog_12_method_14_code 54 = .ok (.lastore, 1) := by decide +kernel
theorem dm_halve_55 : decode prog_12_method_14_code 55 = .ok (.lload 5, 2) := by decide +kernel
theorem dm_halve_57 : decode prog_12_method_14_code 57 = .ok (.ldc2_w 82, 3) := by decide +kernel
theorem dm_halve_60 : decode prog_12_method_14_code 60 = .ok (.lrem, 1) := by decide +kernel
theorem dm_halve_61 : decode prog_12_method_14_code 61 = .ok (.lstore_n 2, 1) := by decide +kernel
theorem dm_halve_62 : decode prog_12_method_14_code 62 = .ok (.iinc 4 (-1), 3) := by decide +kernel
theorem dm_halve_65 : decode prog_12_method_14_code 65 = .ok (.goto (-53), 3) := by decide +kernel
theorem dm_halve_68 : decode prog_12_method_14_code 68 = .ok (.aload_n 0, 1) := by decide +kernel
theorem dm_halve_69 : decode prog_12_method_14_code 69 = .ok (.iload_n 1, 1) := by decide +kernel
theorem dm_halve_70 : decode prog_12_method_14_code 70 = .ok (.invokevirtual 78, 3) := by decide +kernel
theorem dm_halve_73 : decode prog_12_method_14_code 73 = .ok (.return_, 1) := by decide +kernel
