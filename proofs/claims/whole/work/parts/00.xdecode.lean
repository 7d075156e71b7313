theorem dx_Chest_countOrders_0 : decode prog_2_method_2_code 0 = .ok (.iconst 1, 1) := by decide +kernel
theorem dx_Chest_countOrders_1 : decode prog_2_method_2_code 1 = .ok (.istore_n 3, 1) := by decide +kernel
theorem dx_Chest_countOrders_11 : decode prog_2_method_2_code 11 = .ok (.if_icmp .ge 16, 3) := by decide +kernel
theorem dx_Chest_countOrders_14 : decode prog_2_method_2_code 14 = .ok (.iload_n 3, 1) := by decide +kernel
theorem dx_Chest_countOrders_15 : decode prog_2_method_2_code 15 = .ok (.aload_n 1, 1) := by decide +kernel
theorem dx_Chest_countOrders_16 : decode prog_2_method_2_code 16 = .ok (.getfield 23, 3) := by decide +kernel
theorem dx_Chest_countOrders_19 : decode prog_2_method_2_code 19 = .ok (.imul, 1) := by decide +kernel
theorem dx_Chest_countOrders_2 : decode prog_2_method_2_code 2 = .ok (.iconst 0, 1) := by decide +kernel
theorem dx_Chest_countOrders_20 : decode prog_2_method_2_code 20 = .ok (.istore_n 3, 1) := by decide +kernel
theorem dx_Chest_countOrders_21 : decode prog_2_method_2_code 21 = .ok (.iinc 4 1, 3) := by decide +kernel
theorem dx_Chest_countOrders_24 : decode prog_2_method_2_code 24 = .ok (.goto (-19), 3) := by decide +kernel
theorem dx_Chest_countOrders_27 : decode prog_2_method_2_code 27 = .ok (.iconst 0, 1) := by decide +kernel
theorem dx_Chest_countOrders_28 : decode prog_2_method_2_code 28 = .ok (.istore 4, 2) := by decide +kernel
theorem dx_Chest_countOrders_3 : decode prog_2_method_2_code 3 = .ok (.istore 4, 2) := by decide +kernel
theorem dx_Chest_countOrders_30 : decode prog_2_method_2_code 30 = .ok (.iconst 0, 1) := by decide +kernel
theorem dx_Chest_countOrders_31 : decode prog_2_method_2_code 31 = .ok (.istore 5, 2) := by decide +kernel
theorem dx_Chest_countOrders_33 : decode prog_2_method_2_code 33 = .ok (.iload 5, 2) := by decide +kernel
theorem dx_Chest_countOrders_35 : decode prog_2_method_2_code 35 = .ok (.iload_n 3, 1) := by decide +kernel
theorem dx_Chest_countOrders_36 : decode prog_2_method_2_code 36 = .ok (.if_icmp .ge 53, 3) := by decide +kernel
theorem dx_Chest_countOrders_39 : decode prog_2_method_2_code 39 = .ok (.aload_n 0, 1) := by decide +kernel
theorem dx_Chest_countOrders_40 : decode prog_2_method_2_code 40 = .ok (.iload 5, 2) := by decide +kernel
theorem dx_Chest_countOrders_42 : decode prog_2_method_2_code 42 = .ok (.aload_n 1, 1) := by decide +kernel
theorem dx_Chest_countOrders_43 : decode prog_2_method_2_code 43 = .ok (.getfield 23, 3) := by decide +kernel
theorem dx_Chest_countOrders_46 : decode prog_2_method_2_code 46 = .ok (.invokevirtual 29, 3) := by decide +kernel
theorem dx_Chest_countOrders_49 : decode prog_2_method_2_code 49 = .ok (.ifCond .eq 34, 3) := by decide +kernel
theorem dx_Chest_countOrders_5 : decode prog_2_method_2_code 5 = .ok (.iload 4, 2) := by decide +kernel
theorem dx_Chest_countOrders_52 : decode prog_2_method_2_code 52 = .ok (.aload_n 0, 1) := by decide +kernel
theorem dx_Chest_countOrders_53 : decode prog_2_method_2_code 53 = .ok (.aload_n 1, 1) := by decide +kernel
theorem dx_Chest_countOrders_54 : decode prog_2_method_2_code 54 = .ok (.aload_n 2, 1) := by decide +kernel
theorem dx_Chest_countOrders_55 : decode prog_2_method_2_code 55 = .ok (.invokevirtual 33, 3) := by decide +kernel
theorem dx_Chest_countOrders_58 : decode prog_2_method_2_code 58 = .ok (.ifCond .eq 25, 3) := by decide +kernel
theorem dx_Chest_countOrders_61 : decode prog_2_method_2_code 61 = .ok (.iload 4, 2) := by decide +kernel
theorem dx_Chest_countOrders_63 : decode prog_2_method_2_code 63 = .ok (.ifCond .ne 17, 3) := by decide +kernel
theorem dx_Chest_countOrders_66 : decode prog_2_method_2_code 66 = .ok (.aload_n 0, 1) := by decide +kernel
theorem dx_Chest_countOrders_67 : decode prog_2_method_2_code 67 = .ok (.getfield 16, 3) := by decide +kernel
theorem dx_Chest_countOrders_7 : decode prog_2_method_2_code 7 = .ok (.aload_n 1, 1) := by decide +kernel
theorem dx_Chest_countOrders_70 : decode prog_2_method_2_code 70 = .ok (.iconst 0, 1) := by decide +kernel
theorem dx_Chest_countOrders_71 : decode prog_2_method_2_code 71 = .ok (.aload_n 0, 1) := by decide +kernel
theorem dx_Chest_countOrders_72 : decode prog_2_method_2_code 72 = .ok (.getfield 20, 3) := by decide +kernel
theorem dx_Chest_countOrders_75 : decode prog_2_method_2_code 75 = .ok (.iconst 0, 1) := by decide +kernel
theorem dx_Chest_countOrders_76 : decode prog_2_method_2_code 76 = .ok (.iconst 4, 1) := by decide +kernel
theorem dx_Chest_countOrders_77 : decode prog_2_method_2_code 77 = .ok (.invokestatic 37, 3) := by decide +kernel
theorem dx_Chest_countOrders_8 : decode prog_2_method_2_code 8 = .ok (.getfield 23, 3) := by decide +kernel
theorem dx_Chest_countOrders_80 : decode prog_2_method_2_code 80 = .ok (.iinc 4 1, 3) := by decide +kernel
theorem dx_Chest_countOrders_83 : decode prog_2_method_2_code 83 = .ok (.iinc 5 1, 3) := by decide +kernel
theorem dx_Chest_countOrders_86 : decode prog_2_method_2_code 86 = .ok (.goto (-53), 3) := by decide +kernel
theorem dx_Chest_countOrders_89 : decode prog_2_method_2_code 89 = .ok (.iload 4, 2) := by decide +kernel
theorem dx_Chest_countOrders_91 : decode prog_2_method_2_code 91 = .ok (.ireturn, 1) := by decide +kernel
theorem dx_Chest_fits_0 : decode prog_2_method_4_code 0 = .ok (.iconst 0, 1) := by decide +kernel
theorem dx_Chest_fits_1 : decode prog_2_method_4_code 1 = .ok (.istore_n 3, 1) := by decide +kernel
theorem dx_Chest_fits_10 : decode prog_2_method_4_code 10 = .ok (.iload 4, 2) := by decide +kernel
theorem dx_Chest_fits_100 : decode prog_2_method_4_code 100 = .ok (.iconst 0, 1) := by decide +kernel
theorem dx_Chest_fits_101 : decode prog_2_method_4_code 101 = .ok (.istore 4, 2) := by decide +kernel
theorem dx_Chest_fits_103 : decode prog_2_method_4_code 103 = .ok (.iload 4, 2) := by decide +kernel
theorem dx_Chest_fits_105 : decode prog_2_method_4_code 105 = .ok (.aload_n 1, 1) := by decide +kernel
theorem dx_Chest_fits_106 : decode prog_2_method_4_code 106 = .ok (.getfield 23, 3) := by decide +kernel
theorem dx_Chest_fits_109 : decode prog_2_method_4_code 109 = .ok (.if_icmp .ge 43, 3) := by decide +kernel
theorem dx_Chest_fits_112 : decode prog_2_method_4_code 112 = .ok (.aload_n 3, 1) := by decide +kernel
theorem dx_Chest_fits_113 : decode prog_2_method_4_code 113 = .ok (.iload 4, 2) := by decide +kernel
theorem dx_Chest_fits_115 : decode prog_2_method_4_code 115 = .ok (.aload_n 1, 1) := by decide +kernel
theorem dx_Chest_fits_116 : decode prog_2_method_4_code 116 = .ok (.getfield 64, 3) := by decide +kernel
theorem dx_Chest_fits_119 : decode prog_2_method_4_code 119 = .ok (.iload 4, 2) := by decide +kernel
theorem dx_Chest_fits_12 : decode prog_2_method_4_code 12 = .ok (.bipush 8, 2) := by decide +kernel
theorem dx_Chest_fits_121 : decode prog_2_method_4_code 121 = .ok (.iaload, 1) := by decide +kernel
theorem dx_Chest_fits_122 : decode prog_2_method_4_code 122 = .ok (.invokevirtual 67, 3) := by decide +kernel
theorem dx_Chest_fits_125 : decode prog_2_method_4_code 125 = .ok (.ifCond .eq 19, 3) := by decide +kernel
theorem dx_Chest_fits_128 : decode prog_2_method_4_code 128 = .ok (.aload_n 3, 1) := by decide +kernel
theorem dx_Chest_fits_129 : decode prog_2_method_4_code 129 = .ok (.iload 4, 2) := by decide +kernel
theorem dx_Chest_fits_131 : decode prog_2_method_4_code 131 = .ok (.aload_n 1, 1) := by decide +kernel
theorem dx_Chest_fits_132 : decode prog_2_method_4_code 132 = .ok (.getfield 72, 3) := by decide +kernel
theorem dx_Chest_fits_135 : decode prog_2_method_4_code 135 = .ok (.iload 4, 2) := by decide +kernel
theorem dx_Chest_fits_137 : decode prog_2_method_4_code 137 = .ok (.iaload, 1) := by decide +kernel
theorem dx_Chest_fits_138 : decode prog_2_method_4_code 138 = .ok (.invokevirtual 75, 3) := by decide +kernel
theorem dx_Chest_fits_14 : decode prog_2_method_4_code 14 = .ok (.if_icmp .ge 19, 3) := by decide +kernel
theorem dx_Chest_fits_141 : decode prog_2_method_4_code 141 = .ok (.ifCond .ne 5, 3) := by decide +kernel
theorem dx_Chest_fits_144 : decode prog_2_method_4_code 144 = .ok (.iconst 0, 1) := by decide +kernel
theorem dx_Chest_fits_145 : decode prog_2_method_4_code 145 = .ok (.ireturn, 1) := by decide +kernel
theorem dx_Chest_fits_146 : decode prog_2_method_4_code 146 = .ok (.iinc 4 1, 3) := by decide +kernel
theorem dx_Chest_fits_149 : decode prog_2_method_4_code 149 = .ok (.goto (-46), 3) := by decide +kernel
theorem dx_Chest_fits_152 : decode prog_2_method_4_code 152 = .ok (.iconst 1, 1) := by decide +kernel
theorem dx_Chest_fits_153 : decode prog_2_method_4_code 153 = .ok (.ireturn, 1) := by decide +kernel
theorem dx_Chest_fits_17 : decode prog_2_method_4_code 17 = .ok (.aload_n 0, 1) := by decide +kernel
theorem dx_Chest_fits_18 : decode prog_2_method_4_code 18 = .ok (.getfield 11, 3) := by decide +kernel
theorem dx_Chest_fits_2 : decode prog_2_method_4_code 2 = .ok (.iload_n 3, 1) := by decide +kernel
theorem dx_Chest_fits_21 : decode prog_2_method_4_code 21 = .ok (.iload_n 3, 1) := by decide +kernel
theorem dx_Chest_fits_22 : decode prog_2_method_4_code 22 = .ok (.aaload, 1) := by decide +kernel
theorem dx_Chest_fits_23 : decode prog_2_method_4_code 23 = .ok (.iload 4, 2) := by decide +kernel
theorem dx_Chest_fits_25 : decode prog_2_method_4_code 25 = .ok (.iconst 0, 1) := by decide +kernel
theorem dx_Chest_fits_26 : decode prog_2_method_4_code 26 = .ok (.iastore, 1) := by decide +kernel
theorem dx_Chest_fits_27 : decode prog_2_method_4_code 27 = .ok (.iinc 4 1, 3) := by decide +kernel
theorem dx_Chest_fits_3 : decode prog_2_method_4_code 3 = .ok (.iconst 4, 1) := by decide +kernel
theorem dx_Chest_fits_30 : decode prog_2_method_4_code 30 = .ok (.goto (-20), 3) := by decide +kernel
theorem dx_Chest_fits_33 : decode prog_2_method_4_code 33 = .ok (.iinc 3 1, 3) := by decide +kernel
theorem dx_Chest_fits_36 : decode prog_2_method_4_code 36 = .ok (.goto (-34), 3) := by decide +kernel
theorem dx_Chest_fits_39 : decode prog_2_method_4_code 39 = .ok (.iconst 1, 1) := by decide +kernel
theorem dx_Chest_fits_4 : decode prog_2_method_4_code 4 = .ok (.if_icmp .ge 35, 3) := by decide +kernel
theorem dx_Chest_fits_40 : decode prog_2_method_4_code 40 = .ok (.istore_n 3, 1) := by decide +kernel
theorem dx_Chest_fits_41 : decode prog_2_method_4_code 41 = .ok (.iload_n 3, 1) := by decide +kernel
theorem dx_Chest_fits_42 : decode prog_2_method_4_code 42 = .ok (.aload_n 1, 1) := by decide +kernel
theorem dx_Chest_fits_43 : decode prog_2_method_4_code 43 = .ok (.getfield 23, 3) := by decide +kernel
theorem dx_Chest_fits_46 : decode prog_2_method_4_code 46 = .ok (.if_icmp .ge 31, 3) := by decide +kernel
theorem dx_Chest_fits_49 : decode prog_2_method_4_code 49 = .ok (.aload_n 0, 1) := by decide +kernel
theorem dx_Chest_fits_50 : decode prog_2_method_4_code 50 = .ok (.getfield 11, 3) := by decide +kernel
theorem dx_Chest_fits_53 : decode prog_2_method_4_code 53 = .ok (.aload_n 0, 1) := by decide +kernel
theorem dx_Chest_fits_54 : decode prog_2_method_4_code 54 = .ok (.getfield 16, 3) := by decide +kernel
theorem dx_Chest_fits_57 : decode prog_2_method_4_code 57 = .ok (.iload_n 3, 1) := by decide +kernel
theorem dx_Chest_fits_58 : decode prog_2_method_4_code 58 = .ok (.iconst 1, 1) := by decide +kernel
theorem dx_Chest_fits_59 : decode prog_2_method_4_code 59 = .ok (.isub, 1) := by decide +kernel
theorem dx_Chest_fits_60 : decode prog_2_method_4_code 60 = .ok (.iaload, 1) := by decide +kernel
theorem dx_Chest_fits_61 : decode prog_2_method_4_code 61 = .ok (.aload_n 0, 1) := by decide +kernel
theorem dx_Chest_fits_62 : decode prog_2_method_4_code 62 = .ok (.getfield 16, 3) := by decide +kernel
theorem dx_Chest_fits_65 : decode prog_2_method_4_code 65 = .ok (.iload_n 3, 1) := by decide +kernel
theorem dx_Chest_fits_66 : decode prog_2_method_4_code 66 = .ok (.iaload, 1) := by decide +kernel
theorem dx_Chest_fits_67 : decode prog_2_method_4_code 67 = .ok (.iconst 3, 1) := by decide +kernel
theorem dx_Chest_fits_68 : decode prog_2_method_4_code 68 = .ok (.invokestatic 43, 3) := by decide +kernel
theorem dx_Chest_fits_7 : decode prog_2_method_4_code 7 = .ok (.iconst 0, 1) := by decide +kernel
theorem dx_Chest_fits_71 : decode prog_2_method_4_code 71 = .ok (.iinc 3 1, 3) := by decide +kernel
theorem dx_Chest_fits_74 : decode prog_2_method_4_code 74 = .ok (.goto (-33), 3) := by decide +kernel
theorem dx_Chest_fits_77 : decode prog_2_method_4_code 77 = .ok (.aload_n 2, 1) := by decide +kernel
theorem dx_Chest_fits_78 : decode prog_2_method_4_code 78 = .ok (.aload_n 1, 1) := by decide +kernel
theorem dx_Chest_fits_79 : decode prog_2_method_4_code 79 = .ok (.aload_n 0, 1) := by decide +kernel
theorem dx_Chest_fits_8 : decode prog_2_method_4_code 8 = .ok (.istore 4, 2) := by decide +kernel
theorem dx_Chest_fits_80 : decode prog_2_method_4_code 80 = .ok (.getfield 11, 3) := by decide +kernel
theorem dx_Chest_fits_83 : decode prog_2_method_4_code 83 = .ok (.aload_n 1, 1) := by decide +kernel
theorem dx_Chest_fits_84 : decode prog_2_method_4_code 84 = .ok (.getfield 47, 3) := by decide +kernel
theorem dx_Chest_fits_87 : decode prog_2_method_4_code 87 = .ok (.invokevirtual 50, 3) := by decide +kernel
theorem dx_Chest_fits_90 : decode prog_2_method_4_code 90 = .ok (.aload_n 2, 1) := by decide +kernel
theorem dx_Chest_fits_91 : decode prog_2_method_4_code 91 = .ok (.aload_n 1, 1) := by decide +kernel
theorem dx_Chest_fits_92 : decode prog_2_method_4_code 92 = .ok (.getfield 56, 3) := by decide +kernel
theorem dx_Chest_fits_95 : decode prog_2_method_4_code 95 = .ok (.iconst 1, 1) := by decide +kernel
theorem dx_Chest_fits_96 : decode prog_2_method_4_code 96 = .ok (.invokevirtual 60, 3) := by decide +kernel
theorem dx_Chest_fits_99 : decode prog_2_method_4_code 99 = .ok (.astore_n 3, 1) := by decide +kernel
theorem dx_Chest_lay_0 : decode prog_2_method_3_code 0 = .ok (.iload_n 1, 1) := by decide +kernel
theorem dx_Chest_lay_1 : decode prog_2_method_3_code 1 = .ok (.istore_n 3, 1) := by decide +kernel
theorem dx_Chest_lay_10 : decode prog_2_method_3_code 10 = .ok (.iload 5, 2) := by decide +kernel
theorem dx_Chest_lay_12 : decode prog_2_method_3_code 12 = .ok (.ifCond .lt 37, 3) := by decide +kernel
theorem dx_Chest_lay_15 : decode prog_2_method_3_code 15 = .ok (.aload_n 0, 1) := by decide +kernel
theorem dx_Chest_lay_16 : decode prog_2_method_3_code 16 = .ok (.getfield 16, 3) := by decide +kernel
theorem dx_Chest_lay_19 : decode prog_2_method_3_code 19 = .ok (.iload 5, 2) := by decide +kernel
theorem dx_Chest_lay_2 : decode prog_2_method_3_code 2 = .ok (.iconst 0, 1) := by decide +kernel
theorem dx_Chest_lay_21 : decode prog_2_method_3_code 21 = .ok (.iload_n 3, 1) := by decide +kernel
theorem dx_Chest_lay_22 : decode prog_2_method_3_code 22 = .ok (.iload_n 2, 1) := by decide +kernel
theorem dx_Chest_lay_23 : decode prog_2_method_3_code 23 = .ok (.irem, 1) := by decide +kernel
theorem dx_Chest_lay_24 : decode prog_2_method_3_code 24 = .ok (.iastore, 1) := by decide +kernel
theorem dx_Chest_lay_25 : decode prog_2_method_3_code 25 = .ok (.iload_n 3, 1) := by decide +kernel
theorem dx_Chest_lay_26 : decode prog_2_method_3_code 26 = .ok (.iload_n 2, 1) := by decide +kernel
theorem dx_Chest_lay_27 : decode prog_2_method_3_code 27 = .ok (.idiv, 1) := by decide +kernel
theorem dx_Chest_lay_28 : decode prog_2_method_3_code 28 = .ok (.istore_n 3, 1) := by decide +kernel
theorem dx_Chest_lay_29 : decode prog_2_method_3_code 29 = .ok (.iload 4, 2) := by decide +kernel
theorem dx_Chest_lay_3 : decode prog_2_method_3_code 3 = .ok (.istore 4, 2) := by decide +kernel
theorem dx_Chest_lay_31 : decode prog_2_method_3_code 31 = .ok (.iconst 1, 1) := by decide +kernel
theorem dx_Chest_lay_32 : decode prog_2_method_3_code 32 = .ok (.aload_n 0, 1) := by decide +kernel
theorem dx_Chest_lay_33 : decode prog_2_method_3_code 33 = .ok (.getfield 16, 3) := by decide +kernel
theorem dx_Chest_lay_36 : decode prog_2_method_3_code 36 = .ok (.iload 5, 2) := by decide +kernel
theorem dx_Chest_lay_38 : decode prog_2_method_3_code 38 = .ok (.iaload, 1) := by decide +kernel
theorem dx_Chest_lay_39 : decode prog_2_method_3_code 39 = .ok (.ishl, 1) := by decide +kernel
theorem dx_Chest_lay_40 : decode prog_2_method_3_code 40 = .ok (.ior, 1) := by decide +kernel
theorem dx_Chest_lay_41 : decode prog_2_method_3_code 41 = .ok (.istore 4, 2) := by decide +kernel
theorem dx_Chest_lay_43 : decode prog_2_method_3_code 43 = .ok (.iinc 5 (-1), 3) := by decide +kernel
theorem dx_Chest_lay_46 : decode prog_2_method_3_code 46 = .ok (.goto (-36), 3) := by decide +kernel
theorem dx_Chest_lay_49 : decode prog_2_method_3_code 49 = .ok (.iload 4, 2) := by decide +kernel
theorem dx_Chest_lay_5 : decode prog_2_method_3_code 5 = .ok (.iload_n 2, 1) := by decide +kernel
theorem dx_Chest_lay_51 : decode prog_2_method_3_code 51 = .ok (.iconst 1, 1) := by decide +kernel
theorem dx_Chest_lay_52 : decode prog_2_method_3_code 52 = .ok (.iload_n 2, 1) := by decide +kernel
theorem dx_Chest_lay_53 : decode prog_2_method_3_code 53 = .ok (.ishl, 1) := by decide +kernel
theorem dx_Chest_lay_54 : decode prog_2_method_3_code 54 = .ok (.iconst 1, 1) := by decide +kernel
theorem dx_Chest_lay_55 : decode prog_2_method_3_code 55 = .ok (.isub, 1) := by decide +kernel
theorem dx_Chest_lay_56 : decode prog_2_method_3_code 56 = .ok (.if_icmp .ne 7, 3) := by decide +kernel
theorem dx_Chest_lay_59 : decode prog_2_method_3_code 59 = .ok (.iconst 1, 1) := by decide +kernel
theorem dx_Chest_lay_6 : decode prog_2_method_3_code 6 = .ok (.iconst 1, 1) := by decide +kernel
theorem dx_Chest_lay_60 : decode prog_2_method_3_code 60 = .ok (.goto 4, 3) := by decide +kernel
theorem dx_Chest_lay_63 : decode prog_2_method_3_code 63 = .ok (.iconst 0, 1) := by decide +kernel
theorem dx_Chest_lay_64 : decode prog_2_method_3_code 64 = .ok (.ireturn, 1) := by decide +kernel
theorem dx_Chest_lay_7 : decode prog_2_method_3_code 7 = .ok (.isub, 1) := by decide +kernel
theorem dx_Chest_lay_8 : decode prog_2_method_3_code 8 = .ok (.istore 5, 2) := by decide +kernel
theorem dx_Fraction_bothDivide_0 : decode prog_3_method_4_code 0 = .ok (.aload_n 0, 1) := by decide +kernel
theorem dx_Fraction_bothDivide_1 : decode prog_3_method_4_code 1 = .ok (.getfield 9, 3) := by decide +kernel
theorem dx_Fraction_bothDivide_12 : decode prog_3_method_4_code 12 = .ok (.ifCond .ne 22, 3) := by decide +kernel
theorem dx_Fraction_bothDivide_15 : decode prog_3_method_4_code 15 = .ok (.aload_n 0, 1) := by decide +kernel
theorem dx_Fraction_bothDivide_16 : decode prog_3_method_4_code 16 = .ok (.getfield 15, 3) := by decide +kernel
theorem dx_Fraction_bothDivide_19 : decode prog_3_method_4_code 19 = .ok (.aload_n 0, 1) := by decide +kernel
theorem dx_Fraction_bothDivide_20 : decode prog_3_method_4_code 20 = .ok (.getfield 22, 3) := by decide +kernel
theorem dx_Fraction_bothDivide_23 : decode prog_3_method_4_code 23 = .ok (.iload_n 1, 1) := by decide +kernel
theorem dx_Fraction_bothDivide_24 : decode prog_3_method_4_code 24 = .ok (.invokestatic 40, 3) := by decide +kernel
theorem dx_Fraction_bothDivide_27 : decode prog_3_method_4_code 27 = .ok (.ifCond .ne 7, 3) := by decide +kernel
theorem dx_Fraction_bothDivide_30 : decode prog_3_method_4_code 30 = .ok (.iconst 1, 1) := by decide +kernel
theorem dx_Fraction_bothDivide_31 : decode prog_3_method_4_code 31 = .ok (.goto 4, 3) := by decide +kernel
theorem dx_Fraction_bothDivide_34 : decode prog_3_method_4_code 34 = .ok (.iconst 0, 1) := by decide +kernel
theorem dx_Fraction_bothDivide_35 : decode prog_3_method_4_code 35 = .ok (.ireturn, 1) := by decide +kernel
theorem dx_Fraction_bothDivide_4 : decode prog_3_method_4_code 4 = .ok (.aload_n 0, 1) := by decide +kernel
theorem dx_Fraction_bothDivide_5 : decode prog_3_method_4_code 5 = .ok (.getfield 18, 3) := by decide +kernel
theorem dx_Fraction_bothDivide_8 : decode prog_3_method_4_code 8 = .ok (.iload_n 1, 1) := by decide +kernel
theorem dx_Fraction_bothDivide_9 : decode prog_3_method_4_code 9 = .ok (.invokestatic 40, 3) := by decide +kernel
theorem dx_Fraction_digit_0 : decode prog_3_method_9_code 0 = .ok (.iload_n 2, 1) := by decide +kernel
theorem dx_Fraction_digit_1 : decode prog_3_method_9_code 1 = .ok (.iload_n 1, 1) := by decide +kernel
theorem dx_Fraction_digit_12 : decode prog_3_method_9_code 12 = .ok (.aload_n 0, 1) := by decide +kernel
theorem dx_Fraction_digit_13 : decode prog_3_method_9_code 13 = .ok (.getfield 22, 3) := by decide +kernel
theorem dx_Fraction_digit_16 : decode prog_3_method_9_code 16 = .ok (.if_icmp .lt 5, 3) := by decide +kernel
theorem dx_Fraction_digit_19 : decode prog_3_method_9_code 19 = .ok (.iconst (-1), 1) := by decide +kernel
theorem dx_Fraction_digit_2 : decode prog_3_method_9_code 2 = .ok (.ifCond .ne 10, 3) := by decide +kernel
theorem dx_Fraction_digit_20 : decode prog_3_method_9_code 20 = .ok (.ireturn, 1) := by decide +kernel
theorem dx_Fraction_digit_21 : decode prog_3_method_9_code 21 = .ok (.iload_n 1, 1) := by decide +kernel
theorem dx_Fraction_digit_22 : decode prog_3_method_9_code 22 = .ok (.ifCond .ne 12, 3) := by decide +kernel
theorem dx_Fraction_digit_25 : decode prog_3_method_9_code 25 = .ok (.aload_n 0, 1) := by decide +kernel
theorem dx_Fraction_digit_26 : decode prog_3_method_9_code 26 = .ok (.getfield 9, 3) := by decide +kernel
theorem dx_Fraction_digit_29 : decode prog_3_method_9_code 29 = .ok (.iload_n 2, 1) := by decide +kernel
theorem dx_Fraction_digit_30 : decode prog_3_method_9_code 30 = .ok (.iaload, 1) := by decide +kernel
theorem dx_Fraction_digit_31 : decode prog_3_method_9_code 31 = .ok (.goto 9, 3) := by decide +kernel
theorem dx_Fraction_digit_34 : decode prog_3_method_9_code 34 = .ok (.aload_n 0, 1) := by decide +kernel
theorem dx_Fraction_digit_35 : decode prog_3_method_9_code 35 = .ok (.getfield 15, 3) := by decide +kernel
theorem dx_Fraction_digit_38 : decode prog_3_method_9_code 38 = .ok (.iload_n 2, 1) := by decide +kernel
theorem dx_Fraction_digit_39 : decode prog_3_method_9_code 39 = .ok (.iaload, 1) := by decide +kernel
theorem dx_Fraction_digit_40 : decode prog_3_method_9_code 40 = .ok (.ireturn, 1) := by decide +kernel
theorem dx_Fraction_digit_5 : decode prog_3_method_9_code 5 = .ok (.aload_n 0, 1) := by decide +kernel
theorem dx_Fraction_digit_6 : decode prog_3_method_9_code 6 = .ok (.getfield 18, 3) := by decide +kernel
theorem dx_Fraction_digit_9 : decode prog_3_method_9_code 9 = .ok (.goto 7, 3) := by decide +kernel
theorem dx_Fraction_divide_0 : decode prog_3_method_6_code 0 = .ok (.lconst 0, 1) := by decide +kernel
theorem dx_Fraction_divide_1 : decode prog_3_method_6_code 1 = .ok (.lstore_n 3, 1) := by decide +kernel
theorem dx_Fraction_divide_12 : decode prog_3_method_6_code 12 = .ok (.iload_n 2, 1) := by decide +kernel
theorem dx_Fraction_divide_13 : decode prog_3_method_6_code 13 = .ok (.iconst 1, 1) := by decide +kernel
theorem dx_Fraction_divide_14 : decode prog_3_method_6_code 14 = .ok (.if_icmp .le 37, 3) := by decide +kernel
theorem dx_Fraction_divide_17 : decode prog_3_method_6_code 17 = .ok (.lload_n 3, 1) := by decide +kernel
theorem dx_Fraction_divide_18 : decode prog_3_method_6_code 18 = .ok (.bipush 30, 2) := by decide +kernel
theorem dx_Fraction_divide_2 : decode prog_3_method_6_code 2 = .ok (.iload_n 1, 1) := by decide +kernel
theorem dx_Fraction_divide_20 : decode prog_3_method_6_code 20 = .ok (.lshl, 1) := by decide +kernel
theorem dx_Fraction_divide_21 : decode prog_3_method_6_code 21 = .ok (.aload_n 0, 1) := by decide +kernel
theorem dx_Fraction_divide_22 : decode prog_3_method_6_code 22 = .ok (.iload 5, 2) := by decide +kernel
theorem dx_Fraction_divide_24 : decode prog_3_method_6_code 24 = .ok (.iaload, 1) := by decide +kernel
theorem dx_Fraction_divide_25 : decode prog_3_method_6_code 25 = .ok (.i2l, 1) := by decide +kernel
theorem dx_Fraction_divide_26 : decode prog_3_method_6_code 26 = .ok (.ladd, 1) := by decide +kernel
theorem dx_Fraction_divide_27 : decode prog_3_method_6_code 27 = .ok (.lstore 6, 2) := by decide +kernel
theorem dx_Fraction_divide_29 : decode prog_3_method_6_code 29 = .ok (.aload_n 0, 1) := by decide +kernel
theorem dx_Fraction_divide_3 : decode prog_3_method_6_code 3 = .ok (.iconst 1, 1) := by decide +kernel
theorem dx_Fraction_divide_30 : decode prog_3_method_6_code 30 = .ok (.iload 5, 2) := by decide +kernel
theorem dx_Fraction_divide_32 : decode prog_3_method_6_code 32 = .ok (.lload 6, 2) := by decide +kernel
theorem dx_Fraction_divide_34 : decode prog_3_method_6_code 34 = .ok (.iload_n 2, 1) := by decide +kernel
theorem dx_Fraction_divide_35 : decode prog_3_method_6_code 35 = .ok (.i2l, 1) := by decide +kernel
theorem dx_Fraction_divide_36 : decode prog_3_method_6_code 36 = .ok (.ldiv, 1) := by decide +kernel
theorem dx_Fraction_divide_37 : decode prog_3_method_6_code 37 = .ok (.l2i, 1) := by decide +kernel
theorem dx_Fraction_divide_38 : decode prog_3_method_6_code 38 = .ok (.iastore, 1) := by decide +kernel
theorem dx_Fraction_divide_39 : decode prog_3_method_6_code 39 = .ok (.lload 6, 2) := by decide +kernel
theorem dx_Fraction_divide_4 : decode prog_3_method_6_code 4 = .ok (.isub, 1) := by decide +kernel
theorem dx_Fraction_divide_41 : decode prog_3_method_6_code 41 = .ok (.iload_n 2, 1) := by decide +kernel
theorem dx_Fraction_divide_42 : decode prog_3_method_6_code 42 = .ok (.i2l, 1) := by decide +kernel
theorem dx_Fraction_divide_43 : decode prog_3_method_6_code 43 = .ok (.lrem, 1) := by decide +kernel
theorem dx_Fraction_divide_44 : decode prog_3_method_6_code 44 = .ok (.lstore_n 3, 1) := by decide +kernel
theorem dx_Fraction_divide_45 : decode prog_3_method_6_code 45 = .ok (.iinc 5 (-1), 3) := by decide +kernel
theorem dx_Fraction_divide_48 : decode prog_3_method_6_code 48 = .ok (.goto (-41), 3) := by decide +kernel
theorem dx_Fraction_divide_5 : decode prog_3_method_6_code 5 = .ok (.istore 5, 2) := by decide +kernel
theorem dx_Fraction_divide_51 : decode prog_3_method_6_code 51 = .ok (.return_, 1) := by decide +kernel
theorem dx_Fraction_divide_7 : decode prog_3_method_6_code 7 = .ok (.iload 5, 2) := by decide +kernel
theorem dx_Fraction_divide_9 : decode prog_3_method_6_code 9 = .ok (.ifCond .lt 42, 3) := by decide +kernel
theorem dx_Fraction_mixInto_0 : decode prog_3_method_10_code 0 = .ok (.lload_n 1, 1) := by decide +kernel
theorem dx_Fraction_mixInto_1 : decode prog_3_method_10_code 1 = .ok (.lstore_n 3, 1) := by decide +kernel
theorem dx_Fraction_mixInto_11 : decode prog_3_method_10_code 11 = .ok (.ldc2_w 76, 3) := by decide +kernel
theorem dx_Fraction_mixInto_14 : decode prog_3_method_10_code 14 = .ok (.lload_n 3, 1) := by decide +kernel
theorem dx_Fraction_mixInto_15 : decode prog_3_method_10_code 15 = .ok (.lmul, 1) := by decide +kernel
theorem dx_Fraction_mixInto_16 : decode prog_3_method_10_code 16 = .ok (.aload_n 0, 1) := by decide +kernel
theorem dx_Fraction_mixInto_17 : decode prog_3_method_10_code 17 = .ok (.iload 5, 2) := by decide +kernel
theorem dx_Fraction_mixInto_19 : decode prog_3_method_10_code 19 = .ok (.invokevirtual 78, 3) := by decide +kernel
theorem dx_Fraction_mixInto_2 : decode prog_3_method_10_code 2 = .ok (.iconst 0, 1) := by decide +kernel
theorem dx_Fraction_mixInto_22 : decode prog_3_method_10_code 22 = .ok (.i2l, 1) := by decide +kernel
theorem dx_Fraction_mixInto_23 : decode prog_3_method_10_code 23 = .ok (.ladd, 1) := by decide +kernel
theorem dx_Fraction_mixInto_24 : decode prog_3_method_10_code 24 = .ok (.lstore_n 3, 1) := by decide +kernel
theorem dx_Fraction_mixInto_25 : decode prog_3_method_10_code 25 = .ok (.iinc 5 1, 3) := by decide +kernel
theorem dx_Fraction_mixInto_28 : decode prog_3_method_10_code 28 = .ok (.goto (-23), 3) := by decide +kernel
theorem dx_Fraction_mixInto_3 : decode prog_3_method_10_code 3 = .ok (.istore 5, 2) := by decide +kernel
theorem dx_Fraction_mixInto_31 : decode prog_3_method_10_code 31 = .ok (.iconst 0, 1) := by decide +kernel
theorem dx_Fraction_mixInto_32 : decode prog_3_method_10_code 32 = .ok (.istore 5, 2) := by decide +kernel
theorem dx_Fraction_mixInto_34 : decode prog_3_method_10_code 34 = .ok (.iload 5, 2) := by decide +kernel
theorem dx_Fraction_mixInto_36 : decode prog_3_method_10_code 36 = .ok (.aload_n 0, 1) := by decide +kernel
theorem dx_Fraction_mixInto_37 : decode prog_3_method_10_code 37 = .ok (.getfield 18, 3) := by decide +kernel
theorem dx_Fraction_mixInto_40 : decode prog_3_method_10_code 40 = .ok (.if_icmp .ge 24, 3) := by decide +kernel
theorem dx_Fraction_mixInto_43 : decode prog_3_method_10_code 43 = .ok (.ldc2_w 76, 3) := by decide +kernel
theorem dx_Fraction_mixInto_46 : decode prog_3_method_10_code 46 = .ok (.lload_n 3, 1) := by decide +kernel
theorem dx_Fraction_mixInto_47 : decode prog_3_method_10_code 47 = .ok (.lmul, 1) := by decide +kernel
theorem dx_Fraction_mixInto_48 : decode prog_3_method_10_code 48 = .ok (.aload_n 0, 1) := by decide +kernel
theorem dx_Fraction_mixInto_49 : decode prog_3_method_10_code 49 = .ok (.getfield 9, 3) := by decide +kernel
theorem dx_Fraction_mixInto_5 : decode prog_3_method_10_code 5 = .ok (.iload 5, 2) := by decide +kernel
theorem dx_Fraction_mixInto_52 : decode prog_3_method_10_code 52 = .ok (.iload 5, 2) := by decide +kernel
theorem dx_Fraction_mixInto_54 : decode prog_3_method_10_code 54 = .ok (.iaload, 1) := by decide +kernel
theorem dx_Fraction_mixInto_55 : decode prog_3_method_10_code 55 = .ok (.i2l, 1) := by decide +kernel
theorem dx_Fraction_mixInto_56 : decode prog_3_method_10_code 56 = .ok (.ladd, 1) := by decide +kernel
theorem dx_Fraction_mixInto_57 : decode prog_3_method_10_code 57 = .ok (.lstore_n 3, 1) := by decide +kernel
theorem dx_Fraction_mixInto_58 : decode prog_3_method_10_code 58 = .ok (.iinc 5 1, 3) := by decide +kernel
theorem dx_Fraction_mixInto_61 : decode prog_3_method_10_code 61 = .ok (.goto (-27), 3) := by decide +kernel
theorem dx_Fraction_mixInto_64 : decode prog_3_method_10_code 64 = .ok (.iconst 0, 1) := by decide +kernel
theorem dx_Fraction_mixInto_65 : decode prog_3_method_10_code 65 = .ok (.istore 5, 2) := by decide +kernel
theorem dx_Fraction_mixInto_67 : decode prog_3_method_10_code 67 = .ok (.iload 5, 2) := by decide +kernel
theorem dx_Fraction_mixInto_69 : decode prog_3_method_10_code 69 = .ok (.aload_n 0, 1) := by decide +kernel
theorem dx_Fraction_mixInto_7 : decode prog_3_method_10_code 7 = .ok (.iconst 2, 1) := by decide +kernel
theorem dx_Fraction_mixInto_70 : decode prog_3_method_10_code 70 = .ok (.getfield 22, 3) := by decide +kernel
theorem dx_Fraction_mixInto_73 : decode prog_3_method_10_code 73 = .ok (.if_icmp .ge 24, 3) := by decide +kernel
theorem dx_Fraction_mixInto_76 : decode prog_3_method_10_code 76 = .ok (.ldc2_w 76, 3) := by decide +kernel
theorem dx_Fraction_mixInto_79 : decode prog_3_method_10_code 79 = .ok (.lload_n 3, 1) := by decide +kernel
theorem dx_Fraction_mixInto_8 : decode prog_3_method_10_code 8 = .ok (.if_icmp .gt 23, 3) := by decide +kernel
theorem dx_Fraction_mixInto_80 : decode prog_3_method_10_code 80 = .ok (.lmul, 1) := by decide +kernel
theorem dx_Fraction_mixInto_81 : decode prog_3_method_10_code 81 = .ok (.aload_n 0, 1) := by decide +kernel
theorem dx_Fraction_mixInto_82 : decode prog_3_method_10_code 82 = .ok (.getfield 15, 3) := by decide +kernel
theorem dx_Fraction_mixInto_85 : decode prog_3_method_10_code 85 = .ok (.iload 5, 2) := by decide +kernel
theorem dx_Fraction_mixInto_87 : decode prog_3_method_10_code 87 = .ok (.iaload, 1) := by decide +kernel
theorem dx_Fraction_mixInto_88 : decode prog_3_method_10_code 88 = .ok (.i2l, 1) := by decide +kernel
theorem dx_Fraction_mixInto_89 : decode prog_3_method_10_code 89 = .ok (.ladd, 1) := by decide +kernel
theorem dx_Fraction_mixInto_90 : decode prog_3_method_10_code 90 = .ok (.lstore_n 3, 1) := by decide +kernel
theorem dx_Fraction_mixInto_91 : decode prog_3_method_10_code 91 = .ok (.iinc 5 1, 3) := by decide +kernel
theorem dx_Fraction_mixInto_94 : decode prog_3_method_10_code 94 = .ok (.goto (-27), 3) := by decide +kernel
theorem dx_Fraction_mixInto_97 : decode prog_3_method_10_code 97 = .ok (.lload_n 3, 1) := by decide +kernel
theorem dx_Fraction_mixInto_98 : decode prog_3_method_10_code 98 = .ok (.lreturn, 1) := by decide +kernel
theorem dx_Fraction_put_0 : decode prog_3_method_2_code 0 = .ok (.aload_n 1, 1) := by decide +kernel
theorem dx_Fraction_put_1 : decode prog_3_method_2_code 1 = .ok (.aload_n 2, 1) := by decide +kernel
theorem dx_Fraction_put_10 : decode prog_3_method_2_code 10 = .ok (.aload_n 0, 1) := by decide +kernel
theorem dx_Fraction_put_101 : decode prog_3_method_2_code 101 = .ok (.aload_n 1, 1) := by decide +kernel
theorem dx_Fraction_put_102 : decode prog_3_method_2_code 102 = .ok (.getfield 60, 3) := by decide +kernel
theorem dx_Fraction_put_105 : decode prog_3_method_2_code 105 = .ok (.iconst 4, 1) := by decide +kernel
theorem dx_Fraction_put_106 : decode prog_3_method_2_code 106 = .ok (.ldc2_w 64, 3) := by decide +kernel
theorem dx_Fraction_put_109 : decode prog_3_method_2_code 109 = .ok (.iload_n 3, 1) := by decide +kernel
theorem dx_Fraction_put_11 : decode prog_3_method_2_code 11 = .ok (.aload_n 0, 1) := by decide +kernel
theorem dx_Fraction_put_110 : decode prog_3_method_2_code 110 = .ok (.iload 4, 2) := by decide +kernel
theorem dx_Fraction_put_112 : decode prog_3_method_2_code 112 = .ok (.idiv, 1) := by decide +kernel
theorem dx_Fraction_put_113 : decode prog_3_method_2_code 113 = .ok (.i2l, 1) := by decide +kernel
theorem dx_Fraction_put_114 : decode prog_3_method_2_code 114 = .ok (.lmul, 1) := by decide +kernel
theorem dx_Fraction_put_115 : decode prog_3_method_2_code 115 = .ok (.lastore, 1) := by decide +kernel
theorem dx_Fraction_put_116 : decode prog_3_method_2_code 116 = .ok (.aload_n 1, 1) := by decide +kernel
theorem dx_Fraction_put_117 : decode prog_3_method_2_code 117 = .ok (.aload_n 2, 1) := by decide +kernel
theorem dx_Fraction_put_118 : decode prog_3_method_2_code 118 = .ok (.aload_n 0, 1) := by decide +kernel
theorem dx_Fraction_put_119 : decode prog_3_method_2_code 119 = .ok (.getfield 15, 3) := by decide +kernel
theorem dx_Fraction_put_12 : decode prog_3_method_2_code 12 = .ok (.getfield 9, 3) := by decide +kernel
theorem dx_Fraction_put_122 : decode prog_3_method_2_code 122 = .ok (.iconst 0, 1) := by decide +kernel
theorem dx_Fraction_put_123 : decode prog_3_method_2_code 123 = .ok (.invokevirtual 25, 3) := by decide +kernel
theorem dx_Fraction_put_126 : decode prog_3_method_2_code 126 = .ok (.aload_n 0, 1) := by decide +kernel
theorem dx_Fraction_put_127 : decode prog_3_method_2_code 127 = .ok (.aload_n 0, 1) := by decide +kernel
theorem dx_Fraction_put_128 : decode prog_3_method_2_code 128 = .ok (.getfield 15, 3) := by decide +kernel
theorem dx_Fraction_put_131 : decode prog_3_method_2_code 131 = .ok (.aload_n 2, 1) := by decide +kernel
theorem dx_Fraction_put_132 : decode prog_3_method_2_code 132 = .ok (.getfield 31, 3) := by decide +kernel
theorem dx_Fraction_put_135 : decode prog_3_method_2_code 135 = .ok (.iconst 1, 1) := by decide +kernel
theorem dx_Fraction_put_136 : decode prog_3_method_2_code 136 = .ok (.iadd, 1) := by decide +kernel
theorem dx_Fraction_put_137 : decode prog_3_method_2_code 137 = .ok (.invokestatic 36, 3) := by decide +kernel
theorem dx_Fraction_put_140 : decode prog_3_method_2_code 140 = .ok (.putfield 22, 3) := by decide +kernel
theorem dx_Fraction_put_143 : decode prog_3_method_2_code 143 = .ok (.aload_n 0, 1) := by decide +kernel
theorem dx_Fraction_put_144 : decode prog_3_method_2_code 144 = .ok (.invokevirtual 66, 3) := by decide +kernel
theorem dx_Fraction_put_147 : decode prog_3_method_2_code 147 = .ok (.return_, 1) := by decide +kernel
theorem dx_Fraction_put_15 : decode prog_3_method_2_code 15 = .ok (.aload_n 2, 1) := by decide +kernel
theorem dx_Fraction_put_16 : decode prog_3_method_2_code 16 = .ok (.getfield 31, 3) := by decide +kernel
theorem dx_Fraction_put_19 : decode prog_3_method_2_code 19 = .ok (.iconst 1, 1) := by decide +kernel
theorem dx_Fraction_put_2 : decode prog_3_method_2_code 2 = .ok (.aload_n 0, 1) := by decide +kernel
theorem dx_Fraction_put_20 : decode prog_3_method_2_code 20 = .ok (.iadd, 1) := by decide +kernel
theorem dx_Fraction_put_21 : decode prog_3_method_2_code 21 = .ok (.invokestatic 36, 3) := by decide +kernel
theorem dx_Fraction_put_24 : decode prog_3_method_2_code 24 = .ok (.putfield 18, 3) := by decide +kernel
theorem dx_Fraction_put_27 : decode prog_3_method_2_code 27 = .ok (.aload_n 0, 1) := by decide +kernel
theorem dx_Fraction_put_28 : decode prog_3_method_2_code 28 = .ok (.getfield 18, 3) := by decide +kernel
theorem dx_Fraction_put_3 : decode prog_3_method_2_code 3 = .ok (.getfield 9, 3) := by decide +kernel
theorem dx_Fraction_put_31 : decode prog_3_method_2_code 31 = .ok (.ifCond .ne 16, 3) := by decide +kernel
theorem dx_Fraction_put_34 : decode prog_3_method_2_code 34 = .ok (.aload_n 0, 1) := by decide +kernel
theorem dx_Fraction_put_35 : decode prog_3_method_2_code 35 = .ok (.getfield 15, 3) := by decide +kernel
theorem dx_Fraction_put_38 : decode prog_3_method_2_code 38 = .ok (.iconst 0, 1) := by decide +kernel
theorem dx_Fraction_put_39 : decode prog_3_method_2_code 39 = .ok (.iconst 1, 1) := by decide +kernel
theorem dx_Fraction_put_40 : decode prog_3_method_2_code 40 = .ok (.iastore, 1) := by decide +kernel
theorem dx_Fraction_put_41 : decode prog_3_method_2_code 41 = .ok (.aload_n 0, 1) := by decide +kernel
theorem dx_Fraction_put_42 : decode prog_3_method_2_code 42 = .ok (.iconst 1, 1) := by decide +kernel
theorem dx_Fraction_put_43 : decode prog_3_method_2_code 43 = .ok (.putfield 22, 3) := by decide +kernel
theorem dx_Fraction_put_46 : decode prog_3_method_2_code 46 = .ok (.return_, 1) := by decide +kernel
theorem dx_Fraction_put_47 : decode prog_3_method_2_code 47 = .ok (.iconst 1, 1) := by decide +kernel
theorem dx_Fraction_put_48 : decode prog_3_method_2_code 48 = .ok (.iload_n 3, 1) := by decide +kernel
theorem dx_Fraction_put_49 : decode prog_3_method_2_code 49 = .ok (.aload_n 0, 1) := by decide +kernel
theorem dx_Fraction_put_50 : decode prog_3_method_2_code 50 = .ok (.getfield 9, 3) := by decide +kernel
theorem dx_Fraction_put_53 : decode prog_3_method_2_code 53 = .ok (.aload_n 0, 1) := by decide +kernel
theorem dx_Fraction_put_54 : decode prog_3_method_2_code 54 = .ok (.getfield 18, 3) := by decide +kernel
theorem dx_Fraction_put_57 : decode prog_3_method_2_code 57 = .ok (.iload_n 3, 1) := by decide +kernel
theorem dx_Fraction_put_58 : decode prog_3_method_2_code 58 = .ok (.invokestatic 40, 3) := by decide +kernel
theorem dx_Fraction_put_6 : decode prog_3_method_2_code 6 = .ok (.iconst 0, 1) := by decide +kernel
theorem dx_Fraction_put_61 : decode prog_3_method_2_code 61 = .ok (.invokestatic 44, 3) := by decide +kernel
theorem dx_Fraction_put_64 : decode prog_3_method_2_code 64 = .ok (.invokestatic 48, 3) := by decide +kernel
theorem dx_Fraction_put_67 : decode prog_3_method_2_code 67 = .ok (.istore 4, 2) := by decide +kernel
theorem dx_Fraction_put_69 : decode prog_3_method_2_code 69 = .ok (.aload_n 0, 1) := by decide +kernel
theorem dx_Fraction_put_7 : decode prog_3_method_2_code 7 = .ok (.invokevirtual 25, 3) := by decide +kernel
theorem dx_Fraction_put_70 : decode prog_3_method_2_code 70 = .ok (.getfield 9, 3) := by decide +kernel
theorem dx_Fraction_put_73 : decode prog_3_method_2_code 73 = .ok (.aload_n 0, 1) := by decide +kernel
theorem dx_Fraction_put_74 : decode prog_3_method_2_code 74 = .ok (.getfield 18, 3) := by decide +kernel
theorem dx_Fraction_put_77 : decode prog_3_method_2_code 77 = .ok (.iload 4, 2) := by decide +kernel
theorem dx_Fraction_put_79 : decode prog_3_method_2_code 79 = .ok (.invokestatic 53, 3) := by decide +kernel
theorem dx_Fraction_put_82 : decode prog_3_method_2_code 82 = .ok (.aload_n 0, 1) := by decide +kernel
theorem dx_Fraction_put_83 : decode prog_3_method_2_code 83 = .ok (.aload_n 0, 1) := by decide +kernel
theorem dx_Fraction_put_84 : decode prog_3_method_2_code 84 = .ok (.getfield 9, 3) := by decide +kernel
theorem dx_Fraction_put_87 : decode prog_3_method_2_code 87 = .ok (.aload_n 0, 1) := by decide +kernel
theorem dx_Fraction_put_88 : decode prog_3_method_2_code 88 = .ok (.getfield 18, 3) := by decide +kernel
theorem dx_Fraction_put_91 : decode prog_3_method_2_code 91 = .ok (.invokestatic 36, 3) := by decide +kernel
theorem dx_Fraction_put_94 : decode prog_3_method_2_code 94 = .ok (.putfield 18, 3) := by decide +kernel
theorem dx_Fraction_put_97 : decode prog_3_method_2_code 97 = .ok (.aload_n 1, 1) := by decide +kernel
theorem dx_Fraction_put_98 : decode prog_3_method_2_code 98 = .ok (.invokevirtual 57, 3) := by decide +kernel
theorem dx_Fraction_reduce_0 : decode prog_3_method_3_code 0 = .ok (.getstatic 69, 3) := by decide +kernel
theorem dx_Fraction_reduce_10 : decode prog_3_method_3_code 10 = .ok (.iload_n 2, 1) := by decide +kernel
theorem dx_Fraction_reduce_101 : decode prog_3_method_3_code 101 = .ok (.iinc 3 1, 3) := by decide +kernel
theorem dx_Fraction_reduce_104 : decode prog_3_method_3_code 104 = .ok (.goto (-95), 3) := by decide +kernel
theorem dx_Fraction_reduce_107 : decode prog_3_method_3_code 107 = .ok (.return_, 1) := by decide +kernel
theorem dx_Fraction_reduce_11 : decode prog_3_method_3_code 11 = .ok (.if_icmp .ge 96, 3) := by decide +kernel
theorem dx_Fraction_reduce_14 : decode prog_3_method_3_code 14 = .ok (.aload_n 1, 1) := by decide +kernel
theorem dx_Fraction_reduce_15 : decode prog_3_method_3_code 15 = .ok (.iload_n 3, 1) := by decide +kernel
theorem dx_Fraction_reduce_16 : decode prog_3_method_3_code 16 = .ok (.iaload, 1) := by decide +kernel
theorem dx_Fraction_reduce_17 : decode prog_3_method_3_code 17 = .ok (.istore 4, 2) := by decide +kernel
theorem dx_Fraction_reduce_19 : decode prog_3_method_3_code 19 = .ok (.iconst 0, 1) := by decide +kernel
theorem dx_Fraction_reduce_20 : decode prog_3_method_3_code 20 = .ok (.istore 5, 2) := by decide +kernel
theorem dx_Fraction_reduce_22 : decode prog_3_method_3_code 22 = .ok (.iload 5, 2) := by decide +kernel
theorem dx_Fraction_reduce_24 : decode prog_3_method_3_code 24 = .ok (.sipush 1000, 3) := by decide +kernel
theorem dx_Fraction_reduce_27 : decode prog_3_method_3_code 27 = .ok (.if_icmp .ge 74, 3) := by decide +kernel
theorem dx_Fraction_reduce_3 : decode prog_3_method_3_code 3 = .ok (.astore_n 1, 1) := by decide +kernel
theorem dx_Fraction_reduce_30 : decode prog_3_method_3_code 30 = .ok (.aload_n 0, 1) := by decide +kernel
theorem dx_Fraction_reduce_31 : decode prog_3_method_3_code 31 = .ok (.iload 4, 2) := by decide +kernel
theorem dx_Fraction_reduce_33 : decode prog_3_method_3_code 33 = .ok (.invokevirtual 72, 3) := by decide +kernel
theorem dx_Fraction_reduce_36 : decode prog_3_method_3_code 36 = .ok (.ifCond .eq 65, 3) := by decide +kernel
theorem dx_Fraction_reduce_39 : decode prog_3_method_3_code 39 = .ok (.aload_n 0, 1) := by decide +kernel
theorem dx_Fraction_reduce_4 : decode prog_3_method_3_code 4 = .ok (.aload_n 1, 1) := by decide +kernel
theorem dx_Fraction_reduce_40 : decode prog_3_method_3_code 40 = .ok (.getfield 9, 3) := by decide +kernel
theorem dx_Fraction_reduce_43 : decode prog_3_method_3_code 43 = .ok (.aload_n 0, 1) := by decide +kernel
theorem dx_Fraction_reduce_44 : decode prog_3_method_3_code 44 = .ok (.getfield 18, 3) := by decide +kernel
theorem dx_Fraction_reduce_47 : decode prog_3_method_3_code 47 = .ok (.iload 4, 2) := by decide +kernel
theorem dx_Fraction_reduce_49 : decode prog_3_method_3_code 49 = .ok (.invokestatic 53, 3) := by decide +kernel
theorem dx_Fraction_reduce_5 : decode prog_3_method_3_code 5 = .ok (.arraylength, 1) := by decide +kernel
theorem dx_Fraction_reduce_52 : decode prog_3_method_3_code 52 = .ok (.aload_n 0, 1) := by decide +kernel
theorem dx_Fraction_reduce_53 : decode prog_3_method_3_code 53 = .ok (.getfield 15, 3) := by decide +kernel
theorem dx_Fraction_reduce_56 : decode prog_3_method_3_code 56 = .ok (.aload_n 0, 1) := by decide +kernel
theorem dx_Fraction_reduce_57 : decode prog_3_method_3_code 57 = .ok (.getfield 22, 3) := by decide +kernel
theorem dx_Fraction_reduce_6 : decode prog_3_method_3_code 6 = .ok (.istore_n 2, 1) := by decide +kernel
theorem dx_Fraction_reduce_60 : decode prog_3_method_3_code 60 = .ok (.iload 4, 2) := by decide +kernel
theorem dx_Fraction_reduce_62 : decode prog_3_method_3_code 62 = .ok (.invokestatic 53, 3) := by decide +kernel
theorem dx_Fraction_reduce_65 : decode prog_3_method_3_code 65 = .ok (.aload_n 0, 1) := by decide +kernel
theorem dx_Fraction_reduce_66 : decode prog_3_method_3_code 66 = .ok (.aload_n 0, 1) := by decide +kernel
theorem dx_Fraction_reduce_67 : decode prog_3_method_3_code 67 = .ok (.getfield 9, 3) := by decide +kernel
theorem dx_Fraction_reduce_7 : decode prog_3_method_3_code 7 = .ok (.iconst 0, 1) := by decide +kernel
theorem dx_Fraction_reduce_70 : decode prog_3_method_3_code 70 = .ok (.aload_n 0, 1) := by decide +kernel
theorem dx_Fraction_reduce_71 : decode prog_3_method_3_code 71 = .ok (.getfield 18, 3) := by decide +kernel
theorem dx_Fraction_reduce_74 : decode prog_3_method_3_code 74 = .ok (.invokestatic 36, 3) := by decide +kernel
theorem dx_Fraction_reduce_77 : decode prog_3_method_3_code 77 = .ok (.putfield 18, 3) := by decide +kernel
theorem dx_Fraction_reduce_8 : decode prog_3_method_3_code 8 = .ok (.istore_n 3, 1) := by decide +kernel
theorem dx_Fraction_reduce_80 : decode prog_3_method_3_code 80 = .ok (.aload_n 0, 1) := by decide +kernel
theorem dx_Fraction_reduce_81 : decode prog_3_method_3_code 81 = .ok (.aload_n 0, 1) := by decide +kernel
theorem dx_Fraction_reduce_82 : decode prog_3_method_3_code 82 = .ok (.getfield 15, 3) := by decide +kernel
theorem dx_Fraction_reduce_85 : decode prog_3_method_3_code 85 = .ok (.aload_n 0, 1) := by decide +kernel
theorem dx_Fraction_reduce_86 : decode prog_3_method_3_code 86 = .ok (.getfield 22, 3) := by decide +kernel
theorem dx_Fraction_reduce_89 : decode prog_3_method_3_code 89 = .ok (.invokestatic 36, 3) := by decide +kernel
theorem dx_Fraction_reduce_9 : decode prog_3_method_3_code 9 = .ok (.iload_n 3, 1) := by decide +kernel
theorem dx_Fraction_reduce_92 : decode prog_3_method_3_code 92 = .ok (.putfield 22, 3) := by decide +kernel
theorem dx_Fraction_reduce_95 : decode prog_3_method_3_code 95 = .ok (.iinc 5 1, 3) := by decide +kernel
theorem dx_Fraction_reduce_98 : decode prog_3_method_3_code 98 = .ok (.goto (-76), 3) := by decide +kernel
theorem dx_Fraction_remainder_0 : decode prog_3_method_5_code 0 = .ok (.lconst 0, 1) := by decide +kernel
theorem dx_Fraction_remainder_1 : decode prog_3_method_5_code 1 = .ok (.lstore_n 3, 1) := by decide +kernel
theorem dx_Fraction_remainder_12 : decode prog_3_method_5_code 12 = .ok (.iload_n 2, 1) := by decide +kernel
theorem dx_Fraction_remainder_13 : decode prog_3_method_5_code 13 = .ok (.ifCond .le 23, 3) := by decide +kernel
theorem dx_Fraction_remainder_16 : decode prog_3_method_5_code 16 = .ok (.lload_n 3, 1) := by decide +kernel
theorem dx_Fraction_remainder_17 : decode prog_3_method_5_code 17 = .ok (.bipush 30, 2) := by decide +kernel
theorem dx_Fraction_remainder_19 : decode prog_3_method_5_code 19 = .ok (.lshl, 1) := by decide +kernel
theorem dx_Fraction_remainder_2 : decode prog_3_method_5_code 2 = .ok (.iload_n 1, 1) := by decide +kernel
theorem dx_Fraction_remainder_20 : decode prog_3_method_5_code 20 = .ok (.aload_n 0, 1) := by decide +kernel
theorem dx_Fraction_remainder_21 : decode prog_3_method_5_code 21 = .ok (.iload 5, 2) := by decide +kernel
theorem dx_Fraction_remainder_23 : decode prog_3_method_5_code 23 = .ok (.iaload, 1) := by decide +kernel
theorem dx_Fraction_remainder_24 : decode prog_3_method_5_code 24 = .ok (.i2l, 1) := by decide +kernel
theorem dx_Fraction_remainder_25 : decode prog_3_method_5_code 25 = .ok (.ladd, 1) := by decide +kernel
theorem dx_Fraction_remainder_26 : decode prog_3_method_5_code 26 = .ok (.iload_n 2, 1) := by decide +kernel
theorem dx_Fraction_remainder_27 : decode prog_3_method_5_code 27 = .ok (.i2l, 1) := by decide +kernel
theorem dx_Fraction_remainder_28 : decode prog_3_method_5_code 28 = .ok (.lrem, 1) := by decide +kernel
theorem dx_Fraction_remainder_29 : decode prog_3_method_5_code 29 = .ok (.lstore_n 3, 1) := by decide +kernel
theorem dx_Fraction_remainder_3 : decode prog_3_method_5_code 3 = .ok (.iconst 1, 1) := by decide +kernel
theorem dx_Fraction_remainder_30 : decode prog_3_method_5_code 30 = .ok (.iinc 5 (-1), 3) := by decide +kernel
theorem dx_Fraction_remainder_33 : decode prog_3_method_5_code 33 = .ok (.goto (-26), 3) := by decide +kernel
theorem dx_Fraction_remainder_36 : decode prog_3_method_5_code 36 = .ok (.lload_n 3, 1) := by decide +kernel
theorem dx_Fraction_remainder_37 : decode prog_3_method_5_code 37 = .ok (.l2i, 1) := by decide +kernel
theorem dx_Fraction_remainder_38 : decode prog_3_method_5_code 38 = .ok (.ireturn, 1) := by decide +kernel
theorem dx_Fraction_remainder_4 : decode prog_3_method_5_code 4 = .ok (.isub, 1) := by decide +kernel
theorem dx_Fraction_remainder_5 : decode prog_3_method_5_code 5 = .ok (.istore 5, 2) := by decide +kernel
theorem dx_Fraction_remainder_7 : decode prog_3_method_5_code 7 = .ok (.iload 5, 2) := by decide +kernel
theorem dx_Fraction_remainder_9 : decode prog_3_method_5_code 9 = .ok (.ifCond .lt 27, 3) := by decide +kernel
theorem dx_Fraction_size_0 : decode prog_3_method_8_code 0 = .ok (.iload_n 1, 1) := by decide +kernel
theorem dx_Fraction_size_1 : decode prog_3_method_8_code 1 = .ok (.ifCond .ne 16, 3) := by decide +kernel
theorem dx_Fraction_size_11 : decode prog_3_method_8_code 11 = .ok (.iconst 1, 1) := by decide +kernel
theorem dx_Fraction_size_12 : decode prog_3_method_8_code 12 = .ok (.goto 4, 3) := by decide +kernel
theorem dx_Fraction_size_15 : decode prog_3_method_8_code 15 = .ok (.iconst 0, 1) := by decide +kernel
theorem dx_Fraction_size_16 : decode prog_3_method_8_code 16 = .ok (.ireturn, 1) := by decide +kernel
theorem dx_Fraction_size_17 : decode prog_3_method_8_code 17 = .ok (.iload_n 1, 1) := by decide +kernel
theorem dx_Fraction_size_18 : decode prog_3_method_8_code 18 = .ok (.iconst 1, 1) := by decide +kernel
theorem dx_Fraction_size_19 : decode prog_3_method_8_code 19 = .ok (.if_icmp .ne 10, 3) := by decide +kernel
theorem dx_Fraction_size_22 : decode prog_3_method_8_code 22 = .ok (.aload_n 0, 1) := by decide +kernel
theorem dx_Fraction_size_23 : decode prog_3_method_8_code 23 = .ok (.getfield 18, 3) := by decide +kernel
theorem dx_Fraction_size_26 : decode prog_3_method_8_code 26 = .ok (.goto 7, 3) := by decide +kernel
theorem dx_Fraction_size_29 : decode prog_3_method_8_code 29 = .ok (.aload_n 0, 1) := by decide +kernel
theorem dx_Fraction_size_30 : decode prog_3_method_8_code 30 = .ok (.getfield 22, 3) := by decide +kernel
theorem dx_Fraction_size_33 : decode prog_3_method_8_code 33 = .ok (.ireturn, 1) := by decide +kernel
theorem dx_Fraction_size_4 : decode prog_3_method_8_code 4 = .ok (.aload_n 0, 1) := by decide +kernel
theorem dx_Fraction_size_5 : decode prog_3_method_8_code 5 = .ok (.getfield 18, 3) := by decide +kernel
theorem dx_Fraction_size_8 : decode prog_3_method_8_code 8 = .ok (.ifCond .le 7, 3) := by decide +kernel
theorem dx_Fraction_trimmed_0 : decode prog_3_method_7_code 0 = .ok (.iload_n 1, 1) := by decide +kernel
theorem dx_Fraction_trimmed_1 : decode prog_3_method_7_code 1 = .ok (.istore_n 2, 1) := by decide +kernel
theorem dx_Fraction_trimmed_10 : decode prog_3_method_7_code 10 = .ok (.iaload, 1) := by decide +kernel
theorem dx_Fraction_trimmed_11 : decode prog_3_method_7_code 11 = .ok (.ifCond .ne 9, 3) := by decide +kernel
theorem dx_Fraction_trimmed_14 : decode prog_3_method_7_code 14 = .ok (.iinc 2 (-1), 3) := by decide +kernel
theorem dx_Fraction_trimmed_17 : decode prog_3_method_7_code 17 = .ok (.goto (-15), 3) := by decide +kernel
theorem dx_Fraction_trimmed_2 : decode prog_3_method_7_code 2 = .ok (.iload_n 2, 1) := by decide +kernel
theorem dx_Fraction_trimmed_20 : decode prog_3_method_7_code 20 = .ok (.iload_n 2, 1) := by decide +kernel
theorem dx_Fraction_trimmed_21 : decode prog_3_method_7_code 21 = .ok (.ireturn, 1) := by decide +kernel
theorem dx_Fraction_trimmed_3 : decode prog_3_method_7_code 3 = .ok (.ifCond .le 17, 3) := by decide +kernel
theorem dx_Fraction_trimmed_6 : decode prog_3_method_7_code 6 = .ok (.aload_n 0, 1) := by decide +kernel
theorem dx_Fraction_trimmed_7 : decode prog_3_method_7_code 7 = .ok (.iload_n 2, 1) := by decide +kernel
theorem dx_Fraction_trimmed_8 : decode prog_3_method_7_code 8 = .ok (.iconst 1, 1) := by decide +kernel
theorem dx_Fraction_trimmed_9 : decode prog_3_method_7_code 9 = .ok (.isub, 1) := by decide +kernel
theorem dx_House_addBorrower_0 : decode prog_4_method_10_code 0 = .ok (.aload_n 0, 1) := by decide +kernel
theorem dx_House_addBorrower_1 : decode prog_4_method_10_code 1 = .ok (.getfield 70, 3) := by decide +kernel
theorem dx_House_addBorrower_10 : decode prog_4_method_10_code 10 = .ok (.getfield 43, 3) := by decide +kernel
theorem dx_House_addBorrower_13 : decode prog_4_method_10_code 13 = .ok (.aload_n 0, 1) := by decide +kernel
theorem dx_House_addBorrower_14 : decode prog_4_method_10_code 14 = .ok (.getfield 70, 3) := by decide +kernel
theorem dx_House_addBorrower_17 : decode prog_4_method_10_code 17 = .ok (.aaload, 1) := by decide +kernel
theorem dx_House_addBorrower_18 : decode prog_4_method_10_code 18 = .ok (.astore 5, 2) := by decide +kernel
theorem dx_House_addBorrower_20 : decode prog_4_method_10_code 20 = .ok (.aload 5, 2) := by decide +kernel
theorem dx_House_addBorrower_22 : decode prog_4_method_10_code 22 = .ok (.iconst 0, 1) := by decide +kernel
theorem dx_House_addBorrower_23 : decode prog_4_method_10_code 23 = .ok (.iload_n 1, 1) := by decide +kernel
theorem dx_House_addBorrower_24 : decode prog_4_method_10_code 24 = .ok (.iastore, 1) := by decide +kernel
theorem dx_House_addBorrower_25 : decode prog_4_method_10_code 25 = .ok (.aload 5, 2) := by decide +kernel
theorem dx_House_addBorrower_27 : decode prog_4_method_10_code 27 = .ok (.iconst 1, 1) := by decide +kernel
theorem dx_House_addBorrower_28 : decode prog_4_method_10_code 28 = .ok (.iload_n 2, 1) := by decide +kernel
theorem dx_House_addBorrower_29 : decode prog_4_method_10_code 29 = .ok (.iastore, 1) := by decide +kernel
theorem dx_House_addBorrower_30 : decode prog_4_method_10_code 30 = .ok (.aload 5, 2) := by decide +kernel
theorem dx_House_addBorrower_32 : decode prog_4_method_10_code 32 = .ok (.iconst 2, 1) := by decide +kernel
theorem dx_House_addBorrower_33 : decode prog_4_method_10_code 33 = .ok (.iload_n 3, 1) := by decide +kernel
theorem dx_House_addBorrower_34 : decode prog_4_method_10_code 34 = .ok (.iastore, 1) := by decide +kernel
theorem dx_House_addBorrower_35 : decode prog_4_method_10_code 35 = .ok (.aload 5, 2) := by decide +kernel
theorem dx_House_addBorrower_37 : decode prog_4_method_10_code 37 = .ok (.iconst 3, 1) := by decide +kernel
theorem dx_House_addBorrower_38 : decode prog_4_method_10_code 38 = .ok (.iload 4, 2) := by decide +kernel
theorem dx_House_addBorrower_4 : decode prog_4_method_10_code 4 = .ok (.bipush 6, 2) := by decide +kernel
theorem dx_House_addBorrower_40 : decode prog_4_method_10_code 40 = .ok (.iastore, 1) := by decide +kernel
theorem dx_House_addBorrower_41 : decode prog_4_method_10_code 41 = .ok (.aload_n 0, 1) := by decide +kernel
theorem dx_House_addBorrower_42 : decode prog_4_method_10_code 42 = .ok (.dup, 1) := by decide +kernel
theorem dx_House_addBorrower_43 : decode prog_4_method_10_code 43 = .ok (.getfield 70, 3) := by decide +kernel
theorem dx_House_addBorrower_46 : decode prog_4_method_10_code 46 = .ok (.iconst 1, 1) := by decide +kernel
theorem dx_House_addBorrower_47 : decode prog_4_method_10_code 47 = .ok (.iadd, 1) := by decide +kernel
theorem dx_House_addBorrower_48 : decode prog_4_method_10_code 48 = .ok (.putfield 70, 3) := by decide +kernel
theorem dx_House_addBorrower_51 : decode prog_4_method_10_code 51 = .ok (.return_, 1) := by decide +kernel
theorem dx_House_addBorrower_6 : decode prog_4_method_10_code 6 = .ok (.if_icmp .ge 45, 3) := by decide +kernel
theorem dx_House_addBorrower_9 : decode prog_4_method_10_code 9 = .ok (.aload_n 0, 1) := by decide +kernel
theorem dx_House_addCloth_0 : decode prog_4_method_8_code 0 = .ok (.aload_n 0, 1) := by decide +kernel
theorem dx_House_addCloth_1 : decode prog_4_method_8_code 1 = .ok (.getfield 46, 3) := by decide +kernel
theorem dx_House_addCloth_10 : decode prog_4_method_8_code 10 = .ok (.getfield 9, 3) := by decide +kernel
theorem dx_House_addCloth_13 : decode prog_4_method_8_code 13 = .ok (.aload_n 0, 1) := by decide +kernel
theorem dx_House_addCloth_14 : decode prog_4_method_8_code 14 = .ok (.getfield 46, 3) := by decide +kernel
theorem dx_House_addCloth_17 : decode prog_4_method_8_code 17 = .ok (.iload_n 1, 1) := by decide +kernel
theorem dx_House_addCloth_18 : decode prog_4_method_8_code 18 = .ok (.iastore, 1) := by decide +kernel
theorem dx_House_addCloth_19 : decode prog_4_method_8_code 19 = .ok (.aload_n 0, 1) := by decide +kernel
theorem dx_House_addCloth_20 : decode prog_4_method_8_code 20 = .ok (.getfield 15, 3) := by decide +kernel
theorem dx_House_addCloth_23 : decode prog_4_method_8_code 23 = .ok (.aload_n 0, 1) := by decide +kernel
theorem dx_House_addCloth_24 : decode prog_4_method_8_code 24 = .ok (.getfield 46, 3) := by decide +kernel
theorem dx_House_addCloth_27 : decode prog_4_method_8_code 27 = .ok (.iload_n 2, 1) := by decide +kernel
theorem dx_House_addCloth_28 : decode prog_4_method_8_code 28 = .ok (.iastore, 1) := by decide +kernel
theorem dx_House_addCloth_29 : decode prog_4_method_8_code 29 = .ok (.aload_n 0, 1) := by decide +kernel
theorem dx_House_addCloth_30 : decode prog_4_method_8_code 30 = .ok (.getfield 18, 3) := by decide +kernel
theorem dx_House_addCloth_33 : decode prog_4_method_8_code 33 = .ok (.aload_n 0, 1) := by decide +kernel
theorem dx_House_addCloth_34 : decode prog_4_method_8_code 34 = .ok (.getfield 46, 3) := by decide +kernel
theorem dx_House_addCloth_37 : decode prog_4_method_8_code 37 = .ok (.iconst 0, 1) := by decide +kernel
theorem dx_House_addCloth_38 : decode prog_4_method_8_code 38 = .ok (.iastore, 1) := by decide +kernel
theorem dx_House_addCloth_39 : decode prog_4_method_8_code 39 = .ok (.aload_n 0, 1) := by decide +kernel
theorem dx_House_addCloth_4 : decode prog_4_method_8_code 4 = .ok (.iconst 4, 1) := by decide +kernel
theorem dx_House_addCloth_40 : decode prog_4_method_8_code 40 = .ok (.getfield 21, 3) := by decide +kernel
theorem dx_House_addCloth_43 : decode prog_4_method_8_code 43 = .ok (.aload_n 0, 1) := by decide +kernel
theorem dx_House_addCloth_44 : decode prog_4_method_8_code 44 = .ok (.getfield 46, 3) := by decide +kernel
theorem dx_House_addCloth_47 : decode prog_4_method_8_code 47 = .ok (.bipush 12, 2) := by decide +kernel
theorem dx_House_addCloth_49 : decode prog_4_method_8_code 49 = .ok (.iastore, 1) := by decide +kernel
theorem dx_House_addCloth_5 : decode prog_4_method_8_code 5 = .ok (.if_icmp .lt 4, 3) := by decide +kernel
theorem dx_House_addCloth_50 : decode prog_4_method_8_code 50 = .ok (.aload_n 0, 1) := by decide +kernel
theorem dx_House_addCloth_51 : decode prog_4_method_8_code 51 = .ok (.getfield 35, 3) := by decide +kernel
theorem dx_House_addCloth_54 : decode prog_4_method_8_code 54 = .ok (.aload_n 0, 1) := by decide +kernel
theorem dx_House_addCloth_55 : decode prog_4_method_8_code 55 = .ok (.getfield 46, 3) := by decide +kernel
theorem dx_House_addCloth_58 : decode prog_4_method_8_code 58 = .ok (.iload_n 3, 1) := by decide +kernel
theorem dx_House_addCloth_59 : decode prog_4_method_8_code 59 = .ok (.invokevirtual 63, 3) := by decide +kernel
theorem dx_House_addCloth_62 : decode prog_4_method_8_code 62 = .ok (.aload_n 0, 1) := by decide +kernel
theorem dx_House_addCloth_63 : decode prog_4_method_8_code 63 = .ok (.dup, 1) := by decide +kernel
theorem dx_House_addCloth_64 : decode prog_4_method_8_code 64 = .ok (.getfield 46, 3) := by decide +kernel
theorem dx_House_addCloth_67 : decode prog_4_method_8_code 67 = .ok (.iconst 1, 1) := by decide +kernel
theorem dx_House_addCloth_68 : decode prog_4_method_8_code 68 = .ok (.iadd, 1) := by decide +kernel
theorem dx_House_addCloth_69 : decode prog_4_method_8_code 69 = .ok (.putfield 46, 3) := by decide +kernel
theorem dx_House_addCloth_72 : decode prog_4_method_8_code 72 = .ok (.aload_n 0, 1) := by decide +kernel
theorem dx_House_addCloth_73 : decode prog_4_method_8_code 73 = .ok (.iconst 0, 1) := by decide +kernel
theorem dx_House_addCloth_74 : decode prog_4_method_8_code 74 = .ok (.putfield 67, 3) := by decide +kernel
theorem dx_House_addCloth_77 : decode prog_4_method_8_code 77 = .ok (.return_, 1) := by decide +kernel
theorem dx_House_addCloth_8 : decode prog_4_method_8_code 8 = .ok (.return_, 1) := by decide +kernel
theorem dx_House_addCloth_9 : decode prog_4_method_8_code 9 = .ok (.aload_n 0, 1) := by decide +kernel
theorem dx_House_addThing_0 : decode prog_4_method_9_code 0 = .ok (.aload_n 0, 1) := by decide +kernel
theorem dx_House_addThing_1 : decode prog_4_method_9_code 1 = .ok (.getfield 50, 3) := by decide +kernel
theorem dx_House_addThing_12 : decode prog_4_method_9_code 12 = .ok (.aload_n 0, 1) := by decide +kernel
theorem dx_House_addThing_13 : decode prog_4_method_9_code 13 = .ok (.getfield 50, 3) := by decide +kernel
theorem dx_House_addThing_16 : decode prog_4_method_9_code 16 = .ok (.iload_n 1, 1) := by decide +kernel
theorem dx_House_addThing_17 : decode prog_4_method_9_code 17 = .ok (.iastore, 1) := by decide +kernel
theorem dx_House_addThing_18 : decode prog_4_method_9_code 18 = .ok (.aload_n 0, 1) := by decide +kernel
theorem dx_House_addThing_19 : decode prog_4_method_9_code 19 = .ok (.dup, 1) := by decide +kernel
theorem dx_House_addThing_20 : decode prog_4_method_9_code 20 = .ok (.getfield 50, 3) := by decide +kernel
theorem dx_House_addThing_23 : decode prog_4_method_9_code 23 = .ok (.iconst 1, 1) := by decide +kernel
theorem dx_House_addThing_24 : decode prog_4_method_9_code 24 = .ok (.iadd, 1) := by decide +kernel
theorem dx_House_addThing_25 : decode prog_4_method_9_code 25 = .ok (.putfield 50, 3) := by decide +kernel
theorem dx_House_addThing_28 : decode prog_4_method_9_code 28 = .ok (.return_, 1) := by decide +kernel
theorem dx_House_addThing_4 : decode prog_4_method_9_code 4 = .ok (.iconst 4, 1) := by decide +kernel
theorem dx_House_addThing_5 : decode prog_4_method_9_code 5 = .ok (.if_icmp .ge 23, 3) := by decide +kernel
theorem dx_House_addThing_8 : decode prog_4_method_9_code 8 = .ok (.aload_n 0, 1) := by decide +kernel
theorem dx_House_addThing_9 : decode prog_4_method_9_code 9 = .ok (.getfield 24, 3) := by decide +kernel
theorem dx_House_clash_0 : decode prog_4_method_14_code 0 = .ok (.iconst 0, 1) := by decide +kernel
theorem dx_House_clash_1 : decode prog_4_method_14_code 1 = .ok (.istore_n 2, 1) := by decide +kernel
theorem dx_House_clash_10 : decode prog_4_method_14_code 10 = .ok (.iconst 0, 1) := by decide +kernel
theorem dx_House_clash_11 : decode prog_4_method_14_code 11 = .ok (.istore_n 3, 1) := by decide +kernel
theorem dx_House_clash_12 : decode prog_4_method_14_code 12 = .ok (.iload_n 3, 1) := by decide +kernel
theorem dx_House_clash_13 : decode prog_4_method_14_code 13 = .ok (.iload_n 2, 1) := by decide +kernel
theorem dx_House_clash_14 : decode prog_4_method_14_code 14 = .ok (.if_icmp .ge 41, 3) := by decide +kernel
theorem dx_House_clash_17 : decode prog_4_method_14_code 17 = .ok (.iload_n 1, 1) := by decide +kernel
theorem dx_House_clash_18 : decode prog_4_method_14_code 18 = .ok (.iload_n 2, 1) := by decide +kernel
theorem dx_House_clash_19 : decode prog_4_method_14_code 19 = .ok (.ishr, 1) := by decide +kernel
theorem dx_House_clash_2 : decode prog_4_method_14_code 2 = .ok (.iload_n 2, 1) := by decide +kernel
theorem dx_House_clash_20 : decode prog_4_method_14_code 20 = .ok (.iload_n 1, 1) := by decide +kernel
theorem dx_House_clash_21 : decode prog_4_method_14_code 21 = .ok (.iload_n 3, 1) := by decide +kernel
theorem dx_House_clash_22 : decode prog_4_method_14_code 22 = .ok (.ishr, 1) := by decide +kernel
theorem dx_House_clash_23 : decode prog_4_method_14_code 23 = .ok (.iand, 1) := by decide +kernel
theorem dx_House_clash_24 : decode prog_4_method_14_code 24 = .ok (.iconst 1, 1) := by decide +kernel
theorem dx_House_clash_25 : decode prog_4_method_14_code 25 = .ok (.iand, 1) := by decide +kernel
theorem dx_House_clash_26 : decode prog_4_method_14_code 26 = .ok (.ifCond .eq 23, 3) := by decide +kernel
theorem dx_House_clash_29 : decode prog_4_method_14_code 29 = .ok (.aload_n 0, 1) := by decide +kernel
theorem dx_House_clash_3 : decode prog_4_method_14_code 3 = .ok (.aload_n 0, 1) := by decide +kernel
theorem dx_House_clash_30 : decode prog_4_method_14_code 30 = .ok (.getfield 43, 3) := by decide +kernel
theorem dx_House_clash_33 : decode prog_4_method_14_code 33 = .ok (.iload_n 2, 1) := by decide +kernel
theorem dx_House_clash_34 : decode prog_4_method_14_code 34 = .ok (.aaload, 1) := by decide +kernel
theorem dx_House_clash_35 : decode prog_4_method_14_code 35 = .ok (.aload_n 0, 1) := by decide +kernel
theorem dx_House_clash_36 : decode prog_4_method_14_code 36 = .ok (.getfield 43, 3) := by decide +kernel
theorem dx_House_clash_39 : decode prog_4_method_14_code 39 = .ok (.iload_n 3, 1) := by decide +kernel
theorem dx_House_clash_4 : decode prog_4_method_14_code 4 = .ok (.getfield 70, 3) := by decide +kernel
theorem dx_House_clash_40 : decode prog_4_method_14_code 40 = .ok (.aaload, 1) := by decide +kernel
theorem dx_House_clash_41 : decode prog_4_method_14_code 41 = .ok (.invokestatic 83, 3) := by decide +kernel
theorem dx_House_clash_44 : decode prog_4_method_14_code 44 = .ok (.ifCond .eq 5, 3) := by decide +kernel
theorem dx_House_clash_47 : decode prog_4_method_14_code 47 = .ok (.iconst 1, 1) := by decide +kernel
theorem dx_House_clash_48 : decode prog_4_method_14_code 48 = .ok (.ireturn, 1) := by decide +kernel
theorem dx_House_clash_49 : decode prog_4_method_14_code 49 = .ok (.iinc 3 1, 3) := by decide +kernel
theorem dx_House_clash_52 : decode prog_4_method_14_code 52 = .ok (.goto (-40), 3) := by decide +kernel
theorem dx_House_clash_55 : decode prog_4_method_14_code 55 = .ok (.iinc 2 1, 3) := by decide +kernel
theorem dx_House_clash_58 : decode prog_4_method_14_code 58 = .ok (.goto (-56), 3) := by decide +kernel
theorem dx_House_clash_61 : decode prog_4_method_14_code 61 = .ok (.iconst 0, 1) := by decide +kernel
theorem dx_House_clash_62 : decode prog_4_method_14_code 62 = .ok (.ireturn, 1) := by decide +kernel
theorem dx_House_clash_7 : decode prog_4_method_14_code 7 = .ok (.if_icmp .ge 54, 3) := by decide +kernel
theorem dx_House_copyFrom_0 : decode prog_4_method_16_code 0 = .ok (.aload_n 0, 1) := by decide +kernel
theorem dx_House_copyFrom_1 : decode prog_4_method_16_code 1 = .ok (.aload_n 1, 1) := by decide +kernel
theorem dx_House_copyFrom_10 : decode prog_4_method_16_code 10 = .ok (.getfield 50, 3) := by decide +kernel
theorem dx_House_copyFrom_101 : decode prog_4_method_16_code 101 = .ok (.iload_n 2, 1) := by decide +kernel
theorem dx_House_copyFrom_102 : decode prog_4_method_16_code 102 = .ok (.aaload, 1) := by decide +kernel
theorem dx_House_copyFrom_103 : decode prog_4_method_16_code 103 = .ok (.iconst 0, 1) := by decide +kernel
theorem dx_House_copyFrom_104 : decode prog_4_method_16_code 104 = .ok (.iconst 4, 1) := by decide +kernel
theorem dx_House_copyFrom_105 : decode prog_4_method_16_code 105 = .ok (.invokestatic 87, 3) := by decide +kernel
theorem dx_House_copyFrom_108 : decode prog_4_method_16_code 108 = .ok (.iinc 2 1, 3) := by decide +kernel
theorem dx_House_copyFrom_111 : decode prog_4_method_16_code 111 = .ok (.goto (-27), 3) := by decide +kernel
theorem dx_House_copyFrom_114 : decode prog_4_method_16_code 114 = .ok (.iconst 0, 1) := by decide +kernel
theorem dx_House_copyFrom_115 : decode prog_4_method_16_code 115 = .ok (.istore_n 2, 1) := by decide +kernel
theorem dx_House_copyFrom_116 : decode prog_4_method_16_code 116 = .ok (.iload_n 2, 1) := by decide +kernel
theorem dx_House_copyFrom_117 : decode prog_4_method_16_code 117 = .ok (.iconst 4, 1) := by decide +kernel
theorem dx_House_copyFrom_118 : decode prog_4_method_16_code 118 = .ok (.if_icmp .ge 76, 3) := by decide +kernel
theorem dx_House_copyFrom_121 : decode prog_4_method_16_code 121 = .ok (.aload_n 0, 1) := by decide +kernel
theorem dx_House_copyFrom_122 : decode prog_4_method_16_code 122 = .ok (.getfield 9, 3) := by decide +kernel
theorem dx_House_copyFrom_125 : decode prog_4_method_16_code 125 = .ok (.iload_n 2, 1) := by decide +kernel
theorem dx_House_copyFrom_126 : decode prog_4_method_16_code 126 = .ok (.aload_n 1, 1) := by decide +kernel
theorem dx_House_copyFrom_127 : decode prog_4_method_16_code 127 = .ok (.getfield 9, 3) := by decide +kernel
theorem dx_House_copyFrom_13 : decode prog_4_method_16_code 13 = .ok (.putfield 50, 3) := by decide +kernel
theorem dx_House_copyFrom_130 : decode prog_4_method_16_code 130 = .ok (.iload_n 2, 1) := by decide +kernel
theorem dx_House_copyFrom_131 : decode prog_4_method_16_code 131 = .ok (.iaload, 1) := by decide +kernel
theorem dx_House_copyFrom_132 : decode prog_4_method_16_code 132 = .ok (.iastore, 1) := by decide +kernel
theorem dx_House_copyFrom_133 : decode prog_4_method_16_code 133 = .ok (.aload_n 0, 1) := by decide +kernel
theorem dx_House_copyFrom_134 : decode prog_4_method_16_code 134 = .ok (.getfield 15, 3) := by decide +kernel
theorem dx_House_copyFrom_137 : decode prog_4_method_16_code 137 = .ok (.iload_n 2, 1) := by decide +kernel
theorem dx_House_copyFrom_138 : decode prog_4_method_16_code 138 = .ok (.aload_n 1, 1) := by decide +kernel
theorem dx_House_copyFrom_139 : decode prog_4_method_16_code 139 = .ok (.getfield 15, 3) := by decide +kernel
theorem dx_House_copyFrom_142 : decode prog_4_method_16_code 142 = .ok (.iload_n 2, 1) := by decide +kernel
theorem dx_House_copyFrom_143 : decode prog_4_method_16_code 143 = .ok (.iaload, 1) := by decide +kernel
theorem dx_House_copyFrom_144 : decode prog_4_method_16_code 144 = .ok (.iastore, 1) := by decide +kernel
theorem dx_House_copyFrom_145 : decode prog_4_method_16_code 145 = .ok (.aload_n 0, 1) := by decide +kernel
theorem dx_House_copyFrom_146 : decode prog_4_method_16_code 146 = .ok (.getfield 18, 3) := by decide +kernel
theorem dx_House_copyFrom_149 : decode prog_4_method_16_code 149 = .ok (.iload_n 2, 1) := by decide +kernel
theorem dx_House_copyFrom_150 : decode prog_4_method_16_code 150 = .ok (.aload_n 1, 1) := by decide +kernel
theorem dx_House_copyFrom_151 : decode prog_4_method_16_code 151 = .ok (.getfield 18, 3) := by decide +kernel
theorem dx_House_copyFrom_154 : decode prog_4_method_16_code 154 = .ok (.iload_n 2, 1) := by decide +kernel
theorem dx_House_copyFrom_155 : decode prog_4_method_16_code 155 = .ok (.iaload, 1) := by decide +kernel
theorem dx_House_copyFrom_156 : decode prog_4_method_16_code 156 = .ok (.iastore, 1) := by decide +kernel
theorem dx_House_copyFrom_157 : decode prog_4_method_16_code 157 = .ok (.aload_n 0, 1) := by decide +kernel
theorem dx_House_copyFrom_158 : decode prog_4_method_16_code 158 = .ok (.getfield 21, 3) := by decide +kernel
theorem dx_House_copyFrom_16 : decode prog_4_method_16_code 16 = .ok (.aload_n 0, 1) := by decide +kernel
theorem dx_House_copyFrom_161 : decode prog_4_method_16_code 161 = .ok (.iload_n 2, 1) := by decide +kernel
theorem dx_House_copyFrom_162 : decode prog_4_method_16_code 162 = .ok (.aload_n 1, 1) := by decide +kernel
theorem dx_House_copyFrom_163 : decode prog_4_method_16_code 163 = .ok (.getfield 21, 3) := by decide +kernel
theorem dx_House_copyFrom_166 : decode prog_4_method_16_code 166 = .ok (.iload_n 2, 1) := by decide +kernel
theorem dx_House_copyFrom_167 : decode prog_4_method_16_code 167 = .ok (.iaload, 1) := by decide +kernel
theorem dx_House_copyFrom_168 : decode prog_4_method_16_code 168 = .ok (.iastore, 1) := by decide +kernel
theorem dx_House_copyFrom_169 : decode prog_4_method_16_code 169 = .ok (.aload_n 1, 1) := by decide +kernel
theorem dx_House_copyFrom_17 : decode prog_4_method_16_code 17 = .ok (.aload_n 1, 1) := by decide +kernel
theorem dx_House_copyFrom_170 : decode prog_4_method_16_code 170 = .ok (.getfield 29, 3) := by decide +kernel
theorem dx_House_copyFrom_173 : decode prog_4_method_16_code 173 = .ok (.iload_n 2, 1) := by decide +kernel
theorem dx_House_copyFrom_174 : decode prog_4_method_16_code 174 = .ok (.aaload, 1) := by decide +kernel
theorem dx_House_copyFrom_175 : decode prog_4_method_16_code 175 = .ok (.iconst 0, 1) := by decide +kernel
theorem dx_House_copyFrom_176 : decode prog_4_method_16_code 176 = .ok (.aload_n 0, 1) := by decide +kernel
theorem dx_House_copyFrom_177 : decode prog_4_method_16_code 177 = .ok (.getfield 29, 3) := by decide +kernel
theorem dx_House_copyFrom_18 : decode prog_4_method_16_code 18 = .ok (.getfield 73, 3) := by decide +kernel
theorem dx_House_copyFrom_180 : decode prog_4_method_16_code 180 = .ok (.iload_n 2, 1) := by decide +kernel
theorem dx_House_copyFrom_181 : decode prog_4_method_16_code 181 = .ok (.aaload, 1) := by decide +kernel
theorem dx_House_copyFrom_182 : decode prog_4_method_16_code 182 = .ok (.iconst 0, 1) := by decide +kernel
theorem dx_House_copyFrom_183 : decode prog_4_method_16_code 183 = .ok (.bipush 8, 2) := by decide +kernel
theorem dx_House_copyFrom_185 : decode prog_4_method_16_code 185 = .ok (.invokestatic 87, 3) := by decide +kernel
theorem dx_House_copyFrom_188 : decode prog_4_method_16_code 188 = .ok (.iinc 2 1, 3) := by decide +kernel
theorem dx_House_copyFrom_191 : decode prog_4_method_16_code 191 = .ok (.goto (-75), 3) := by decide +kernel
theorem dx_House_copyFrom_194 : decode prog_4_method_16_code 194 = .ok (.aload_n 1, 1) := by decide +kernel
theorem dx_House_copyFrom_195 : decode prog_4_method_16_code 195 = .ok (.getfield 24, 3) := by decide +kernel
theorem dx_House_copyFrom_198 : decode prog_4_method_16_code 198 = .ok (.iconst 0, 1) := by decide +kernel
theorem dx_House_copyFrom_199 : decode prog_4_method_16_code 199 = .ok (.aload_n 0, 1) := by decide +kernel
theorem dx_House_copyFrom_2 : decode prog_4_method_16_code 2 = .ok (.getfield 46, 3) := by decide +kernel
theorem dx_House_copyFrom_200 : decode prog_4_method_16_code 200 = .ok (.getfield 24, 3) := by decide +kernel
theorem dx_House_copyFrom_203 : decode prog_4_method_16_code 203 = .ok (.iconst 0, 1) := by decide +kernel
theorem dx_House_copyFrom_204 : decode prog_4_method_16_code 204 = .ok (.iconst 4, 1) := by decide +kernel
theorem dx_House_copyFrom_205 : decode prog_4_method_16_code 205 = .ok (.invokestatic 87, 3) := by decide +kernel
theorem dx_House_copyFrom_208 : decode prog_4_method_16_code 208 = .ok (.return_, 1) := by decide +kernel
theorem dx_House_copyFrom_21 : decode prog_4_method_16_code 21 = .ok (.putfield 73, 3) := by decide +kernel
theorem dx_House_copyFrom_24 : decode prog_4_method_16_code 24 = .ok (.aload_n 0, 1) := by decide +kernel
theorem dx_House_copyFrom_25 : decode prog_4_method_16_code 25 = .ok (.aload_n 1, 1) := by decide +kernel
theorem dx_House_copyFrom_26 : decode prog_4_method_16_code 26 = .ok (.getfield 67, 3) := by decide +kernel
theorem dx_House_copyFrom_29 : decode prog_4_method_16_code 29 = .ok (.putfield 67, 3) := by decide +kernel
theorem dx_House_copyFrom_32 : decode prog_4_method_16_code 32 = .ok (.aload_n 0, 1) := by decide +kernel
theorem dx_House_copyFrom_33 : decode prog_4_method_16_code 33 = .ok (.aload_n 1, 1) := by decide +kernel
theorem dx_House_copyFrom_34 : decode prog_4_method_16_code 34 = .ok (.getfield 70, 3) := by decide +kernel
theorem dx_House_copyFrom_37 : decode prog_4_method_16_code 37 = .ok (.putfield 70, 3) := by decide +kernel
theorem dx_House_copyFrom_40 : decode prog_4_method_16_code 40 = .ok (.aload_n 0, 1) := by decide +kernel
theorem dx_House_copyFrom_41 : decode prog_4_method_16_code 41 = .ok (.getfield 35, 3) := by decide +kernel
theorem dx_House_copyFrom_44 : decode prog_4_method_16_code 44 = .ok (.aload_n 1, 1) := by decide +kernel
theorem dx_House_copyFrom_45 : decode prog_4_method_16_code 45 = .ok (.getfield 35, 3) := by decide +kernel
theorem dx_House_copyFrom_48 : decode prog_4_method_16_code 48 = .ok (.invokevirtual 79, 3) := by decide +kernel
theorem dx_House_copyFrom_5 : decode prog_4_method_16_code 5 = .ok (.putfield 46, 3) := by decide +kernel
theorem dx_House_copyFrom_51 : decode prog_4_method_16_code 51 = .ok (.iconst 0, 1) := by decide +kernel
theorem dx_House_copyFrom_52 : decode prog_4_method_16_code 52 = .ok (.istore_n 2, 1) := by decide +kernel
theorem dx_House_copyFrom_53 : decode prog_4_method_16_code 53 = .ok (.iload_n 2, 1) := by decide +kernel
theorem dx_House_copyFrom_54 : decode prog_4_method_16_code 54 = .ok (.aload_n 1, 1) := by decide +kernel
theorem dx_House_copyFrom_55 : decode prog_4_method_16_code 55 = .ok (.getfield 67, 3) := by decide +kernel
theorem dx_House_copyFrom_58 : decode prog_4_method_16_code 58 = .ok (.if_icmp .ge 24, 3) := by decide +kernel
theorem dx_House_copyFrom_61 : decode prog_4_method_16_code 61 = .ok (.aload_n 0, 1) := by decide +kernel
theorem dx_House_copyFrom_62 : decode prog_4_method_16_code 62 = .ok (.getfield 39, 3) := by decide +kernel
theorem dx_House_copyFrom_65 : decode prog_4_method_16_code 65 = .ok (.iload_n 2, 1) := by decide +kernel
theorem dx_House_copyFrom_66 : decode prog_4_method_16_code 66 = .ok (.aaload, 1) := by decide +kernel
theorem dx_House_copyFrom_67 : decode prog_4_method_16_code 67 = .ok (.aload_n 1, 1) := by decide +kernel
theorem dx_House_copyFrom_68 : decode prog_4_method_16_code 68 = .ok (.getfield 39, 3) := by decide +kernel
theorem dx_House_copyFrom_71 : decode prog_4_method_16_code 71 = .ok (.iload_n 2, 1) := by decide +kernel
theorem dx_House_copyFrom_72 : decode prog_4_method_16_code 72 = .ok (.aaload, 1) := by decide +kernel
theorem dx_House_copyFrom_73 : decode prog_4_method_16_code 73 = .ok (.invokevirtual 79, 3) := by decide +kernel
theorem dx_House_copyFrom_76 : decode prog_4_method_16_code 76 = .ok (.iinc 2 1, 3) := by decide +kernel
theorem dx_House_copyFrom_79 : decode prog_4_method_16_code 79 = .ok (.goto (-26), 3) := by decide +kernel
theorem dx_House_copyFrom_8 : decode prog_4_method_16_code 8 = .ok (.aload_n 0, 1) := by decide +kernel
theorem dx_House_copyFrom_82 : decode prog_4_method_16_code 82 = .ok (.iconst 0, 1) := by decide +kernel
theorem dx_House_copyFrom_83 : decode prog_4_method_16_code 83 = .ok (.istore_n 2, 1) := by decide +kernel
theorem dx_House_copyFrom_84 : decode prog_4_method_16_code 84 = .ok (.iload_n 2, 1) := by decide +kernel
theorem dx_House_copyFrom_85 : decode prog_4_method_16_code 85 = .ok (.bipush 6, 2) := by decide +kernel
theorem dx_House_copyFrom_87 : decode prog_4_method_16_code 87 = .ok (.if_icmp .ge 27, 3) := by decide +kernel
theorem dx_House_copyFrom_9 : decode prog_4_method_16_code 9 = .ok (.aload_n 1, 1) := by decide +kernel
theorem dx_House_copyFrom_90 : decode prog_4_method_16_code 90 = .ok (.aload_n 1, 1) := by decide +kernel
theorem dx_House_copyFrom_91 : decode prog_4_method_16_code 91 = .ok (.getfield 43, 3) := by decide +kernel
theorem dx_House_copyFrom_94 : decode prog_4_method_16_code 94 = .ok (.iload_n 2, 1) := by decide +kernel
theorem dx_House_copyFrom_95 : decode prog_4_method_16_code 95 = .ok (.aaload, 1) := by decide +kernel
theorem dx_House_copyFrom_96 : decode prog_4_method_16_code 96 = .ok (.iconst 0, 1) := by decide +kernel
theorem dx_House_copyFrom_97 : decode prog_4_method_16_code 97 = .ok (.aload_n 0, 1) := by decide +kernel
theorem dx_House_copyFrom_98 : decode prog_4_method_16_code 98 = .ok (.getfield 43, 3) := by decide +kernel
theorem dx_House_emptyOut_0 : decode prog_4_method_11_code 0 = .ok (.aload_n 0, 1) := by decide +kernel
theorem dx_House_emptyOut_1 : decode prog_4_method_11_code 1 = .ok (.iconst 0, 1) := by decide +kernel
theorem dx_House_emptyOut_10 : decode prog_4_method_11_code 10 = .ok (.aload_n 0, 1) := by decide +kernel
theorem dx_House_emptyOut_11 : decode prog_4_method_11_code 11 = .ok (.iconst 0, 1) := by decide +kernel
theorem dx_House_emptyOut_12 : decode prog_4_method_11_code 12 = .ok (.putfield 73, 3) := by decide +kernel
theorem dx_House_emptyOut_15 : decode prog_4_method_11_code 15 = .ok (.aload_n 0, 1) := by decide +kernel
theorem dx_House_emptyOut_16 : decode prog_4_method_11_code 16 = .ok (.iconst 0, 1) := by decide +kernel
theorem dx_House_emptyOut_17 : decode prog_4_method_11_code 17 = .ok (.putfield 67, 3) := by decide +kernel
theorem dx_House_emptyOut_2 : decode prog_4_method_11_code 2 = .ok (.putfield 46, 3) := by decide +kernel
theorem dx_House_emptyOut_20 : decode prog_4_method_11_code 20 = .ok (.aload_n 0, 1) := by decide +kernel
theorem dx_House_emptyOut_21 : decode prog_4_method_11_code 21 = .ok (.getfield 35, 3) := by decide +kernel
theorem dx_House_emptyOut_24 : decode prog_4_method_11_code 24 = .ok (.invokevirtual 76, 3) := by decide +kernel
theorem dx_House_emptyOut_27 : decode prog_4_method_11_code 27 = .ok (.iconst 0, 1) := by decide +kernel
theorem dx_House_emptyOut_28 : decode prog_4_method_11_code 28 = .ok (.istore_n 1, 1) := by decide +kernel
theorem dx_House_emptyOut_29 : decode prog_4_method_11_code 29 = .ok (.iload_n 1, 1) := by decide +kernel
theorem dx_House_emptyOut_30 : decode prog_4_method_11_code 30 = .ok (.iconst 4, 1) := by decide +kernel
theorem dx_House_emptyOut_31 : decode prog_4_method_11_code 31 = .ok (.if_icmp .ge 32, 3) := by decide +kernel
theorem dx_House_emptyOut_34 : decode prog_4_method_11_code 34 = .ok (.iconst 0, 1) := by decide +kernel
theorem dx_House_emptyOut_35 : decode prog_4_method_11_code 35 = .ok (.istore_n 2, 1) := by decide +kernel
theorem dx_House_emptyOut_36 : decode prog_4_method_11_code 36 = .ok (.iload_n 2, 1) := by decide +kernel
theorem dx_House_emptyOut_37 : decode prog_4_method_11_code 37 = .ok (.bipush 8, 2) := by decide +kernel
theorem dx_House_emptyOut_39 : decode prog_4_method_11_code 39 = .ok (.if_icmp .ge 18, 3) := by decide +kernel
theorem dx_House_emptyOut_42 : decode prog_4_method_11_code 42 = .ok (.aload_n 0, 1) := by decide +kernel
theorem dx_House_emptyOut_43 : decode prog_4_method_11_code 43 = .ok (.getfield 29, 3) := by decide +kernel
theorem dx_House_emptyOut_46 : decode prog_4_method_11_code 46 = .ok (.iload_n 1, 1) := by decide +kernel
theorem dx_House_emptyOut_47 : decode prog_4_method_11_code 47 = .ok (.aaload, 1) := by decide +kernel
theorem dx_House_emptyOut_48 : decode prog_4_method_11_code 48 = .ok (.iload_n 2, 1) := by decide +kernel
theorem dx_House_emptyOut_49 : decode prog_4_method_11_code 49 = .ok (.iconst 0, 1) := by decide +kernel
theorem dx_House_emptyOut_5 : decode prog_4_method_11_code 5 = .ok (.aload_n 0, 1) := by decide +kernel
theorem dx_House_emptyOut_50 : decode prog_4_method_11_code 50 = .ok (.iastore, 1) := by decide +kernel
theorem dx_House_emptyOut_51 : decode prog_4_method_11_code 51 = .ok (.iinc 2 1, 3) := by decide +kernel
theorem dx_House_emptyOut_54 : decode prog_4_method_11_code 54 = .ok (.goto (-18), 3) := by decide +kernel
theorem dx_House_emptyOut_57 : decode prog_4_method_11_code 57 = .ok (.iinc 1 1, 3) := by decide +kernel
theorem dx_House_emptyOut_6 : decode prog_4_method_11_code 6 = .ok (.iconst 0, 1) := by decide +kernel
theorem dx_House_emptyOut_60 : decode prog_4_method_11_code 60 = .ok (.goto (-31), 3) := by decide +kernel
theorem dx_House_emptyOut_63 : decode prog_4_method_11_code 63 = .ok (.return_, 1) := by decide +kernel
theorem dx_House_emptyOut_7 : decode prog_4_method_11_code 7 = .ok (.putfield 50, 3) := by decide +kernel
theorem dx_House_goBack_0 : decode prog_4_method_13_code 0 = .ok (.aload_n 0, 1) := by decide +kernel
theorem dx_House_goBack_1 : decode prog_4_method_13_code 1 = .ok (.getfield 67, 3) := by decide +kernel
theorem dx_House_goBack_10 : decode prog_4_method_13_code 10 = .ok (.dup, 1) := by decide +kernel
theorem dx_House_goBack_11 : decode prog_4_method_13_code 11 = .ok (.getfield 67, 3) := by decide +kernel
theorem dx_House_goBack_14 : decode prog_4_method_13_code 14 = .ok (.iconst 1, 1) := by decide +kernel
theorem dx_House_goBack_15 : decode prog_4_method_13_code 15 = .ok (.isub, 1) := by decide +kernel
theorem dx_House_goBack_16 : decode prog_4_method_13_code 16 = .ok (.putfield 67, 3) := by decide +kernel
theorem dx_House_goBack_19 : decode prog_4_method_13_code 19 = .ok (.aload_n 0, 1) := by decide +kernel
theorem dx_House_goBack_20 : decode prog_4_method_13_code 20 = .ok (.dup, 1) := by decide +kernel
theorem dx_House_goBack_21 : decode prog_4_method_13_code 21 = .ok (.getfield 73, 3) := by decide +kernel
theorem dx_House_goBack_24 : decode prog_4_method_13_code 24 = .ok (.iconst 1, 1) := by decide +kernel
theorem dx_House_goBack_25 : decode prog_4_method_13_code 25 = .ok (.isub, 1) := by decide +kernel
theorem dx_House_goBack_26 : decode prog_4_method_13_code 26 = .ok (.putfield 73, 3) := by decide +kernel
theorem dx_House_goBack_29 : decode prog_4_method_13_code 29 = .ok (.aload_n 0, 1) := by decide +kernel
theorem dx_House_goBack_30 : decode prog_4_method_13_code 30 = .ok (.getfield 35, 3) := by decide +kernel
theorem dx_House_goBack_33 : decode prog_4_method_13_code 33 = .ok (.aload_n 0, 1) := by decide +kernel
theorem dx_House_goBack_34 : decode prog_4_method_13_code 34 = .ok (.getfield 39, 3) := by decide +kernel
theorem dx_House_goBack_37 : decode prog_4_method_13_code 37 = .ok (.aload_n 0, 1) := by decide +kernel
theorem dx_House_goBack_38 : decode prog_4_method_13_code 38 = .ok (.getfield 67, 3) := by decide +kernel
theorem dx_House_goBack_4 : decode prog_4_method_13_code 4 = .ok (.ifCond .gt 5, 3) := by decide +kernel
theorem dx_House_goBack_41 : decode prog_4_method_13_code 41 = .ok (.aaload, 1) := by decide +kernel
theorem dx_House_goBack_42 : decode prog_4_method_13_code 42 = .ok (.invokevirtual 79, 3) := by decide +kernel
theorem dx_House_goBack_45 : decode prog_4_method_13_code 45 = .ok (.iconst 1, 1) := by decide +kernel
theorem dx_House_goBack_46 : decode prog_4_method_13_code 46 = .ok (.ireturn, 1) := by decide +kernel
theorem dx_House_goBack_7 : decode prog_4_method_13_code 7 = .ok (.iconst 0, 1) := by decide +kernel
theorem dx_House_goBack_8 : decode prog_4_method_13_code 8 = .ok (.ireturn, 1) := by decide +kernel
theorem dx_House_goBack_9 : decode prog_4_method_13_code 9 = .ok (.aload_n 0, 1) := by decide +kernel
theorem dx_House_hasCloth_0 : decode prog_4_method_2_code 0 = .ok (.iload_n 1, 1) := by decide +kernel
theorem dx_House_hasCloth_1 : decode prog_4_method_2_code 1 = .ok (.ifCond .lt 15, 3) := by decide +kernel
theorem dx_House_hasCloth_12 : decode prog_4_method_2_code 12 = .ok (.iconst 1, 1) := by decide +kernel
theorem dx_House_hasCloth_13 : decode prog_4_method_2_code 13 = .ok (.goto 4, 3) := by decide +kernel
theorem dx_House_hasCloth_16 : decode prog_4_method_2_code 16 = .ok (.iconst 0, 1) := by decide +kernel
theorem dx_House_hasCloth_17 : decode prog_4_method_2_code 17 = .ok (.ireturn, 1) := by decide +kernel
theorem dx_House_hasCloth_4 : decode prog_4_method_2_code 4 = .ok (.iload_n 1, 1) := by decide +kernel
theorem dx_House_hasCloth_5 : decode prog_4_method_2_code 5 = .ok (.aload_n 0, 1) := by decide +kernel
theorem dx_House_hasCloth_6 : decode prog_4_method_2_code 6 = .ok (.getfield 46, 3) := by decide +kernel
theorem dx_House_hasCloth_9 : decode prog_4_method_2_code 9 = .ok (.if_icmp .ge 7, 3) := by decide +kernel
theorem dx_House_hasNumber_0 : decode prog_4_method_4_code 0 = .ok (.aload_n 0, 1) := by decide +kernel
theorem dx_House_hasNumber_1 : decode prog_4_method_4_code 1 = .ok (.iload_n 1, 1) := by decide +kernel
theorem dx_House_hasNumber_10 : decode prog_4_method_4_code 10 = .ok (.if_icmp .lt 17, 3) := by decide +kernel
theorem dx_House_hasNumber_13 : decode prog_4_method_4_code 13 = .ok (.aload_n 0, 1) := by decide +kernel
theorem dx_House_hasNumber_14 : decode prog_4_method_4_code 14 = .ok (.iload_n 1, 1) := by decide +kernel
theorem dx_House_hasNumber_15 : decode prog_4_method_4_code 15 = .ok (.iconst 4, 1) := by decide +kernel
theorem dx_House_hasNumber_16 : decode prog_4_method_4_code 16 = .ok (.isub, 1) := by decide +kernel
theorem dx_House_hasNumber_17 : decode prog_4_method_4_code 17 = .ok (.invokevirtual 57, 3) := by decide +kernel
theorem dx_House_hasNumber_2 : decode prog_4_method_4_code 2 = .ok (.invokevirtual 53, 3) := by decide +kernel
theorem dx_House_hasNumber_20 : decode prog_4_method_4_code 20 = .ok (.ifCond .eq 7, 3) := by decide +kernel
theorem dx_House_hasNumber_23 : decode prog_4_method_4_code 23 = .ok (.iconst 1, 1) := by decide +kernel
theorem dx_House_hasNumber_24 : decode prog_4_method_4_code 24 = .ok (.goto 4, 3) := by decide +kernel
theorem dx_House_hasNumber_27 : decode prog_4_method_4_code 27 = .ok (.iconst 0, 1) := by decide +kernel
theorem dx_House_hasNumber_28 : decode prog_4_method_4_code 28 = .ok (.ireturn, 1) := by decide +kernel
theorem dx_House_hasNumber_5 : decode prog_4_method_4_code 5 = .ok (.ifCond .ne 18, 3) := by decide +kernel
theorem dx_House_hasNumber_8 : decode prog_4_method_4_code 8 = .ok (.iload_n 1, 1) := by decide +kernel
theorem dx_House_hasNumber_9 : decode prog_4_method_4_code 9 = .ok (.iconst 4, 1) := by decide +kernel
theorem dx_House_hasThing_0 : decode prog_4_method_3_code 0 = .ok (.iload_n 1, 1) := by decide +kernel
theorem dx_House_hasThing_1 : decode prog_4_method_3_code 1 = .ok (.ifCond .lt 15, 3) := by decide +kernel
theorem dx_House_hasThing_12 : decode prog_4_method_3_code 12 = .ok (.iconst 1, 1) := by decide +kernel
theorem dx_House_hasThing_13 : decode prog_4_method_3_code 13 = .ok (.goto 4, 3) := by decide +kernel
theorem dx_House_hasThing_16 : decode prog_4_method_3_code 16 = .ok (.iconst 0, 1) := by decide +kernel
theorem dx_House_hasThing_17 : decode prog_4_method_3_code 17 = .ok (.ireturn, 1) := by decide +kernel
theorem dx_House_hasThing_4 : decode prog_4_method_3_code 4 = .ok (.iload_n 1, 1) := by decide +kernel
theorem dx_House_hasThing_5 : decode prog_4_method_3_code 5 = .ok (.aload_n 0, 1) := by decide +kernel
theorem dx_House_hasThing_6 : decode prog_4_method_3_code 6 = .ok (.getfield 50, 3) := by decide +kernel
theorem dx_House_hasThing_9 : decode prog_4_method_3_code 9 = .ok (.if_icmp .ge 7, 3) := by decide +kernel
theorem dx_House_hasVain_0 : decode prog_4_method_6_code 0 = .ok (.iconst 0, 1) := by decide +kernel
theorem dx_House_hasVain_1 : decode prog_4_method_6_code 1 = .ok (.istore_n 1, 1) := by decide +kernel
theorem dx_House_hasVain_10 : decode prog_4_method_6_code 10 = .ok (.aload_n 0, 1) := by decide +kernel
theorem dx_House_hasVain_11 : decode prog_4_method_6_code 11 = .ok (.getfield 9, 3) := by decide +kernel
theorem dx_House_hasVain_14 : decode prog_4_method_6_code 14 = .ok (.iload_n 1, 1) := by decide +kernel
theorem dx_House_hasVain_15 : decode prog_4_method_6_code 15 = .ok (.iaload, 1) := by decide +kernel
theorem dx_House_hasVain_16 : decode prog_4_method_6_code 16 = .ok (.iconst 4, 1) := by decide +kernel
theorem dx_House_hasVain_17 : decode prog_4_method_6_code 17 = .ok (.if_icmp .ne 5, 3) := by decide +kernel
theorem dx_House_hasVain_2 : decode prog_4_method_6_code 2 = .ok (.iload_n 1, 1) := by decide +kernel
theorem dx_House_hasVain_20 : decode prog_4_method_6_code 20 = .ok (.iconst 1, 1) := by decide +kernel
theorem dx_House_hasVain_21 : decode prog_4_method_6_code 21 = .ok (.ireturn, 1) := by decide +kernel
theorem dx_House_hasVain_22 : decode prog_4_method_6_code 22 = .ok (.iinc 1 1, 3) := by decide +kernel
theorem dx_House_hasVain_25 : decode prog_4_method_6_code 25 = .ok (.goto (-23), 3) := by decide +kernel
theorem dx_House_hasVain_28 : decode prog_4_method_6_code 28 = .ok (.iconst 0, 1) := by decide +kernel
theorem dx_House_hasVain_29 : decode prog_4_method_6_code 29 = .ok (.ireturn, 1) := by decide +kernel
theorem dx_House_hasVain_3 : decode prog_4_method_6_code 3 = .ok (.aload_n 0, 1) := by decide +kernel
theorem dx_House_hasVain_4 : decode prog_4_method_6_code 4 = .ok (.getfield 46, 3) := by decide +kernel
theorem dx_House_hasVain_7 : decode prog_4_method_6_code 7 = .ok (.if_icmp .ge 21, 3) := by decide +kernel
theorem dx_House_lenders_0 : decode prog_4_method_7_code 0 = .ok (.iconst 1, 1) := by decide +kernel
theorem dx_House_lenders_1 : decode prog_4_method_7_code 1 = .ok (.aload_n 0, 1) := by decide +kernel
theorem dx_House_lenders_10 : decode prog_4_method_7_code 10 = .ok (.istore_n 1, 1) := by decide +kernel
theorem dx_House_lenders_11 : decode prog_4_method_7_code 11 = .ok (.iconst 0, 1) := by decide +kernel
theorem dx_House_lenders_12 : decode prog_4_method_7_code 12 = .ok (.istore_n 2, 1) := by decide +kernel
theorem dx_House_lenders_13 : decode prog_4_method_7_code 13 = .ok (.iload_n 2, 1) := by decide +kernel
theorem dx_House_lenders_14 : decode prog_4_method_7_code 14 = .ok (.aload_n 0, 1) := by decide +kernel
theorem dx_House_lenders_15 : decode prog_4_method_7_code 15 = .ok (.getfield 46, 3) := by decide +kernel
theorem dx_House_lenders_18 : decode prog_4_method_7_code 18 = .ok (.if_icmp .ge 27, 3) := by decide +kernel
theorem dx_House_lenders_2 : decode prog_4_method_7_code 2 = .ok (.getfield 50, 3) := by decide +kernel
theorem dx_House_lenders_21 : decode prog_4_method_7_code 21 = .ok (.iload_n 1, 1) := by decide +kernel
theorem dx_House_lenders_22 : decode prog_4_method_7_code 22 = .ok (.aload_n 0, 1) := by decide +kernel
theorem dx_House_lenders_23 : decode prog_4_method_7_code 23 = .ok (.iload_n 2, 1) := by decide +kernel
theorem dx_House_lenders_24 : decode prog_4_method_7_code 24 = .ok (.invokevirtual 60, 3) := by decide +kernel
theorem dx_House_lenders_27 : decode prog_4_method_7_code 27 = .ok (.ifCond .eq 9, 3) := by decide +kernel
theorem dx_House_lenders_30 : decode prog_4_method_7_code 30 = .ok (.iconst 1, 1) := by decide +kernel
theorem dx_House_lenders_31 : decode prog_4_method_7_code 31 = .ok (.iload_n 2, 1) := by decide +kernel
theorem dx_House_lenders_32 : decode prog_4_method_7_code 32 = .ok (.ishl, 1) := by decide +kernel
theorem dx_House_lenders_33 : decode prog_4_method_7_code 33 = .ok (.goto 4, 3) := by decide +kernel
theorem dx_House_lenders_36 : decode prog_4_method_7_code 36 = .ok (.iconst 0, 1) := by decide +kernel
theorem dx_House_lenders_37 : decode prog_4_method_7_code 37 = .ok (.ior, 1) := by decide +kernel
theorem dx_House_lenders_38 : decode prog_4_method_7_code 38 = .ok (.istore_n 1, 1) := by decide +kernel
theorem dx_House_lenders_39 : decode prog_4_method_7_code 39 = .ok (.iinc 2 1, 3) := by decide +kernel
theorem dx_House_lenders_42 : decode prog_4_method_7_code 42 = .ok (.goto (-29), 3) := by decide +kernel
theorem dx_House_lenders_45 : decode prog_4_method_7_code 45 = .ok (.iload_n 1, 1) := by decide +kernel
theorem dx_House_lenders_46 : decode prog_4_method_7_code 46 = .ok (.ireturn, 1) := by decide +kernel
theorem dx_House_lenders_5 : decode prog_4_method_7_code 5 = .ok (.ishl, 1) := by decide +kernel
theorem dx_House_lenders_6 : decode prog_4_method_7_code 6 = .ok (.iconst 1, 1) := by decide +kernel
theorem dx_House_lenders_7 : decode prog_4_method_7_code 7 = .ok (.isub, 1) := by decide +kernel
theorem dx_House_lenders_8 : decode prog_4_method_7_code 8 = .ok (.iconst 4, 1) := by decide +kernel
theorem dx_House_lenders_9 : decode prog_4_method_7_code 9 = .ok (.ishl, 1) := by decide +kernel
theorem dx_House_lends_0 : decode prog_4_method_5_code 0 = .ok (.aload_n 0, 1) := by decide +kernel
theorem dx_House_lends_1 : decode prog_4_method_5_code 1 = .ok (.getfield 9, 3) := by decide +kernel
theorem dx_House_lends_10 : decode prog_4_method_5_code 10 = .ok (.aload_n 0, 1) := by decide +kernel
theorem dx_House_lends_11 : decode prog_4_method_5_code 11 = .ok (.getfield 9, 3) := by decide +kernel
theorem dx_House_lends_14 : decode prog_4_method_5_code 14 = .ok (.iload_n 1, 1) := by decide +kernel
theorem dx_House_lends_15 : decode prog_4_method_5_code 15 = .ok (.iaload, 1) := by decide +kernel
theorem dx_House_lends_16 : decode prog_4_method_5_code 16 = .ok (.iconst 4, 1) := by decide +kernel
theorem dx_House_lends_17 : decode prog_4_method_5_code 17 = .ok (.if_icmp .eq 7, 3) := by decide +kernel
theorem dx_House_lends_20 : decode prog_4_method_5_code 20 = .ok (.iconst 1, 1) := by decide +kernel
theorem dx_House_lends_21 : decode prog_4_method_5_code 21 = .ok (.goto 4, 3) := by decide +kernel
theorem dx_House_lends_24 : decode prog_4_method_5_code 24 = .ok (.iconst 0, 1) := by decide +kernel
theorem dx_House_lends_25 : decode prog_4_method_5_code 25 = .ok (.ireturn, 1) := by decide +kernel
theorem dx_House_lends_4 : decode prog_4_method_5_code 4 = .ok (.iload_n 1, 1) := by decide +kernel
theorem dx_House_lends_5 : decode prog_4_method_5_code 5 = .ok (.iaload, 1) := by decide +kernel
theorem dx_House_lends_6 : decode prog_4_method_5_code 6 = .ok (.iconst 2, 1) := by decide +kernel
theorem dx_House_lends_7 : decode prog_4_method_5_code 7 = .ok (.if_icmp .eq 17, 3) := by decide +kernel
theorem dx_House_mixInto_0 : decode prog_4_method_17_code 0 = .ok (.lload_n 1, 1) := by decide +kernel
theorem dx_House_mixInto_1 : decode prog_4_method_17_code 1 = .ok (.lstore_n 3, 1) := by decide +kernel
theorem dx_House_mixInto_100 : decode prog_4_method_17_code 100 = .ok (.ladd, 1) := by decide +kernel
theorem dx_House_mixInto_101 : decode prog_4_method_17_code 101 = .ok (.lstore_n 3, 1) := by decide +kernel
theorem dx_House_mixInto_102 : decode prog_4_method_17_code 102 = .ok (.iinc 6 1, 3) := by decide +kernel
theorem dx_House_mixInto_105 : decode prog_4_method_17_code 105 = .ok (.goto (-28), 3) := by decide +kernel
theorem dx_House_mixInto_108 : decode prog_4_method_17_code 108 = .ok (.iinc 5 1, 3) := by decide +kernel
theorem dx_House_mixInto_11 : decode prog_4_method_17_code 11 = .ok (.if_icmp .ge 103, 3) := by decide +kernel
theorem dx_House_mixInto_111 : decode prog_4_method_17_code 111 = .ok (.goto (-106), 3) := by decide +kernel
theorem dx_House_mixInto_114 : decode prog_4_method_17_code 114 = .ok (.iconst 0, 1) := by decide +kernel
theorem dx_House_mixInto_115 : decode prog_4_method_17_code 115 = .ok (.istore 5, 2) := by decide +kernel
theorem dx_House_mixInto_117 : decode prog_4_method_17_code 117 = .ok (.iload 5, 2) := by decide +kernel
theorem dx_House_mixInto_119 : decode prog_4_method_17_code 119 = .ok (.aload_n 0, 1) := by decide +kernel
theorem dx_House_mixInto_120 : decode prog_4_method_17_code 120 = .ok (.getfield 50, 3) := by decide +kernel
theorem dx_House_mixInto_123 : decode prog_4_method_17_code 123 = .ok (.if_icmp .ge 24, 3) := by decide +kernel
theorem dx_House_mixInto_126 : decode prog_4_method_17_code 126 = .ok (.ldc2_w 93, 3) := by decide +kernel
theorem dx_House_mixInto_129 : decode prog_4_method_17_code 129 = .ok (.lload_n 3, 1) := by decide +kernel
theorem dx_House_mixInto_130 : decode prog_4_method_17_code 130 = .ok (.lmul, 1) := by decide +kernel
theorem dx_House_mixInto_131 : decode prog_4_method_17_code 131 = .ok (.aload_n 0, 1) := by decide +kernel
theorem dx_House_mixInto_132 : decode prog_4_method_17_code 132 = .ok (.getfield 24, 3) := by decide +kernel
theorem dx_House_mixInto_135 : decode prog_4_method_17_code 135 = .ok (.iload 5, 2) := by decide +kernel
theorem dx_House_mixInto_137 : decode prog_4_method_17_code 137 = .ok (.iaload, 1) := by decide +kernel
theorem dx_House_mixInto_138 : decode prog_4_method_17_code 138 = .ok (.i2l, 1) := by decide +kernel
theorem dx_House_mixInto_139 : decode prog_4_method_17_code 139 = .ok (.ladd, 1) := by decide +kernel
theorem dx_House_mixInto_14 : decode prog_4_method_17_code 14 = .ok (.ldc2_w 93, 3) := by decide +kernel
theorem dx_House_mixInto_140 : decode prog_4_method_17_code 140 = .ok (.lstore_n 3, 1) := by decide +kernel
theorem dx_House_mixInto_141 : decode prog_4_method_17_code 141 = .ok (.iinc 5 1, 3) := by decide +kernel
theorem dx_House_mixInto_144 : decode prog_4_method_17_code 144 = .ok (.goto (-27), 3) := by decide +kernel
theorem dx_House_mixInto_147 : decode prog_4_method_17_code 147 = .ok (.iconst 0, 1) := by decide +kernel
theorem dx_House_mixInto_148 : decode prog_4_method_17_code 148 = .ok (.istore 5, 2) := by decide +kernel
theorem dx_House_mixInto_150 : decode prog_4_method_17_code 150 = .ok (.iload 5, 2) := by decide +kernel
theorem dx_House_mixInto_152 : decode prog_4_method_17_code 152 = .ok (.aload_n 0, 1) := by decide +kernel
theorem dx_House_mixInto_153 : decode prog_4_method_17_code 153 = .ok (.getfield 70, 3) := by decide +kernel
theorem dx_House_mixInto_156 : decode prog_4_method_17_code 156 = .ok (.if_icmp .ge 42, 3) := by decide +kernel
theorem dx_House_mixInto_159 : decode prog_4_method_17_code 159 = .ok (.iconst 0, 1) := by decide +kernel
theorem dx_House_mixInto_160 : decode prog_4_method_17_code 160 = .ok (.istore 6, 2) := by decide +kernel
theorem dx_House_mixInto_162 : decode prog_4_method_17_code 162 = .ok (.iload 6, 2) := by decide +kernel
theorem dx_House_mixInto_164 : decode prog_4_method_17_code 164 = .ok (.iconst 4, 1) := by decide +kernel
theorem dx_House_mixInto_165 : decode prog_4_method_17_code 165 = .ok (.if_icmp .ge 27, 3) := by decide +kernel
theorem dx_House_mixInto_168 : decode prog_4_method_17_code 168 = .ok (.ldc2_w 93, 3) := by decide +kernel
theorem dx_House_mixInto_17 : decode prog_4_method_17_code 17 = .ok (.lload_n 3, 1) := by decide +kernel
theorem dx_House_mixInto_171 : decode prog_4_method_17_code 171 = .ok (.lload_n 3, 1) := by decide +kernel
theorem dx_House_mixInto_172 : decode prog_4_method_17_code 172 = .ok (.lmul, 1) := by decide +kernel
theorem dx_House_mixInto_173 : decode prog_4_method_17_code 173 = .ok (.aload_n 0, 1) := by decide +kernel
theorem dx_House_mixInto_174 : decode prog_4_method_17_code 174 = .ok (.getfield 43, 3) := by decide +kernel
theorem dx_House_mixInto_177 : decode prog_4_method_17_code 177 = .ok (.iload 5, 2) := by decide +kernel
theorem dx_House_mixInto_179 : decode prog_4_method_17_code 179 = .ok (.aaload, 1) := by decide +kernel
theorem dx_House_mixInto_18 : decode prog_4_method_17_code 18 = .ok (.lmul, 1) := by decide +kernel
theorem dx_House_mixInto_180 : decode prog_4_method_17_code 180 = .ok (.iload 6, 2) := by decide +kernel
theorem dx_House_mixInto_182 : decode prog_4_method_17_code 182 = .ok (.iaload, 1) := by decide +kernel
theorem dx_House_mixInto_183 : decode prog_4_method_17_code 183 = .ok (.i2l, 1) := by decide +kernel
theorem dx_House_mixInto_184 : decode prog_4_method_17_code 184 = .ok (.ladd, 1) := by decide +kernel
theorem dx_House_mixInto_185 : decode prog_4_method_17_code 185 = .ok (.lstore_n 3, 1) := by decide +kernel
theorem dx_House_mixInto_186 : decode prog_4_method_17_code 186 = .ok (.iinc 6 1, 3) := by decide +kernel
theorem dx_House_mixInto_189 : decode prog_4_method_17_code 189 = .ok (.goto (-27), 3) := by decide +kernel
theorem dx_House_mixInto_19 : decode prog_4_method_17_code 19 = .ok (.aload_n 0, 1) := by decide +kernel
theorem dx_House_mixInto_192 : decode prog_4_method_17_code 192 = .ok (.iinc 5 1, 3) := by decide +kernel
theorem dx_House_mixInto_195 : decode prog_4_method_17_code 195 = .ok (.goto (-45), 3) := by decide +kernel
theorem dx_House_mixInto_198 : decode prog_4_method_17_code 198 = .ok (.lload_n 3, 1) := by decide +kernel
theorem dx_House_mixInto_199 : decode prog_4_method_17_code 199 = .ok (.lreturn, 1) := by decide +kernel
theorem dx_House_mixInto_2 : decode prog_4_method_17_code 2 = .ok (.iconst 0, 1) := by decide +kernel
theorem dx_House_mixInto_20 : decode prog_4_method_17_code 20 = .ok (.getfield 9, 3) := by decide +kernel
theorem dx_House_mixInto_23 : decode prog_4_method_17_code 23 = .ok (.iload 5, 2) := by decide +kernel
theorem dx_House_mixInto_25 : decode prog_4_method_17_code 25 = .ok (.iaload, 1) := by decide +kernel
theorem dx_House_mixInto_26 : decode prog_4_method_17_code 26 = .ok (.i2l, 1) := by decide +kernel
theorem dx_House_mixInto_27 : decode prog_4_method_17_code 27 = .ok (.ladd, 1) := by decide +kernel
theorem dx_House_mixInto_28 : decode prog_4_method_17_code 28 = .ok (.lstore_n 3, 1) := by decide +kernel
theorem dx_House_mixInto_29 : decode prog_4_method_17_code 29 = .ok (.ldc2_w 93, 3) := by decide +kernel
theorem dx_House_mixInto_3 : decode prog_4_method_17_code 3 = .ok (.istore 5, 2) := by decide +kernel
theorem dx_House_mixInto_32 : decode prog_4_method_17_code 32 = .ok (.lload_n 3, 1) := by decide +kernel
theorem dx_House_mixInto_33 : decode prog_4_method_17_code 33 = .ok (.lmul, 1) := by decide +kernel
theorem dx_House_mixInto_34 : decode prog_4_method_17_code 34 = .ok (.aload_n 0, 1) := by decide +kernel
theorem dx_House_mixInto_35 : decode prog_4_method_17_code 35 = .ok (.getfield 15, 3) := by decide +kernel
theorem dx_House_mixInto_38 : decode prog_4_method_17_code 38 = .ok (.iload 5, 2) := by decide +kernel
theorem dx_House_mixInto_40 : decode prog_4_method_17_code 40 = .ok (.iaload, 1) := by decide +kernel
theorem dx_House_mixInto_41 : decode prog_4_method_17_code 41 = .ok (.i2l, 1) := by decide +kernel
theorem dx_House_mixInto_42 : decode prog_4_method_17_code 42 = .ok (.ladd, 1) := by decide +kernel
theorem dx_House_mixInto_43 : decode prog_4_method_17_code 43 = .ok (.lstore_n 3, 1) := by decide +kernel
theorem dx_House_mixInto_44 : decode prog_4_method_17_code 44 = .ok (.ldc2_w 93, 3) := by decide +kernel
theorem dx_House_mixInto_47 : decode prog_4_method_17_code 47 = .ok (.lload_n 3, 1) := by decide +kernel
theorem dx_House_mixInto_48 : decode prog_4_method_17_code 48 = .ok (.lmul, 1) := by decide +kernel
theorem dx_House_mixInto_49 : decode prog_4_method_17_code 49 = .ok (.aload_n 0, 1) := by decide +kernel
theorem dx_House_mixInto_5 : decode prog_4_method_17_code 5 = .ok (.iload 5, 2) := by decide +kernel
theorem dx_House_mixInto_50 : decode prog_4_method_17_code 50 = .ok (.getfield 18, 3) := by decide +kernel
theorem dx_House_mixInto_53 : decode prog_4_method_17_code 53 = .ok (.iload 5, 2) := by decide +kernel
theorem dx_House_mixInto_55 : decode prog_4_method_17_code 55 = .ok (.iaload, 1) := by decide +kernel
theorem dx_House_mixInto_56 : decode prog_4_method_17_code 56 = .ok (.i2l, 1) := by decide +kernel
theorem dx_House_mixInto_57 : decode prog_4_method_17_code 57 = .ok (.ladd, 1) := by decide +kernel
theorem dx_House_mixInto_58 : decode prog_4_method_17_code 58 = .ok (.lstore_n 3, 1) := by decide +kernel
theorem dx_House_mixInto_59 : decode prog_4_method_17_code 59 = .ok (.ldc2_w 93, 3) := by decide +kernel
theorem dx_House_mixInto_62 : decode prog_4_method_17_code 62 = .ok (.lload_n 3, 1) := by decide +kernel
theorem dx_House_mixInto_63 : decode prog_4_method_17_code 63 = .ok (.lmul, 1) := by decide +kernel
theorem dx_House_mixInto_64 : decode prog_4_method_17_code 64 = .ok (.aload_n 0, 1) := by decide +kernel
theorem dx_House_mixInto_65 : decode prog_4_method_17_code 65 = .ok (.getfield 21, 3) := by decide +kernel
theorem dx_House_mixInto_68 : decode prog_4_method_17_code 68 = .ok (.iload 5, 2) := by decide +kernel
theorem dx_House_mixInto_7 : decode prog_4_method_17_code 7 = .ok (.aload_n 0, 1) := by decide +kernel
theorem dx_House_mixInto_70 : decode prog_4_method_17_code 70 = .ok (.iaload, 1) := by decide +kernel
theorem dx_House_mixInto_71 : decode prog_4_method_17_code 71 = .ok (.i2l, 1) := by decide +kernel
theorem dx_House_mixInto_72 : decode prog_4_method_17_code 72 = .ok (.ladd, 1) := by decide +kernel
theorem dx_House_mixInto_73 : decode prog_4_method_17_code 73 = .ok (.lstore_n 3, 1) := by decide +kernel
theorem dx_House_mixInto_74 : decode prog_4_method_17_code 74 = .ok (.iconst 0, 1) := by decide +kernel
theorem dx_House_mixInto_75 : decode prog_4_method_17_code 75 = .ok (.istore 6, 2) := by decide +kernel
theorem dx_House_mixInto_77 : decode prog_4_method_17_code 77 = .ok (.iload 6, 2) := by decide +kernel
theorem dx_House_mixInto_79 : decode prog_4_method_17_code 79 = .ok (.bipush 8, 2) := by decide +kernel
theorem dx_House_mixInto_8 : decode prog_4_method_17_code 8 = .ok (.getfield 46, 3) := by decide +kernel
theorem dx_House_mixInto_81 : decode prog_4_method_17_code 81 = .ok (.if_icmp .ge 27, 3) := by decide +kernel
theorem dx_House_mixInto_84 : decode prog_4_method_17_code 84 = .ok (.ldc2_w 93, 3) := by decide +kernel
theorem dx_House_mixInto_87 : decode prog_4_method_17_code 87 = .ok (.lload_n 3, 1) := by decide +kernel
theorem dx_House_mixInto_88 : decode prog_4_method_17_code 88 = .ok (.lmul, 1) := by decide +kernel
theorem dx_House_mixInto_89 : decode prog_4_method_17_code 89 = .ok (.aload_n 0, 1) := by decide +kernel
theorem dx_House_mixInto_90 : decode prog_4_method_17_code 90 = .ok (.getfield 29, 3) := by decide +kernel
theorem dx_House_mixInto_93 : decode prog_4_method_17_code 93 = .ok (.iload 5, 2) := by decide +kernel
theorem dx_House_mixInto_95 : decode prog_4_method_17_code 95 = .ok (.aaload, 1) := by decide +kernel
theorem dx_House_mixInto_96 : decode prog_4_method_17_code 96 = .ok (.iload 6, 2) := by decide +kernel
theorem dx_House_mixInto_98 : decode prog_4_method_17_code 98 = .ok (.iaload, 1) := by decide +kernel
theorem dx_House_mixInto_99 : decode prog_4_method_17_code 99 = .ok (.i2l, 1) := by decide +kernel
theorem dx_House_overlap_0 : decode prog_4_method_15_code 0 = .ok (.aload_n 0, 1) := by decide +kernel
theorem dx_House_overlap_1 : decode prog_4_method_15_code 1 = .ok (.iconst 0, 1) := by decide +kernel
theorem dx_House_overlap_10 : decode prog_4_method_15_code 10 = .ok (.iconst 1, 1) := by decide +kernel
theorem dx_House_overlap_11 : decode prog_4_method_15_code 11 = .ok (.iaload, 1) := by decide +kernel
theorem dx_House_overlap_12 : decode prog_4_method_15_code 12 = .ok (.aload_n 1, 1) := by decide +kernel
theorem dx_House_overlap_13 : decode prog_4_method_15_code 13 = .ok (.iconst 2, 1) := by decide +kernel
theorem dx_House_overlap_14 : decode prog_4_method_15_code 14 = .ok (.iaload, 1) := by decide +kernel
theorem dx_House_overlap_15 : decode prog_4_method_15_code 15 = .ok (.if_icmp .gt 16, 3) := by decide +kernel
theorem dx_House_overlap_18 : decode prog_4_method_15_code 18 = .ok (.aload_n 1, 1) := by decide +kernel
theorem dx_House_overlap_19 : decode prog_4_method_15_code 19 = .ok (.iconst 1, 1) := by decide +kernel
theorem dx_House_overlap_2 : decode prog_4_method_15_code 2 = .ok (.iaload, 1) := by decide +kernel
theorem dx_House_overlap_20 : decode prog_4_method_15_code 20 = .ok (.iaload, 1) := by decide +kernel
theorem dx_House_overlap_21 : decode prog_4_method_15_code 21 = .ok (.aload_n 0, 1) := by decide +kernel
theorem dx_House_overlap_22 : decode prog_4_method_15_code 22 = .ok (.iconst 2, 1) := by decide +kernel
theorem dx_House_overlap_23 : decode prog_4_method_15_code 23 = .ok (.iaload, 1) := by decide +kernel
theorem dx_House_overlap_24 : decode prog_4_method_15_code 24 = .ok (.if_icmp .gt 7, 3) := by decide +kernel
theorem dx_House_overlap_27 : decode prog_4_method_15_code 27 = .ok (.iconst 1, 1) := by decide +kernel
theorem dx_House_overlap_28 : decode prog_4_method_15_code 28 = .ok (.goto 4, 3) := by decide +kernel
theorem dx_House_overlap_3 : decode prog_4_method_15_code 3 = .ok (.aload_n 1, 1) := by decide +kernel
theorem dx_House_overlap_31 : decode prog_4_method_15_code 31 = .ok (.iconst 0, 1) := by decide +kernel
theorem dx_House_overlap_32 : decode prog_4_method_15_code 32 = .ok (.ireturn, 1) := by decide +kernel
theorem dx_House_overlap_4 : decode prog_4_method_15_code 4 = .ok (.iconst 0, 1) := by decide +kernel
theorem dx_House_overlap_5 : decode prog_4_method_15_code 5 = .ok (.iaload, 1) := by decide +kernel
theorem dx_House_overlap_6 : decode prog_4_method_15_code 6 = .ok (.if_icmp .ne 25, 3) := by decide +kernel
theorem dx_House_overlap_9 : decode prog_4_method_15_code 9 = .ok (.aload_n 0, 1) := by decide +kernel
theorem dx_House_wakeUpWith_0 : decode prog_4_method_12_code 0 = .ok (.aload_n 0, 1) := by decide +kernel
theorem dx_House_wakeUpWith_1 : decode prog_4_method_12_code 1 = .ok (.getfield 67, 3) := by decide +kernel
theorem dx_House_wakeUpWith_10 : decode prog_4_method_12_code 10 = .ok (.getfield 39, 3) := by decide +kernel
theorem dx_House_wakeUpWith_100 : decode prog_4_method_12_code 100 = .ok (.iconst 1, 1) := by decide +kernel
theorem dx_House_wakeUpWith_101 : decode prog_4_method_12_code 101 = .ok (.iadd, 1) := by decide +kernel
theorem dx_House_wakeUpWith_102 : decode prog_4_method_12_code 102 = .ok (.putfield 73, 3) := by decide +kernel
theorem dx_House_wakeUpWith_105 : decode prog_4_method_12_code 105 = .ok (.return_, 1) := by decide +kernel
theorem dx_House_wakeUpWith_13 : decode prog_4_method_12_code 13 = .ok (.iconst 0, 1) := by decide +kernel
theorem dx_House_wakeUpWith_14 : decode prog_4_method_12_code 14 = .ok (.aaload, 1) := by decide +kernel
theorem dx_House_wakeUpWith_15 : decode prog_4_method_12_code 15 = .ok (.astore_n 2, 1) := by decide +kernel
theorem dx_House_wakeUpWith_16 : decode prog_4_method_12_code 16 = .ok (.iconst 1, 1) := by decide +kernel
theorem dx_House_wakeUpWith_17 : decode prog_4_method_12_code 17 = .ok (.istore_n 3, 1) := by decide +kernel
theorem dx_House_wakeUpWith_18 : decode prog_4_method_12_code 18 = .ok (.iload_n 3, 1) := by decide +kernel
theorem dx_House_wakeUpWith_19 : decode prog_4_method_12_code 19 = .ok (.bipush 6, 2) := by decide +kernel
theorem dx_House_wakeUpWith_21 : decode prog_4_method_12_code 21 = .ok (.if_icmp .ge 23, 3) := by decide +kernel
theorem dx_House_wakeUpWith_24 : decode prog_4_method_12_code 24 = .ok (.aload_n 0, 1) := by decide +kernel
theorem dx_House_wakeUpWith_25 : decode prog_4_method_12_code 25 = .ok (.getfield 39, 3) := by decide +kernel
theorem dx_House_wakeUpWith_28 : decode prog_4_method_12_code 28 = .ok (.iload_n 3, 1) := by decide +kernel
theorem dx_House_wakeUpWith_29 : decode prog_4_method_12_code 29 = .ok (.iconst 1, 1) := by decide +kernel
theorem dx_House_wakeUpWith_30 : decode prog_4_method_12_code 30 = .ok (.isub, 1) := by decide +kernel
theorem dx_House_wakeUpWith_31 : decode prog_4_method_12_code 31 = .ok (.aload_n 0, 1) := by decide +kernel
theorem dx_House_wakeUpWith_32 : decode prog_4_method_12_code 32 = .ok (.getfield 39, 3) := by decide +kernel
theorem dx_House_wakeUpWith_35 : decode prog_4_method_12_code 35 = .ok (.iload_n 3, 1) := by decide +kernel
theorem dx_House_wakeUpWith_36 : decode prog_4_method_12_code 36 = .ok (.aaload, 1) := by decide +kernel
theorem dx_House_wakeUpWith_37 : decode prog_4_method_12_code 37 = .ok (.aastore, 1) := by decide +kernel
theorem dx_House_wakeUpWith_38 : decode prog_4_method_12_code 38 = .ok (.iinc 3 1, 3) := by decide +kernel
theorem dx_House_wakeUpWith_4 : decode prog_4_method_12_code 4 = .ok (.bipush 6, 2) := by decide +kernel
theorem dx_House_wakeUpWith_41 : decode prog_4_method_12_code 41 = .ok (.goto (-23), 3) := by decide +kernel
theorem dx_House_wakeUpWith_44 : decode prog_4_method_12_code 44 = .ok (.aload_n 0, 1) := by decide +kernel
theorem dx_House_wakeUpWith_45 : decode prog_4_method_12_code 45 = .ok (.getfield 39, 3) := by decide +kernel
theorem dx_House_wakeUpWith_48 : decode prog_4_method_12_code 48 = .ok (.iconst 5, 1) := by decide +kernel
theorem dx_House_wakeUpWith_49 : decode prog_4_method_12_code 49 = .ok (.aload_n 2, 1) := by decide +kernel
theorem dx_House_wakeUpWith_50 : decode prog_4_method_12_code 50 = .ok (.aastore, 1) := by decide +kernel
theorem dx_House_wakeUpWith_51 : decode prog_4_method_12_code 51 = .ok (.aload_n 0, 1) := by decide +kernel
theorem dx_House_wakeUpWith_52 : decode prog_4_method_12_code 52 = .ok (.dup, 1) := by decide +kernel
theorem dx_House_wakeUpWith_53 : decode prog_4_method_12_code 53 = .ok (.getfield 67, 3) := by decide +kernel
theorem dx_House_wakeUpWith_56 : decode prog_4_method_12_code 56 = .ok (.iconst 1, 1) := by decide +kernel
theorem dx_House_wakeUpWith_57 : decode prog_4_method_12_code 57 = .ok (.isub, 1) := by decide +kernel
theorem dx_House_wakeUpWith_58 : decode prog_4_method_12_code 58 = .ok (.putfield 67, 3) := by decide +kernel
theorem dx_House_wakeUpWith_6 : decode prog_4_method_12_code 6 = .ok (.if_icmp .ne 55, 3) := by decide +kernel
theorem dx_House_wakeUpWith_61 : decode prog_4_method_12_code 61 = .ok (.aload_n 0, 1) := by decide +kernel
theorem dx_House_wakeUpWith_62 : decode prog_4_method_12_code 62 = .ok (.getfield 39, 3) := by decide +kernel
theorem dx_House_wakeUpWith_65 : decode prog_4_method_12_code 65 = .ok (.aload_n 0, 1) := by decide +kernel
theorem dx_House_wakeUpWith_66 : decode prog_4_method_12_code 66 = .ok (.getfield 67, 3) := by decide +kernel
theorem dx_House_wakeUpWith_69 : decode prog_4_method_12_code 69 = .ok (.aaload, 1) := by decide +kernel
theorem dx_House_wakeUpWith_70 : decode prog_4_method_12_code 70 = .ok (.aload_n 0, 1) := by decide +kernel
theorem dx_House_wakeUpWith_71 : decode prog_4_method_12_code 71 = .ok (.getfield 35, 3) := by decide +kernel
theorem dx_House_wakeUpWith_74 : decode prog_4_method_12_code 74 = .ok (.invokevirtual 79, 3) := by decide +kernel
theorem dx_House_wakeUpWith_77 : decode prog_4_method_12_code 77 = .ok (.aload_n 0, 1) := by decide +kernel
theorem dx_House_wakeUpWith_78 : decode prog_4_method_12_code 78 = .ok (.dup, 1) := by decide +kernel
theorem dx_House_wakeUpWith_79 : decode prog_4_method_12_code 79 = .ok (.getfield 67, 3) := by decide +kernel
theorem dx_House_wakeUpWith_82 : decode prog_4_method_12_code 82 = .ok (.iconst 1, 1) := by decide +kernel
theorem dx_House_wakeUpWith_83 : decode prog_4_method_12_code 83 = .ok (.iadd, 1) := by decide +kernel
theorem dx_House_wakeUpWith_84 : decode prog_4_method_12_code 84 = .ok (.putfield 67, 3) := by decide +kernel
theorem dx_House_wakeUpWith_87 : decode prog_4_method_12_code 87 = .ok (.aload_n 0, 1) := by decide +kernel
theorem dx_House_wakeUpWith_88 : decode prog_4_method_12_code 88 = .ok (.getfield 35, 3) := by decide +kernel
theorem dx_House_wakeUpWith_9 : decode prog_4_method_12_code 9 = .ok (.aload_n 0, 1) := by decide +kernel
theorem dx_House_wakeUpWith_91 : decode prog_4_method_12_code 91 = .ok (.aload_n 1, 1) := by decide +kernel
theorem dx_House_wakeUpWith_92 : decode prog_4_method_12_code 92 = .ok (.invokevirtual 79, 3) := by decide +kernel
theorem dx_House_wakeUpWith_95 : decode prog_4_method_12_code 95 = .ok (.aload_n 0, 1) := by decide +kernel
theorem dx_House_wakeUpWith_96 : decode prog_4_method_12_code 96 = .ok (.dup, 1) := by decide +kernel
theorem dx_House_wakeUpWith_97 : decode prog_4_method_12_code 97 = .ok (.getfield 73, 3) := by decide +kernel
theorem dx_JInteger_bitCount_0 : decode prog_13_method_49_code 0 = .ok (.iload_n 0, 1) := by decide +kernel
theorem dx_JInteger_bitCount_1 : decode prog_13_method_49_code 1 = .ok (.iload_n 0, 1) := by decide +kernel
theorem dx_JInteger_bitCount_10 : decode prog_13_method_49_code 10 = .ok (.iload_n 0, 1) := by decide +kernel
theorem dx_JInteger_bitCount_11 : decode prog_13_method_49_code 11 = .ok (.ldc_w 266, 3) := by decide +kernel
theorem dx_JInteger_bitCount_14 : decode prog_13_method_49_code 14 = .ok (.iand, 1) := by decide +kernel
theorem dx_JInteger_bitCount_15 : decode prog_13_method_49_code 15 = .ok (.iload_n 0, 1) := by decide +kernel
theorem dx_JInteger_bitCount_16 : decode prog_13_method_49_code 16 = .ok (.iconst 2, 1) := by decide +kernel
theorem dx_JInteger_bitCount_17 : decode prog_13_method_49_code 17 = .ok (.iushr, 1) := by decide +kernel
theorem dx_JInteger_bitCount_18 : decode prog_13_method_49_code 18 = .ok (.ldc_w 266, 3) := by decide +kernel
theorem dx_JInteger_bitCount_2 : decode prog_13_method_49_code 2 = .ok (.iconst 1, 1) := by decide +kernel
theorem dx_JInteger_bitCount_21 : decode prog_13_method_49_code 21 = .ok (.iand, 1) := by decide +kernel
theorem dx_JInteger_bitCount_22 : decode prog_13_method_49_code 22 = .ok (.iadd, 1) := by decide +kernel
theorem dx_JInteger_bitCount_23 : decode prog_13_method_49_code 23 = .ok (.istore_n 0, 1) := by decide +kernel
theorem dx_JInteger_bitCount_24 : decode prog_13_method_49_code 24 = .ok (.iload_n 0, 1) := by decide +kernel
theorem dx_JInteger_bitCount_25 : decode prog_13_method_49_code 25 = .ok (.iload_n 0, 1) := by decide +kernel
theorem dx_JInteger_bitCount_26 : decode prog_13_method_49_code 26 = .ok (.iconst 4, 1) := by decide +kernel
theorem dx_JInteger_bitCount_27 : decode prog_13_method_49_code 27 = .ok (.iushr, 1) := by decide +kernel
theorem dx_JInteger_bitCount_28 : decode prog_13_method_49_code 28 = .ok (.iadd, 1) := by decide +kernel
theorem dx_JInteger_bitCount_29 : decode prog_13_method_49_code 29 = .ok (.ldc_w 267, 3) := by decide +kernel
theorem dx_JInteger_bitCount_3 : decode prog_13_method_49_code 3 = .ok (.iushr, 1) := by decide +kernel
theorem dx_JInteger_bitCount_32 : decode prog_13_method_49_code 32 = .ok (.iand, 1) := by decide +kernel
theorem dx_JInteger_bitCount_33 : decode prog_13_method_49_code 33 = .ok (.istore_n 0, 1) := by decide +kernel
theorem dx_JInteger_bitCount_34 : decode prog_13_method_49_code 34 = .ok (.iload_n 0, 1) := by decide +kernel
theorem dx_JInteger_bitCount_35 : decode prog_13_method_49_code 35 = .ok (.iload_n 0, 1) := by decide +kernel
theorem dx_JInteger_bitCount_36 : decode prog_13_method_49_code 36 = .ok (.bipush 8, 2) := by decide +kernel
theorem dx_JInteger_bitCount_38 : decode prog_13_method_49_code 38 = .ok (.iushr, 1) := by decide +kernel
theorem dx_JInteger_bitCount_39 : decode prog_13_method_49_code 39 = .ok (.iadd, 1) := by decide +kernel
theorem dx_JInteger_bitCount_4 : decode prog_13_method_49_code 4 = .ok (.ldc_w 265, 3) := by decide +kernel
theorem dx_JInteger_bitCount_40 : decode prog_13_method_49_code 40 = .ok (.istore_n 0, 1) := by decide +kernel
theorem dx_JInteger_bitCount_41 : decode prog_13_method_49_code 41 = .ok (.iload_n 0, 1) := by decide +kernel
theorem dx_JInteger_bitCount_42 : decode prog_13_method_49_code 42 = .ok (.iload_n 0, 1) := by decide +kernel
theorem dx_JInteger_bitCount_43 : decode prog_13_method_49_code 43 = .ok (.bipush 16, 2) := by decide +kernel
theorem dx_JInteger_bitCount_45 : decode prog_13_method_49_code 45 = .ok (.iushr, 1) := by decide +kernel
theorem dx_JInteger_bitCount_46 : decode prog_13_method_49_code 46 = .ok (.iadd, 1) := by decide +kernel
theorem dx_JInteger_bitCount_47 : decode prog_13_method_49_code 47 = .ok (.istore_n 0, 1) := by decide +kernel
theorem dx_JInteger_bitCount_48 : decode prog_13_method_49_code 48 = .ok (.iload_n 0, 1) := by decide +kernel
theorem dx_JInteger_bitCount_49 : decode prog_13_method_49_code 49 = .ok (.bipush 63, 2) := by decide +kernel
theorem dx_JInteger_bitCount_51 : decode prog_13_method_49_code 51 = .ok (.iand, 1) := by decide +kernel
theorem dx_JInteger_bitCount_52 : decode prog_13_method_49_code 52 = .ok (.ireturn, 1) := by decide +kernel
theorem dx_JInteger_bitCount_7 : decode prog_13_method_49_code 7 = .ok (.iand, 1) := by decide +kernel
theorem dx_JInteger_bitCount_8 : decode prog_13_method_49_code 8 = .ok (.isub, 1) := by decide +kernel
theorem dx_JInteger_bitCount_9 : decode prog_13_method_49_code 9 = .ok (.istore_n 0, 1) := by decide +kernel
theorem dx_JPreconditions_checkIndex_0 : decode prog_19_method_11_code 0 = .ok (.iload_n 0, 1) := by decide +kernel
theorem dx_JPreconditions_checkIndex_1 : decode prog_19_method_11_code 1 = .ok (.ifCond .lt 8, 3) := by decide +kernel
theorem dx_JPreconditions_checkIndex_16 : decode prog_19_method_11_code 16 = .ok (.iload_n 0, 1) := by decide +kernel
theorem dx_JPreconditions_checkIndex_17 : decode prog_19_method_11_code 17 = .ok (.ireturn, 1) := by decide +kernel
theorem dx_JPreconditions_checkIndex_4 : decode prog_19_method_11_code 4 = .ok (.iload_n 0, 1) := by decide +kernel
theorem dx_JPreconditions_checkIndex_5 : decode prog_19_method_11_code 5 = .ok (.iload_n 1, 1) := by decide +kernel
theorem dx_JPreconditions_checkIndex_6 : decode prog_19_method_11_code 6 = .ok (.if_icmp .lt 10, 3) := by decide +kernel
theorem dx_JStringLatin1_charAt_0 : decode prog_16_method_2_code 0 = .ok (.iload_n 1, 1) := by decide +kernel
theorem dx_JStringLatin1_charAt_1 : decode prog_16_method_2_code 1 = .ok (.aload_n 0, 1) := by decide +kernel
theorem dx_JStringLatin1_charAt_12 : decode prog_16_method_2_code 12 = .ok (.iand, 1) := by decide +kernel
theorem dx_JStringLatin1_charAt_13 : decode prog_16_method_2_code 13 = .ok (.i2c, 1) := by decide +kernel
theorem dx_JStringLatin1_charAt_14 : decode prog_16_method_2_code 14 = .ok (.ireturn, 1) := by decide +kernel
theorem dx_JStringLatin1_charAt_2 : decode prog_16_method_2_code 2 = .ok (.arraylength, 1) := by decide +kernel
theorem dx_JStringLatin1_charAt_3 : decode prog_16_method_2_code 3 = .ok (.invokestatic 9, 3) := by decide +kernel
theorem dx_JStringLatin1_charAt_6 : decode prog_16_method_2_code 6 = .ok (.aload_n 0, 1) := by decide +kernel
theorem dx_JStringLatin1_charAt_7 : decode prog_16_method_2_code 7 = .ok (.iload_n 1, 1) := by decide +kernel
theorem dx_JStringLatin1_charAt_8 : decode prog_16_method_2_code 8 = .ok (.baload, 1) := by decide +kernel
theorem dx_JStringLatin1_charAt_9 : decode prog_16_method_2_code 9 = .ok (.sipush 255, 3) := by decide +kernel
theorem dx_JString_charAt_0 : decode prog_15_method_56_code 0 = .ok (.aload_n 0, 1) := by decide +kernel
theorem dx_JString_charAt_1 : decode prog_15_method_56_code 1 = .ok (.invokevirtual 492, 3) := by decide +kernel
theorem dx_JString_charAt_11 : decode prog_15_method_56_code 11 = .ok (.iload_n 1, 1) := by decide +kernel
theorem dx_JString_charAt_12 : decode prog_15_method_56_code 12 = .ok (.invokestatic 495, 3) := by decide +kernel
theorem dx_JString_charAt_15 : decode prog_15_method_56_code 15 = .ok (.ireturn, 1) := by decide +kernel
theorem dx_JString_charAt_4 : decode prog_15_method_56_code 4 = .ok (.ifCond .eq 12, 3) := by decide +kernel
theorem dx_JString_charAt_7 : decode prog_15_method_56_code 7 = .ok (.aload_n 0, 1) := by decide +kernel
theorem dx_JString_charAt_8 : decode prog_15_method_56_code 8 = .ok (.getfield 9, 3) := by decide +kernel
theorem dx_JString_checkIndex_0 : decode prog_15_method_155_code 0 = .ok (.iload_n 0, 1) := by decide +kernel
theorem dx_JString_checkIndex_1 : decode prog_15_method_155_code 1 = .ok (.iload_n 1, 1) := by decide +kernel
theorem dx_JString_checkIndex_2 : decode prog_15_method_155_code 2 = .ok (.getstatic 1053, 3) := by decide +kernel
theorem dx_JString_checkIndex_5 : decode prog_15_method_155_code 5 = .ok (.invokestatic 1059, 3) := by decide +kernel
theorem dx_JString_checkIndex_8 : decode prog_15_method_155_code 8 = .ok (.pop, 1) := by decide +kernel
theorem dx_JString_checkIndex_9 : decode prog_15_method_155_code 9 = .ok (.return_, 1) := by decide +kernel
theorem dx_JString_coder_0 : decode prog_15_method_152_code 0 = .ok (.getstatic 38, 3) := by decide +kernel
theorem dx_JString_coder_10 : decode prog_15_method_152_code 10 = .ok (.goto 4, 3) := by decide +kernel
theorem dx_JString_coder_13 : decode prog_15_method_152_code 13 = .ok (.iconst 1, 1) := by decide +kernel
theorem dx_JString_coder_14 : decode prog_15_method_152_code 14 = .ok (.ireturn, 1) := by decide +kernel
theorem dx_JString_coder_3 : decode prog_15_method_152_code 3 = .ok (.ifCond .eq 10, 3) := by decide +kernel
theorem dx_JString_coder_6 : decode prog_15_method_152_code 6 = .ok (.aload_n 0, 1) := by decide +kernel
theorem dx_JString_coder_7 : decode prog_15_method_152_code 7 = .ok (.getfield 15, 3) := by decide +kernel
theorem dx_JString_isLatin1_0 : decode prog_15_method_154_code 0 = .ok (.getstatic 38, 3) := by decide +kernel
theorem dx_JString_isLatin1_10 : decode prog_15_method_154_code 10 = .ok (.ifCond .ne 7, 3) := by decide +kernel
theorem dx_JString_isLatin1_13 : decode prog_15_method_154_code 13 = .ok (.iconst 1, 1) := by decide +kernel
theorem dx_JString_isLatin1_14 : decode prog_15_method_154_code 14 = .ok (.goto 4, 3) := by decide +kernel
theorem dx_JString_isLatin1_17 : decode prog_15_method_154_code 17 = .ok (.iconst 0, 1) := by decide +kernel
theorem dx_JString_isLatin1_18 : decode prog_15_method_154_code 18 = .ok (.ireturn, 1) := by decide +kernel
theorem dx_JString_isLatin1_3 : decode prog_15_method_154_code 3 = .ok (.ifCond .eq 14, 3) := by decide +kernel
theorem dx_JString_isLatin1_6 : decode prog_15_method_154_code 6 = .ok (.aload_n 0, 1) := by decide +kernel
theorem dx_JString_isLatin1_7 : decode prog_15_method_154_code 7 = .ok (.getfield 15, 3) := by decide +kernel
theorem dx_JString_length_0 : decode prog_15_method_54_code 0 = .ok (.aload_n 0, 1) := by decide +kernel
theorem dx_JString_length_1 : decode prog_15_method_54_code 1 = .ok (.getfield 9, 3) := by decide +kernel
theorem dx_JString_length_10 : decode prog_15_method_54_code 10 = .ok (.ireturn, 1) := by decide +kernel
theorem dx_JString_length_4 : decode prog_15_method_54_code 4 = .ok (.arraylength, 1) := by decide +kernel
theorem dx_JString_length_5 : decode prog_15_method_54_code 5 = .ok (.aload_n 0, 1) := by decide +kernel
theorem dx_JString_length_6 : decode prog_15_method_54_code 6 = .ok (.invokevirtual 335, 3) := by decide +kernel
theorem dx_JString_length_9 : decode prog_15_method_54_code 9 = .ok (.ishr, 1) := by decide +kernel
theorem dx_L_borrower_0 : decode prog_1_method_19_code 0 = .ok (.aload_n 0, 1) := by decide +kernel
theorem dx_L_borrower_1 : decode prog_1_method_19_code 1 = .ok (.getfield 10, 3) := by decide +kernel
theorem dx_L_borrower_11 : decode prog_1_method_19_code 11 = .ok (.iload_n 2, 1) := by decide +kernel
theorem dx_L_borrower_12 : decode prog_1_method_19_code 12 = .ok (.ifCond .lt 24, 3) := by decide +kernel
theorem dx_L_borrower_15 : decode prog_1_method_19_code 15 = .ok (.iload_n 2, 1) := by decide +kernel
theorem dx_L_borrower_16 : decode prog_1_method_19_code 16 = .ok (.iload_n 3, 1) := by decide +kernel
theorem dx_L_borrower_17 : decode prog_1_method_19_code 17 = .ok (.if_icmp .gt 19, 3) := by decide +kernel
theorem dx_L_borrower_20 : decode prog_1_method_19_code 20 = .ok (.iload_n 3, 1) := by decide +kernel
theorem dx_L_borrower_21 : decode prog_1_method_19_code 21 = .ok (.bipush 12, 2) := by decide +kernel
theorem dx_L_borrower_23 : decode prog_1_method_19_code 23 = .ok (.if_icmp .gt 13, 3) := by decide +kernel
theorem dx_L_borrower_26 : decode prog_1_method_19_code 26 = .ok (.iload 4, 2) := by decide +kernel
theorem dx_L_borrower_28 : decode prog_1_method_19_code 28 = .ok (.bipush 12, 2) := by decide +kernel
theorem dx_L_borrower_30 : decode prog_1_method_19_code 30 = .ok (.invokestatic 77, 3) := by decide +kernel
theorem dx_L_borrower_33 : decode prog_1_method_19_code 33 = .ok (.ifCond .ne 8, 3) := by decide +kernel
theorem dx_L_borrower_36 : decode prog_1_method_19_code 36 = .ok (.aload_n 0, 1) := by decide +kernel
theorem dx_L_borrower_37 : decode prog_1_method_19_code 37 = .ok (.invokevirtual 81, 3) := by decide +kernel
theorem dx_L_borrower_4 : decode prog_1_method_19_code 4 = .ok (.iload_n 1, 1) := by decide +kernel
theorem dx_L_borrower_40 : decode prog_1_method_19_code 40 = .ok (.ireturn, 1) := by decide +kernel
theorem dx_L_borrower_41 : decode prog_1_method_19_code 41 = .ok (.aload_n 0, 1) := by decide +kernel
theorem dx_L_borrower_42 : decode prog_1_method_19_code 42 = .ok (.getfield 10, 3) := by decide +kernel
theorem dx_L_borrower_45 : decode prog_1_method_19_code 45 = .ok (.getfield 226, 3) := by decide +kernel
theorem dx_L_borrower_48 : decode prog_1_method_19_code 48 = .ok (.bipush 6, 2) := by decide +kernel
theorem dx_L_borrower_5 : decode prog_1_method_19_code 5 = .ok (.invokevirtual 135, 3) := by decide +kernel
theorem dx_L_borrower_50 : decode prog_1_method_19_code 50 = .ok (.if_icmp .lt 8, 3) := by decide +kernel
theorem dx_L_borrower_53 : decode prog_1_method_19_code 53 = .ok (.aload_n 0, 1) := by decide +kernel
theorem dx_L_borrower_54 : decode prog_1_method_19_code 54 = .ok (.invokevirtual 89, 3) := by decide +kernel
theorem dx_L_borrower_57 : decode prog_1_method_19_code 57 = .ok (.ireturn, 1) := by decide +kernel
theorem dx_L_borrower_58 : decode prog_1_method_19_code 58 = .ok (.aload_n 0, 1) := by decide +kernel
theorem dx_L_borrower_59 : decode prog_1_method_19_code 59 = .ok (.getfield 10, 3) := by decide +kernel
theorem dx_L_borrower_62 : decode prog_1_method_19_code 62 = .ok (.iload_n 1, 1) := by decide +kernel
theorem dx_L_borrower_63 : decode prog_1_method_19_code 63 = .ok (.iload_n 2, 1) := by decide +kernel
theorem dx_L_borrower_64 : decode prog_1_method_19_code 64 = .ok (.iload_n 3, 1) := by decide +kernel
theorem dx_L_borrower_65 : decode prog_1_method_19_code 65 = .ok (.iload 4, 2) := by decide +kernel
theorem dx_L_borrower_67 : decode prog_1_method_19_code 67 = .ok (.invokevirtual 229, 3) := by decide +kernel
theorem dx_L_borrower_70 : decode prog_1_method_19_code 70 = .ok (.aload_n 0, 1) := by decide +kernel
theorem dx_L_borrower_71 : decode prog_1_method_19_code 71 = .ok (.getfield 10, 3) := by decide +kernel
theorem dx_L_borrower_74 : decode prog_1_method_19_code 74 = .ok (.getfield 226, 3) := by decide +kernel
theorem dx_L_borrower_77 : decode prog_1_method_19_code 77 = .ok (.iconst 1, 1) := by decide +kernel
theorem dx_L_borrower_78 : decode prog_1_method_19_code 78 = .ok (.isub, 1) := by decide +kernel
theorem dx_L_borrower_79 : decode prog_1_method_19_code 79 = .ok (.ireturn, 1) := by decide +kernel
theorem dx_L_borrower_8 : decode prog_1_method_19_code 8 = .ok (.ifCond .eq 28, 3) := by decide +kernel
theorem dx_L_bound_0 : decode prog_1_method_15_code 0 = .ok (.aload_n 0, 1) := by decide +kernel
theorem dx_L_bound_1 : decode prog_1_method_15_code 1 = .ok (.getfield 10, 3) := by decide +kernel
theorem dx_L_bound_11 : decode prog_1_method_15_code 11 = .ok (.iload_n 2, 1) := by decide +kernel
theorem dx_L_bound_12 : decode prog_1_method_15_code 12 = .ok (.ifCond .lt 14, 3) := by decide +kernel
theorem dx_L_bound_15 : decode prog_1_method_15_code 15 = .ok (.iload_n 2, 1) := by decide +kernel
theorem dx_L_bound_16 : decode prog_1_method_15_code 16 = .ok (.iload_n 3, 1) := by decide +kernel
theorem dx_L_bound_17 : decode prog_1_method_15_code 17 = .ok (.if_icmp .gt 9, 3) := by decide +kernel
theorem dx_L_bound_20 : decode prog_1_method_15_code 20 = .ok (.iload_n 3, 1) := by decide +kernel
theorem dx_L_bound_21 : decode prog_1_method_15_code 21 = .ok (.bipush 12, 2) := by decide +kernel
theorem dx_L_bound_23 : decode prog_1_method_15_code 23 = .ok (.if_icmp .le 8, 3) := by decide +kernel
theorem dx_L_bound_26 : decode prog_1_method_15_code 26 = .ok (.aload_n 0, 1) := by decide +kernel
theorem dx_L_bound_27 : decode prog_1_method_15_code 27 = .ok (.invokevirtual 81, 3) := by decide +kernel
theorem dx_L_bound_30 : decode prog_1_method_15_code 30 = .ok (.ireturn, 1) := by decide +kernel
theorem dx_L_bound_31 : decode prog_1_method_15_code 31 = .ok (.aload_n 0, 1) := by decide +kernel
theorem dx_L_bound_32 : decode prog_1_method_15_code 32 = .ok (.getfield 10, 3) := by decide +kernel
theorem dx_L_bound_35 : decode prog_1_method_15_code 35 = .ok (.getfield 205, 3) := by decide +kernel
theorem dx_L_bound_38 : decode prog_1_method_15_code 38 = .ok (.iload_n 1, 1) := by decide +kernel
theorem dx_L_bound_39 : decode prog_1_method_15_code 39 = .ok (.iload_n 2, 1) := by decide +kernel
theorem dx_L_bound_4 : decode prog_1_method_15_code 4 = .ok (.iload_n 1, 1) := by decide +kernel
theorem dx_L_bound_40 : decode prog_1_method_15_code 40 = .ok (.iastore, 1) := by decide +kernel
theorem dx_L_bound_41 : decode prog_1_method_15_code 41 = .ok (.aload_n 0, 1) := by decide +kernel
theorem dx_L_bound_42 : decode prog_1_method_15_code 42 = .ok (.getfield 10, 3) := by decide +kernel
theorem dx_L_bound_45 : decode prog_1_method_15_code 45 = .ok (.getfield 208, 3) := by decide +kernel
theorem dx_L_bound_48 : decode prog_1_method_15_code 48 = .ok (.iload_n 1, 1) := by decide +kernel
theorem dx_L_bound_49 : decode prog_1_method_15_code 49 = .ok (.iload_n 3, 1) := by decide +kernel
theorem dx_L_bound_5 : decode prog_1_method_15_code 5 = .ok (.invokevirtual 135, 3) := by decide +kernel
theorem dx_L_bound_50 : decode prog_1_method_15_code 50 = .ok (.iastore, 1) := by decide +kernel
theorem dx_L_bound_51 : decode prog_1_method_15_code 51 = .ok (.iconst 1, 1) := by decide +kernel
theorem dx_L_bound_52 : decode prog_1_method_15_code 52 = .ok (.ireturn, 1) := by decide +kernel
theorem dx_L_bound_8 : decode prog_1_method_15_code 8 = .ok (.ifCond .eq 18, 3) := by decide +kernel
theorem dx_L_chest_0 : decode prog_1_method_16_code 0 = .ok (.iload_n 1, 1) := by decide +kernel
theorem dx_L_chest_1 : decode prog_1_method_16_code 1 = .ok (.iconst (-1), 1) := by decide +kernel
theorem dx_L_chest_10 : decode prog_1_method_16_code 10 = .ok (.bipush (-10), 2) := by decide +kernel
theorem dx_L_chest_12 : decode prog_1_method_16_code 12 = .ok (.ireturn, 1) := by decide +kernel
theorem dx_L_chest_13 : decode prog_1_method_16_code 13 = .ok (.iload_n 1, 1) := by decide +kernel
theorem dx_L_chest_14 : decode prog_1_method_16_code 14 = .ok (.aload_n 0, 1) := by decide +kernel
theorem dx_L_chest_15 : decode prog_1_method_16_code 15 = .ok (.getfield 10, 3) := by decide +kernel
theorem dx_L_chest_18 : decode prog_1_method_16_code 18 = .ok (.getfield 85, 3) := by decide +kernel
theorem dx_L_chest_2 : decode prog_1_method_16_code 2 = .ok (.if_icmp .ge 11, 3) := by decide +kernel
theorem dx_L_chest_21 : decode prog_1_method_16_code 21 = .ok (.if_icmp .lt 6, 3) := by decide +kernel
theorem dx_L_chest_24 : decode prog_1_method_16_code 24 = .ok (.bipush (-5), 2) := by decide +kernel
theorem dx_L_chest_26 : decode prog_1_method_16_code 26 = .ok (.ireturn, 1) := by decide +kernel
theorem dx_L_chest_27 : decode prog_1_method_16_code 27 = .ok (.aload_n 0, 1) := by decide +kernel
theorem dx_L_chest_28 : decode prog_1_method_16_code 28 = .ok (.getfield 69, 3) := by decide +kernel
theorem dx_L_chest_31 : decode prog_1_method_16_code 31 = .ok (.aload_n 0, 1) := by decide +kernel
theorem dx_L_chest_32 : decode prog_1_method_16_code 32 = .ok (.getfield 10, 3) := by decide +kernel
theorem dx_L_chest_35 : decode prog_1_method_16_code 35 = .ok (.aload_n 0, 1) := by decide +kernel
theorem dx_L_chest_36 : decode prog_1_method_16_code 36 = .ok (.getfield 48, 3) := by decide +kernel
theorem dx_L_chest_39 : decode prog_1_method_16_code 39 = .ok (.invokevirtual 211, 3) := by decide +kernel
theorem dx_L_chest_42 : decode prog_1_method_16_code 42 = .ok (.istore_n 2, 1) := by decide +kernel
theorem dx_L_chest_43 : decode prog_1_method_16_code 43 = .ok (.iload_n 1, 1) := by decide +kernel
theorem dx_L_chest_44 : decode prog_1_method_16_code 44 = .ok (.iconst (-1), 1) := by decide +kernel
theorem dx_L_chest_45 : decode prog_1_method_16_code 45 = .ok (.if_icmp .ne 5, 3) := by decide +kernel
theorem dx_L_chest_48 : decode prog_1_method_16_code 48 = .ok (.iload_n 2, 1) := by decide +kernel
theorem dx_L_chest_49 : decode prog_1_method_16_code 49 = .ok (.ireturn, 1) := by decide +kernel
theorem dx_L_chest_5 : decode prog_1_method_16_code 5 = .ok (.aload_n 0, 1) := by decide +kernel
theorem dx_L_chest_50 : decode prog_1_method_16_code 50 = .ok (.iload_n 2, 1) := by decide +kernel
theorem dx_L_chest_51 : decode prog_1_method_16_code 51 = .ok (.ifCond .ne 8, 3) := by decide +kernel
theorem dx_L_chest_54 : decode prog_1_method_16_code 54 = .ok (.bipush (-5), 2) := by decide +kernel
theorem dx_L_chest_56 : decode prog_1_method_16_code 56 = .ok (.goto 12, 3) := by decide +kernel
theorem dx_L_chest_59 : decode prog_1_method_16_code 59 = .ok (.aload_n 0, 1) := by decide +kernel
theorem dx_L_chest_6 : decode prog_1_method_16_code 6 = .ok (.invokevirtual 81, 3) := by decide +kernel
theorem dx_L_chest_60 : decode prog_1_method_16_code 60 = .ok (.getfield 69, 3) := by decide +kernel
theorem dx_L_chest_63 : decode prog_1_method_16_code 63 = .ok (.getfield 214, 3) := by decide +kernel
theorem dx_L_chest_66 : decode prog_1_method_16_code 66 = .ok (.iload_n 1, 1) := by decide +kernel
theorem dx_L_chest_67 : decode prog_1_method_16_code 67 = .ok (.iaload, 1) := by decide +kernel
theorem dx_L_chest_68 : decode prog_1_method_16_code 68 = .ok (.ireturn, 1) := by decide +kernel
theorem dx_L_chest_9 : decode prog_1_method_16_code 9 = .ok (.pop, 1) := by decide +kernel
theorem dx_L_clear_0 : decode prog_1_method_7_code 0 = .ok (.aload_n 0, 1) := by decide +kernel
theorem dx_L_clear_1 : decode prog_1_method_7_code 1 = .ok (.getfield 27, 3) := by decide +kernel
theorem dx_L_clear_12 : decode prog_1_method_7_code 12 = .ok (.iconst 0, 1) := by decide +kernel
theorem dx_L_clear_13 : decode prog_1_method_7_code 13 = .ok (.putfield 121, 3) := by decide +kernel
theorem dx_L_clear_16 : decode prog_1_method_7_code 16 = .ok (.iload_n 1, 1) := by decide +kernel
theorem dx_L_clear_17 : decode prog_1_method_7_code 17 = .ok (.ireturn, 1) := by decide +kernel
theorem dx_L_clear_4 : decode prog_1_method_7_code 4 = .ok (.getfield 121, 3) := by decide +kernel
theorem dx_L_clear_7 : decode prog_1_method_7_code 7 = .ok (.istore_n 1, 1) := by decide +kernel
theorem dx_L_clear_8 : decode prog_1_method_7_code 8 = .ok (.aload_n 0, 1) := by decide +kernel
theorem dx_L_clear_9 : decode prog_1_method_7_code 9 = .ok (.getfield 27, 3) := by decide +kernel
theorem dx_L_cloth_0 : decode prog_1_method_2_code 0 = .ok (.iload_n 1, 1) := by decide +kernel
theorem dx_L_cloth_1 : decode prog_1_method_2_code 1 = .ok (.iconst 4, 1) := by decide +kernel
theorem dx_L_cloth_10 : decode prog_1_method_2_code 10 = .ok (.invokestatic 77, 3) := by decide +kernel
theorem dx_L_cloth_13 : decode prog_1_method_2_code 13 = .ok (.ifCond .eq 12, 3) := by decide +kernel
theorem dx_L_cloth_16 : decode prog_1_method_2_code 16 = .ok (.iload_n 3, 1) := by decide +kernel
theorem dx_L_cloth_17 : decode prog_1_method_2_code 17 = .ok (.bipush 12, 2) := by decide +kernel
theorem dx_L_cloth_19 : decode prog_1_method_2_code 19 = .ok (.invokestatic 77, 3) := by decide +kernel
theorem dx_L_cloth_2 : decode prog_1_method_2_code 2 = .ok (.invokestatic 77, 3) := by decide +kernel
theorem dx_L_cloth_22 : decode prog_1_method_2_code 22 = .ok (.ifCond .ne 8, 3) := by decide +kernel
theorem dx_L_cloth_25 : decode prog_1_method_2_code 25 = .ok (.aload_n 0, 1) := by decide +kernel
theorem dx_L_cloth_26 : decode prog_1_method_2_code 26 = .ok (.invokevirtual 81, 3) := by decide +kernel
theorem dx_L_cloth_29 : decode prog_1_method_2_code 29 = .ok (.ireturn, 1) := by decide +kernel
theorem dx_L_cloth_30 : decode prog_1_method_2_code 30 = .ok (.aload_n 0, 1) := by decide +kernel
theorem dx_L_cloth_31 : decode prog_1_method_2_code 31 = .ok (.getfield 10, 3) := by decide +kernel
theorem dx_L_cloth_34 : decode prog_1_method_2_code 34 = .ok (.getfield 85, 3) := by decide +kernel
theorem dx_L_cloth_37 : decode prog_1_method_2_code 37 = .ok (.iconst 4, 1) := by decide +kernel
theorem dx_L_cloth_38 : decode prog_1_method_2_code 38 = .ok (.if_icmp .lt 8, 3) := by decide +kernel
theorem dx_L_cloth_41 : decode prog_1_method_2_code 41 = .ok (.aload_n 0, 1) := by decide +kernel
theorem dx_L_cloth_42 : decode prog_1_method_2_code 42 = .ok (.invokevirtual 89, 3) := by decide +kernel
theorem dx_L_cloth_45 : decode prog_1_method_2_code 45 = .ok (.ireturn, 1) := by decide +kernel
theorem dx_L_cloth_46 : decode prog_1_method_2_code 46 = .ok (.aload_n 0, 1) := by decide +kernel
theorem dx_L_cloth_47 : decode prog_1_method_2_code 47 = .ok (.getfield 10, 3) := by decide +kernel
theorem dx_L_cloth_5 : decode prog_1_method_2_code 5 = .ok (.ifCond .eq 20, 3) := by decide +kernel
theorem dx_L_cloth_50 : decode prog_1_method_2_code 50 = .ok (.iload_n 1, 1) := by decide +kernel
theorem dx_L_cloth_51 : decode prog_1_method_2_code 51 = .ok (.iload_n 2, 1) := by decide +kernel
theorem dx_L_cloth_52 : decode prog_1_method_2_code 52 = .ok (.iload_n 3, 1) := by decide +kernel
theorem dx_L_cloth_53 : decode prog_1_method_2_code 53 = .ok (.invokevirtual 92, 3) := by decide +kernel
theorem dx_L_cloth_56 : decode prog_1_method_2_code 56 = .ok (.aload_n 0, 1) := by decide +kernel
theorem dx_L_cloth_57 : decode prog_1_method_2_code 57 = .ok (.getfield 10, 3) := by decide +kernel
theorem dx_L_cloth_60 : decode prog_1_method_2_code 60 = .ok (.getfield 85, 3) := by decide +kernel
theorem dx_L_cloth_63 : decode prog_1_method_2_code 63 = .ok (.iconst 1, 1) := by decide +kernel
theorem dx_L_cloth_64 : decode prog_1_method_2_code 64 = .ok (.isub, 1) := by decide +kernel
theorem dx_L_cloth_65 : decode prog_1_method_2_code 65 = .ok (.ireturn, 1) := by decide +kernel
theorem dx_L_cloth_8 : decode prog_1_method_2_code 8 = .ok (.iload_n 2, 1) := by decide +kernel
theorem dx_L_cloth_9 : decode prog_1_method_2_code 9 = .ok (.iconst 3, 1) := by decide +kernel
theorem dx_L_colour_0 : decode prog_1_method_5_code 0 = .ok (.aload_n 0, 1) := by decide +kernel
theorem dx_L_colour_1 : decode prog_1_method_5_code 1 = .ok (.getfield 10, 3) := by decide +kernel
theorem dx_L_colour_11 : decode prog_1_method_5_code 11 = .ok (.iload_n 2, 1) := by decide +kernel
theorem dx_L_colour_12 : decode prog_1_method_5_code 12 = .ok (.bipush 12, 2) := by decide +kernel
theorem dx_L_colour_14 : decode prog_1_method_5_code 14 = .ok (.invokestatic 77, 3) := by decide +kernel
theorem dx_L_colour_17 : decode prog_1_method_5_code 17 = .ok (.ifCond .ne 8, 3) := by decide +kernel
theorem dx_L_colour_20 : decode prog_1_method_5_code 20 = .ok (.aload_n 0, 1) := by decide +kernel
theorem dx_L_colour_21 : decode prog_1_method_5_code 21 = .ok (.invokevirtual 81, 3) := by decide +kernel
theorem dx_L_colour_24 : decode prog_1_method_5_code 24 = .ok (.ireturn, 1) := by decide +kernel
theorem dx_L_colour_25 : decode prog_1_method_5_code 25 = .ok (.aload_n 0, 1) := by decide +kernel
theorem dx_L_colour_26 : decode prog_1_method_5_code 26 = .ok (.getfield 10, 3) := by decide +kernel
theorem dx_L_colour_29 : decode prog_1_method_5_code 29 = .ok (.getfield 118, 3) := by decide +kernel
theorem dx_L_colour_32 : decode prog_1_method_5_code 32 = .ok (.iload_n 1, 1) := by decide +kernel
theorem dx_L_colour_33 : decode prog_1_method_5_code 33 = .ok (.iaload, 1) := by decide +kernel
theorem dx_L_colour_34 : decode prog_1_method_5_code 34 = .ok (.istore_n 3, 1) := by decide +kernel
theorem dx_L_colour_35 : decode prog_1_method_5_code 35 = .ok (.aload_n 0, 1) := by decide +kernel
theorem dx_L_colour_36 : decode prog_1_method_5_code 36 = .ok (.getfield 10, 3) := by decide +kernel
theorem dx_L_colour_39 : decode prog_1_method_5_code 39 = .ok (.getfield 118, 3) := by decide +kernel
theorem dx_L_colour_4 : decode prog_1_method_5_code 4 = .ok (.iload_n 1, 1) := by decide +kernel
theorem dx_L_colour_42 : decode prog_1_method_5_code 42 = .ok (.iload_n 1, 1) := by decide +kernel
theorem dx_L_colour_43 : decode prog_1_method_5_code 43 = .ok (.iload_n 2, 1) := by decide +kernel
theorem dx_L_colour_44 : decode prog_1_method_5_code 44 = .ok (.iastore, 1) := by decide +kernel
theorem dx_L_colour_45 : decode prog_1_method_5_code 45 = .ok (.iload_n 3, 1) := by decide +kernel
theorem dx_L_colour_46 : decode prog_1_method_5_code 46 = .ok (.ireturn, 1) := by decide +kernel
theorem dx_L_colour_5 : decode prog_1_method_5_code 5 = .ok (.invokevirtual 115, 3) := by decide +kernel
theorem dx_L_colour_8 : decode prog_1_method_5_code 8 = .ok (.ifCond .eq 12, 3) := by decide +kernel
theorem dx_L_colours_0 : decode prog_1_method_22_code 0 = .ok (.iconst 0, 1) := by decide +kernel
theorem dx_L_colours_1 : decode prog_1_method_22_code 1 = .ok (.istore_n 1, 1) := by decide +kernel
theorem dx_L_colours_12 : decode prog_1_method_22_code 12 = .ok (.if_icmp .ge 25, 3) := by decide +kernel
theorem dx_L_colours_15 : decode prog_1_method_22_code 15 = .ok (.iload_n 1, 1) := by decide +kernel
theorem dx_L_colours_16 : decode prog_1_method_22_code 16 = .ok (.aload_n 0, 1) := by decide +kernel
theorem dx_L_colours_17 : decode prog_1_method_22_code 17 = .ok (.iload_n 2, 1) := by decide +kernel
theorem dx_L_colours_18 : decode prog_1_method_22_code 18 = .ok (.invokevirtual 243, 3) := by decide +kernel
theorem dx_L_colours_2 : decode prog_1_method_22_code 2 = .ok (.iconst 0, 1) := by decide +kernel
theorem dx_L_colours_21 : decode prog_1_method_22_code 21 = .ok (.ifCond .eq 7, 3) := by decide +kernel
theorem dx_L_colours_24 : decode prog_1_method_22_code 24 = .ok (.iconst 1, 1) := by decide +kernel
theorem dx_L_colours_25 : decode prog_1_method_22_code 25 = .ok (.goto 4, 3) := by decide +kernel
theorem dx_L_colours_28 : decode prog_1_method_22_code 28 = .ok (.iconst 0, 1) := by decide +kernel
theorem dx_L_colours_29 : decode prog_1_method_22_code 29 = .ok (.iadd, 1) := by decide +kernel
theorem dx_L_colours_3 : decode prog_1_method_22_code 3 = .ok (.istore_n 2, 1) := by decide +kernel
theorem dx_L_colours_30 : decode prog_1_method_22_code 30 = .ok (.istore_n 1, 1) := by decide +kernel
theorem dx_L_colours_31 : decode prog_1_method_22_code 31 = .ok (.iinc 2 1, 3) := by decide +kernel
theorem dx_L_colours_34 : decode prog_1_method_22_code 34 = .ok (.goto (-30), 3) := by decide +kernel
theorem dx_L_colours_37 : decode prog_1_method_22_code 37 = .ok (.iconst 0, 1) := by decide +kernel
theorem dx_L_colours_38 : decode prog_1_method_22_code 38 = .ok (.istore_n 2, 1) := by decide +kernel
theorem dx_L_colours_39 : decode prog_1_method_22_code 39 = .ok (.iload_n 2, 1) := by decide +kernel
theorem dx_L_colours_4 : decode prog_1_method_22_code 4 = .ok (.iload_n 2, 1) := by decide +kernel
theorem dx_L_colours_40 : decode prog_1_method_22_code 40 = .ok (.aload_n 0, 1) := by decide +kernel
theorem dx_L_colours_41 : decode prog_1_method_22_code 41 = .ok (.getfield 10, 3) := by decide +kernel
theorem dx_L_colours_44 : decode prog_1_method_22_code 44 = .ok (.getfield 96, 3) := by decide +kernel
theorem dx_L_colours_47 : decode prog_1_method_22_code 47 = .ok (.if_icmp .ge 25, 3) := by decide +kernel
theorem dx_L_colours_5 : decode prog_1_method_22_code 5 = .ok (.aload_n 0, 1) := by decide +kernel
theorem dx_L_colours_50 : decode prog_1_method_22_code 50 = .ok (.iload_n 1, 1) := by decide +kernel
theorem dx_L_colours_51 : decode prog_1_method_22_code 51 = .ok (.aload_n 0, 1) := by decide +kernel
theorem dx_L_colours_52 : decode prog_1_method_22_code 52 = .ok (.iload_n 2, 1) := by decide +kernel
theorem dx_L_colours_53 : decode prog_1_method_22_code 53 = .ok (.invokevirtual 246, 3) := by decide +kernel
theorem dx_L_colours_56 : decode prog_1_method_22_code 56 = .ok (.ifCond .eq 7, 3) := by decide +kernel
theorem dx_L_colours_59 : decode prog_1_method_22_code 59 = .ok (.iconst 1, 1) := by decide +kernel
theorem dx_L_colours_6 : decode prog_1_method_22_code 6 = .ok (.getfield 10, 3) := by decide +kernel
theorem dx_L_colours_60 : decode prog_1_method_22_code 60 = .ok (.goto 4, 3) := by decide +kernel
theorem dx_L_colours_63 : decode prog_1_method_22_code 63 = .ok (.iconst 0, 1) := by decide +kernel
theorem dx_L_colours_64 : decode prog_1_method_22_code 64 = .ok (.iadd, 1) := by decide +kernel
theorem dx_L_colours_65 : decode prog_1_method_22_code 65 = .ok (.istore_n 1, 1) := by decide +kernel
theorem dx_L_colours_66 : decode prog_1_method_22_code 66 = .ok (.iinc 2 1, 3) := by decide +kernel
theorem dx_L_colours_69 : decode prog_1_method_22_code 69 = .ok (.goto (-30), 3) := by decide +kernel
theorem dx_L_colours_72 : decode prog_1_method_22_code 72 = .ok (.iload_n 1, 1) := by decide +kernel
theorem dx_L_colours_73 : decode prog_1_method_22_code 73 = .ok (.ireturn, 1) := by decide +kernel
theorem dx_L_colours_9 : decode prog_1_method_22_code 9 = .ok (.getfield 85, 3) := by decide +kernel
theorem dx_L_contentBorrowers_0 : decode prog_1_method_37_code 0 = .ok (.aload_n 0, 1) := by decide +kernel
theorem dx_L_contentBorrowers_1 : decode prog_1_method_37_code 1 = .ok (.getfield 48, 3) := by decide +kernel
theorem dx_L_contentBorrowers_102 : decode prog_1_method_37_code 102 = .ok (.iload_n 3, 1) := by decide +kernel
theorem dx_L_contentBorrowers_103 : decode prog_1_method_37_code 103 = .ok (.aload 5, 2) := by decide +kernel
theorem dx_L_contentBorrowers_105 : decode prog_1_method_37_code 105 = .ok (.iconst 2, 1) := by decide +kernel
theorem dx_L_contentBorrowers_106 : decode prog_1_method_37_code 106 = .ok (.iaload, 1) := by decide +kernel
theorem dx_L_contentBorrowers_107 : decode prog_1_method_37_code 107 = .ok (.if_icmp .gt 7, 3) := by decide +kernel
theorem dx_L_contentBorrowers_110 : decode prog_1_method_37_code 110 = .ok (.iconst 1, 1) := by decide +kernel
theorem dx_L_contentBorrowers_111 : decode prog_1_method_37_code 111 = .ok (.goto 4, 3) := by decide +kernel
theorem dx_L_contentBorrowers_114 : decode prog_1_method_37_code 114 = .ok (.iconst 0, 1) := by decide +kernel
theorem dx_L_contentBorrowers_115 : decode prog_1_method_37_code 115 = .ok (.istore 6, 2) := by decide +kernel
theorem dx_L_contentBorrowers_117 : decode prog_1_method_37_code 117 = .ok (.iload 6, 2) := by decide +kernel
theorem dx_L_contentBorrowers_119 : decode prog_1_method_37_code 119 = .ok (.ifCond .eq 22, 3) := by decide +kernel
theorem dx_L_contentBorrowers_12 : decode prog_1_method_37_code 12 = .ok (.getfield 107, 3) := by decide +kernel
theorem dx_L_contentBorrowers_122 : decode prog_1_method_37_code 122 = .ok (.aload_n 0, 1) := by decide +kernel
theorem dx_L_contentBorrowers_123 : decode prog_1_method_37_code 123 = .ok (.aload_n 2, 1) := by decide +kernel
theorem dx_L_contentBorrowers_124 : decode prog_1_method_37_code 124 = .ok (.aload 5, 2) := by decide +kernel
theorem dx_L_contentBorrowers_126 : decode prog_1_method_37_code 126 = .ok (.invokevirtual 293, 3) := by decide +kernel
theorem dx_L_contentBorrowers_129 : decode prog_1_method_37_code 129 = .ok (.ifCond .ne 12, 3) := by decide +kernel
theorem dx_L_contentBorrowers_132 : decode prog_1_method_37_code 132 = .ok (.iload_n 1, 1) := by decide +kernel
theorem dx_L_contentBorrowers_133 : decode prog_1_method_37_code 133 = .ok (.iconst 1, 1) := by decide +kernel
theorem dx_L_contentBorrowers_134 : decode prog_1_method_37_code 134 = .ok (.iload 4, 2) := by decide +kernel
theorem dx_L_contentBorrowers_136 : decode prog_1_method_37_code 136 = .ok (.ishl, 1) := by decide +kernel
theorem dx_L_contentBorrowers_137 : decode prog_1_method_37_code 137 = .ok (.iconst (-1), 1) := by decide +kernel
theorem dx_L_contentBorrowers_138 : decode prog_1_method_37_code 138 = .ok (.ixor, 1) := by decide +kernel
theorem dx_L_contentBorrowers_139 : decode prog_1_method_37_code 139 = .ok (.iand, 1) := by decide +kernel
theorem dx_L_contentBorrowers_140 : decode prog_1_method_37_code 140 = .ok (.istore_n 1, 1) := by decide +kernel
theorem dx_L_contentBorrowers_141 : decode prog_1_method_37_code 141 = .ok (.iinc 4 1, 3) := by decide +kernel
theorem dx_L_contentBorrowers_144 : decode prog_1_method_37_code 144 = .ok (.goto (-74), 3) := by decide +kernel
theorem dx_L_contentBorrowers_147 : decode prog_1_method_37_code 147 = .ok (.iinc 3 1, 3) := by decide +kernel
theorem dx_L_contentBorrowers_15 : decode prog_1_method_37_code 15 = .ok (.aload_n 0, 1) := by decide +kernel
theorem dx_L_contentBorrowers_150 : decode prog_1_method_37_code 150 = .ok (.goto (-103), 3) := by decide +kernel
theorem dx_L_contentBorrowers_153 : decode prog_1_method_37_code 153 = .ok (.iload_n 1, 1) := by decide +kernel
theorem dx_L_contentBorrowers_154 : decode prog_1_method_37_code 154 = .ok (.ireturn, 1) := by decide +kernel
theorem dx_L_contentBorrowers_16 : decode prog_1_method_37_code 16 = .ok (.getfield 10, 3) := by decide +kernel
theorem dx_L_contentBorrowers_19 : decode prog_1_method_37_code 19 = .ok (.getfield 118, 3) := by decide +kernel
theorem dx_L_contentBorrowers_22 : decode prog_1_method_37_code 22 = .ok (.invokevirtual 138, 3) := by decide +kernel
theorem dx_L_contentBorrowers_25 : decode prog_1_method_37_code 25 = .ok (.iconst 1, 1) := by decide +kernel
theorem dx_L_contentBorrowers_26 : decode prog_1_method_37_code 26 = .ok (.aload_n 0, 1) := by decide +kernel
theorem dx_L_contentBorrowers_27 : decode prog_1_method_37_code 27 = .ok (.getfield 10, 3) := by decide +kernel
theorem dx_L_contentBorrowers_30 : decode prog_1_method_37_code 30 = .ok (.getfield 226, 3) := by decide +kernel
theorem dx_L_contentBorrowers_33 : decode prog_1_method_37_code 33 = .ok (.ishl, 1) := by decide +kernel
theorem dx_L_contentBorrowers_34 : decode prog_1_method_37_code 34 = .ok (.iconst 1, 1) := by decide +kernel
theorem dx_L_contentBorrowers_35 : decode prog_1_method_37_code 35 = .ok (.isub, 1) := by decide +kernel
theorem dx_L_contentBorrowers_36 : decode prog_1_method_37_code 36 = .ok (.istore_n 1, 1) := by decide +kernel
theorem dx_L_contentBorrowers_37 : decode prog_1_method_37_code 37 = .ok (.aload_n 0, 1) := by decide +kernel
theorem dx_L_contentBorrowers_38 : decode prog_1_method_37_code 38 = .ok (.getfield 10, 3) := by decide +kernel
theorem dx_L_contentBorrowers_4 : decode prog_1_method_37_code 4 = .ok (.aload_n 0, 1) := by decide +kernel
theorem dx_L_contentBorrowers_41 : decode prog_1_method_37_code 41 = .ok (.getfield 142, 3) := by decide +kernel
theorem dx_L_contentBorrowers_44 : decode prog_1_method_37_code 44 = .ok (.astore_n 2, 1) := by decide +kernel
theorem dx_L_contentBorrowers_45 : decode prog_1_method_37_code 45 = .ok (.iconst 0, 1) := by decide +kernel
theorem dx_L_contentBorrowers_46 : decode prog_1_method_37_code 46 = .ok (.istore_n 3, 1) := by decide +kernel
theorem dx_L_contentBorrowers_47 : decode prog_1_method_37_code 47 = .ok (.iload_n 3, 1) := by decide +kernel
theorem dx_L_contentBorrowers_48 : decode prog_1_method_37_code 48 = .ok (.bipush 12, 2) := by decide +kernel
theorem dx_L_contentBorrowers_5 : decode prog_1_method_37_code 5 = .ok (.getfield 10, 3) := by decide +kernel
theorem dx_L_contentBorrowers_50 : decode prog_1_method_37_code 50 = .ok (.if_icmp .gt 103, 3) := by decide +kernel
theorem dx_L_contentBorrowers_53 : decode prog_1_method_37_code 53 = .ok (.iload_n 3, 1) := by decide +kernel
theorem dx_L_contentBorrowers_54 : decode prog_1_method_37_code 54 = .ok (.ifCond .le 13, 3) := by decide +kernel
theorem dx_L_contentBorrowers_57 : decode prog_1_method_37_code 57 = .ok (.aload_n 0, 1) := by decide +kernel
theorem dx_L_contentBorrowers_58 : decode prog_1_method_37_code 58 = .ok (.getfield 48, 3) := by decide +kernel
theorem dx_L_contentBorrowers_61 : decode prog_1_method_37_code 61 = .ok (.aload_n 2, 1) := by decide +kernel
theorem dx_L_contentBorrowers_62 : decode prog_1_method_37_code 62 = .ok (.iconst 1, 1) := by decide +kernel
theorem dx_L_contentBorrowers_63 : decode prog_1_method_37_code 63 = .ok (.invokevirtual 146, 3) := by decide +kernel
theorem dx_L_contentBorrowers_66 : decode prog_1_method_37_code 66 = .ok (.astore_n 2, 1) := by decide +kernel
theorem dx_L_contentBorrowers_67 : decode prog_1_method_37_code 67 = .ok (.iconst 0, 1) := by decide +kernel
theorem dx_L_contentBorrowers_68 : decode prog_1_method_37_code 68 = .ok (.istore 4, 2) := by decide +kernel
theorem dx_L_contentBorrowers_70 : decode prog_1_method_37_code 70 = .ok (.iload 4, 2) := by decide +kernel
theorem dx_L_contentBorrowers_72 : decode prog_1_method_37_code 72 = .ok (.aload_n 0, 1) := by decide +kernel
theorem dx_L_contentBorrowers_73 : decode prog_1_method_37_code 73 = .ok (.getfield 10, 3) := by decide +kernel
theorem dx_L_contentBorrowers_76 : decode prog_1_method_37_code 76 = .ok (.getfield 226, 3) := by decide +kernel
theorem dx_L_contentBorrowers_79 : decode prog_1_method_37_code 79 = .ok (.if_icmp .ge 68, 3) := by decide +kernel
theorem dx_L_contentBorrowers_8 : decode prog_1_method_37_code 8 = .ok (.aload_n 0, 1) := by decide +kernel
theorem dx_L_contentBorrowers_82 : decode prog_1_method_37_code 82 = .ok (.aload_n 0, 1) := by decide +kernel
theorem dx_L_contentBorrowers_83 : decode prog_1_method_37_code 83 = .ok (.getfield 10, 3) := by decide +kernel
theorem dx_L_contentBorrowers_86 : decode prog_1_method_37_code 86 = .ok (.getfield 290, 3) := by decide +kernel
theorem dx_L_contentBorrowers_89 : decode prog_1_method_37_code 89 = .ok (.iload 4, 2) := by decide +kernel
theorem dx_L_contentBorrowers_9 : decode prog_1_method_37_code 9 = .ok (.getfield 10, 3) := by decide +kernel
theorem dx_L_contentBorrowers_91 : decode prog_1_method_37_code 91 = .ok (.aaload, 1) := by decide +kernel
theorem dx_L_contentBorrowers_92 : decode prog_1_method_37_code 92 = .ok (.astore 5, 2) := by decide +kernel
theorem dx_L_contentBorrowers_94 : decode prog_1_method_37_code 94 = .ok (.aload 5, 2) := by decide +kernel
theorem dx_L_contentBorrowers_96 : decode prog_1_method_37_code 96 = .ok (.iconst 1, 1) := by decide +kernel
theorem dx_L_contentBorrowers_97 : decode prog_1_method_37_code 97 = .ok (.iaload, 1) := by decide +kernel
theorem dx_L_contentBorrowers_98 : decode prog_1_method_37_code 98 = .ok (.iload_n 3, 1) := by decide +kernel
theorem dx_L_contentBorrowers_99 : decode prog_1_method_37_code 99 = .ok (.if_icmp .gt 15, 3) := by decide +kernel
theorem dx_L_count_0 : decode prog_1_method_29_code 0 = .ok (.iload_n 1, 1) := by decide +kernel
theorem dx_L_count_1 : decode prog_1_method_29_code 1 = .ok (.iconst 5, 1) := by decide +kernel
theorem dx_L_count_10 : decode prog_1_method_29_code 10 = .ok (.invokevirtual 269, 3) := by decide +kernel
theorem dx_L_count_13 : decode prog_1_method_29_code 13 = .ok (.goto 7, 3) := by decide +kernel
theorem dx_L_count_16 : decode prog_1_method_29_code 16 = .ok (.aload_n 0, 1) := by decide +kernel
theorem dx_L_count_17 : decode prog_1_method_29_code 17 = .ok (.invokevirtual 81, 3) := by decide +kernel
theorem dx_L_count_2 : decode prog_1_method_29_code 2 = .ok (.invokestatic 77, 3) := by decide +kernel
theorem dx_L_count_20 : decode prog_1_method_29_code 20 = .ok (.ireturn, 1) := by decide +kernel
theorem dx_L_count_5 : decode prog_1_method_29_code 5 = .ok (.ifCond .eq 11, 3) := by decide +kernel
theorem dx_L_count_8 : decode prog_1_method_29_code 8 = .ok (.aload_n 0, 1) := by decide +kernel
theorem dx_L_count_9 : decode prog_1_method_29_code 9 = .ok (.iload_n 1, 1) := by decide +kernel
theorem dx_L_digest_0 : decode prog_1_method_30_code 0 = .ok (.ldc2_w 272, 3) := by decide +kernel
theorem dx_L_digest_11 : decode prog_1_method_30_code 11 = .ok (.ldc2_w 274, 3) := by decide +kernel
theorem dx_L_digest_14 : decode prog_1_method_30_code 14 = .ok (.lload_n 1, 1) := by decide +kernel
theorem dx_L_digest_15 : decode prog_1_method_30_code 15 = .ok (.lmul, 1) := by decide +kernel
theorem dx_L_digest_16 : decode prog_1_method_30_code 16 = .ok (.aload_n 0, 1) := by decide +kernel
theorem dx_L_digest_17 : decode prog_1_method_30_code 17 = .ok (.iload_n 3, 1) := by decide +kernel
theorem dx_L_digest_18 : decode prog_1_method_30_code 18 = .ok (.invokevirtual 269, 3) := by decide +kernel
theorem dx_L_digest_21 : decode prog_1_method_30_code 21 = .ok (.i2l, 1) := by decide +kernel
theorem dx_L_digest_22 : decode prog_1_method_30_code 22 = .ok (.ladd, 1) := by decide +kernel
theorem dx_L_digest_23 : decode prog_1_method_30_code 23 = .ok (.lstore_n 1, 1) := by decide +kernel
theorem dx_L_digest_24 : decode prog_1_method_30_code 24 = .ok (.iinc 3 1, 3) := by decide +kernel
theorem dx_L_digest_27 : decode prog_1_method_30_code 27 = .ok (.goto (-21), 3) := by decide +kernel
theorem dx_L_digest_3 : decode prog_1_method_30_code 3 = .ok (.lstore_n 1, 1) := by decide +kernel
theorem dx_L_digest_30 : decode prog_1_method_30_code 30 = .ok (.aload_n 0, 1) := by decide +kernel
theorem dx_L_digest_31 : decode prog_1_method_30_code 31 = .ok (.getfield 34, 3) := by decide +kernel
theorem dx_L_digest_34 : decode prog_1_method_30_code 34 = .ok (.aload_n 0, 1) := by decide +kernel
theorem dx_L_digest_35 : decode prog_1_method_30_code 35 = .ok (.getfield 10, 3) := by decide +kernel
theorem dx_L_digest_38 : decode prog_1_method_30_code 38 = .ok (.lload_n 1, 1) := by decide +kernel
theorem dx_L_digest_39 : decode prog_1_method_30_code 39 = .ok (.invokevirtual 276, 3) := by decide +kernel
theorem dx_L_digest_4 : decode prog_1_method_30_code 4 = .ok (.iconst 0, 1) := by decide +kernel
theorem dx_L_digest_42 : decode prog_1_method_30_code 42 = .ok (.invokevirtual 280, 3) := by decide +kernel
theorem dx_L_digest_45 : decode prog_1_method_30_code 45 = .ok (.lreturn, 1) := by decide +kernel
theorem dx_L_digest_5 : decode prog_1_method_30_code 5 = .ok (.istore_n 3, 1) := by decide +kernel
theorem dx_L_digest_6 : decode prog_1_method_30_code 6 = .ok (.iload_n 3, 1) := by decide +kernel
theorem dx_L_digest_7 : decode prog_1_method_30_code 7 = .ok (.iconst 5, 1) := by decide +kernel
theorem dx_L_digest_8 : decode prog_1_method_30_code 8 = .ok (.if_icmp .gt 22, 3) := by decide +kernel
theorem dx_L_from_0 : decode prog_1_method_27_code 0 = .ok (.iload_n 1, 1) := by decide +kernel
theorem dx_L_from_1 : decode prog_1_method_27_code 1 = .ok (.iconst 1, 1) := by decide +kernel
theorem dx_L_from_12 : decode prog_1_method_27_code 12 = .ok (.ireturn, 1) := by decide +kernel
theorem dx_L_from_13 : decode prog_1_method_27_code 13 = .ok (.aload_n 0, 1) := by decide +kernel
theorem dx_L_from_14 : decode prog_1_method_27_code 14 = .ok (.getfield 20, 3) := by decide +kernel
theorem dx_L_from_17 : decode prog_1_method_27_code 17 = .ok (.iload_n 1, 1) := by decide +kernel
theorem dx_L_from_18 : decode prog_1_method_27_code 18 = .ok (.baload, 1) := by decide +kernel
theorem dx_L_from_19 : decode prog_1_method_27_code 19 = .ok (.ifCond .ne 8, 3) := by decide +kernel
theorem dx_L_from_2 : decode prog_1_method_27_code 2 = .ok (.invokestatic 77, 3) := by decide +kernel
theorem dx_L_from_22 : decode prog_1_method_27_code 22 = .ok (.aload_n 0, 1) := by decide +kernel
theorem dx_L_from_23 : decode prog_1_method_27_code 23 = .ok (.invokevirtual 164, 3) := by decide +kernel
theorem dx_L_from_26 : decode prog_1_method_27_code 26 = .ok (.ireturn, 1) := by decide +kernel
theorem dx_L_from_27 : decode prog_1_method_27_code 27 = .ok (.aload_n 0, 1) := by decide +kernel
theorem dx_L_from_28 : decode prog_1_method_27_code 28 = .ok (.getfield 10, 3) := by decide +kernel
theorem dx_L_from_31 : decode prog_1_method_27_code 31 = .ok (.aload_n 0, 1) := by decide +kernel
theorem dx_L_from_32 : decode prog_1_method_27_code 32 = .ok (.getfield 16, 3) := by decide +kernel
theorem dx_L_from_35 : decode prog_1_method_27_code 35 = .ok (.iload_n 1, 1) := by decide +kernel
theorem dx_L_from_36 : decode prog_1_method_27_code 36 = .ok (.aaload, 1) := by decide +kernel
theorem dx_L_from_37 : decode prog_1_method_27_code 37 = .ok (.invokevirtual 256, 3) := by decide +kernel
theorem dx_L_from_40 : decode prog_1_method_27_code 40 = .ok (.iconst 1, 1) := by decide +kernel
theorem dx_L_from_41 : decode prog_1_method_27_code 41 = .ok (.ireturn, 1) := by decide +kernel
theorem dx_L_from_5 : decode prog_1_method_27_code 5 = .ok (.ifCond .ne 8, 3) := by decide +kernel
theorem dx_L_from_8 : decode prog_1_method_27_code 8 = .ok (.aload_n 0, 1) := by decide +kernel
theorem dx_L_from_9 : decode prog_1_method_27_code 9 = .ok (.invokevirtual 81, 3) := by decide +kernel
theorem dx_L_gives_0 : decode prog_1_method_36_code 0 = .ok (.aload_n 0, 1) := by decide +kernel
theorem dx_L_gives_1 : decode prog_1_method_36_code 1 = .ok (.getfield 41, 3) := by decide +kernel
theorem dx_L_gives_10 : decode prog_1_method_36_code 10 = .ok (.iload 4, 2) := by decide +kernel
theorem dx_L_gives_100 : decode prog_1_method_36_code 100 = .ok (.lastore, 1) := by decide +kernel
theorem dx_L_gives_101 : decode prog_1_method_36_code 101 = .ok (.iinc 4 1, 3) := by decide +kernel
theorem dx_L_gives_104 : decode prog_1_method_36_code 104 = .ok (.goto (-52), 3) := by decide +kernel
theorem dx_L_gives_107 : decode prog_1_method_36_code 107 = .ok (.aload_n 0, 1) := by decide +kernel
theorem dx_L_gives_108 : decode prog_1_method_36_code 108 = .ok (.getfield 41, 3) := by decide +kernel
theorem dx_L_gives_111 : decode prog_1_method_36_code 111 = .ok (.getfield 153, 3) := by decide +kernel
theorem dx_L_gives_114 : decode prog_1_method_36_code 114 = .ok (.iconst 4, 1) := by decide +kernel
theorem dx_L_gives_115 : decode prog_1_method_36_code 115 = .ok (.dup2, 1) := by decide +kernel
theorem dx_L_gives_116 : decode prog_1_method_36_code 116 = .ok (.laload, 1) := by decide +kernel
theorem dx_L_gives_117 : decode prog_1_method_36_code 117 = .ok (.ldc2_w 284, 3) := by decide +kernel
theorem dx_L_gives_12 : decode prog_1_method_36_code 12 = .ok (.aload_n 0, 1) := by decide +kernel
theorem dx_L_gives_120 : decode prog_1_method_36_code 120 = .ok (.iload_n 2, 1) := by decide +kernel
theorem dx_L_gives_121 : decode prog_1_method_36_code 121 = .ok (.i2l, 1) := by decide +kernel
theorem dx_L_gives_122 : decode prog_1_method_36_code 122 = .ok (.lmul, 1) := by decide +kernel
theorem dx_L_gives_123 : decode prog_1_method_36_code 123 = .ok (.iload_n 1, 1) := by decide +kernel
theorem dx_L_gives_124 : decode prog_1_method_36_code 124 = .ok (.invokestatic 235, 3) := by decide +kernel
theorem dx_L_gives_127 : decode prog_1_method_36_code 127 = .ok (.i2l, 1) := by decide +kernel
theorem dx_L_gives_128 : decode prog_1_method_36_code 128 = .ok (.lmul, 1) := by decide +kernel
theorem dx_L_gives_129 : decode prog_1_method_36_code 129 = .ok (.lsub, 1) := by decide +kernel
theorem dx_L_gives_13 : decode prog_1_method_36_code 13 = .ok (.getfield 10, 3) := by decide +kernel
theorem dx_L_gives_130 : decode prog_1_method_36_code 130 = .ok (.lastore, 1) := by decide +kernel
theorem dx_L_gives_131 : decode prog_1_method_36_code 131 = .ok (.aload_n 0, 1) := by decide +kernel
theorem dx_L_gives_132 : decode prog_1_method_36_code 132 = .ok (.getfield 41, 3) := by decide +kernel
theorem dx_L_gives_135 : decode prog_1_method_36_code 135 = .ok (.aload_n 0, 1) := by decide +kernel
theorem dx_L_gives_136 : decode prog_1_method_36_code 136 = .ok (.getfield 10, 3) := by decide +kernel
theorem dx_L_gives_139 : decode prog_1_method_36_code 139 = .ok (.getfield 142, 3) := by decide +kernel
theorem dx_L_gives_142 : decode prog_1_method_36_code 142 = .ok (.invokevirtual 286, 3) := by decide +kernel
theorem dx_L_gives_145 : decode prog_1_method_36_code 145 = .ok (.ireturn, 1) := by decide +kernel
theorem dx_L_gives_16 : decode prog_1_method_36_code 16 = .ok (.getfield 85, 3) := by decide +kernel
theorem dx_L_gives_19 : decode prog_1_method_36_code 19 = .ok (.if_icmp .ge 30, 3) := by decide +kernel
theorem dx_L_gives_22 : decode prog_1_method_36_code 22 = .ok (.iload_n 1, 1) := by decide +kernel
theorem dx_L_gives_23 : decode prog_1_method_36_code 23 = .ok (.iload 4, 2) := by decide +kernel
theorem dx_L_gives_25 : decode prog_1_method_36_code 25 = .ok (.ishr, 1) := by decide +kernel
theorem dx_L_gives_26 : decode prog_1_method_36_code 26 = .ok (.iconst 1, 1) := by decide +kernel
theorem dx_L_gives_27 : decode prog_1_method_36_code 27 = .ok (.iand, 1) := by decide +kernel
theorem dx_L_gives_28 : decode prog_1_method_36_code 28 = .ok (.ifCond .eq 15, 3) := by decide +kernel
theorem dx_L_gives_31 : decode prog_1_method_36_code 31 = .ok (.aload_n 0, 1) := by decide +kernel
theorem dx_L_gives_32 : decode prog_1_method_36_code 32 = .ok (.getfield 41, 3) := by decide +kernel
theorem dx_L_gives_35 : decode prog_1_method_36_code 35 = .ok (.getfield 153, 3) := by decide +kernel
theorem dx_L_gives_38 : decode prog_1_method_36_code 38 = .ok (.iload 4, 2) := by decide +kernel
theorem dx_L_gives_4 : decode prog_1_method_36_code 4 = .ok (.invokevirtual 150, 3) := by decide +kernel
theorem dx_L_gives_40 : decode prog_1_method_36_code 40 = .ok (.iload_n 3, 1) := by decide +kernel
theorem dx_L_gives_41 : decode prog_1_method_36_code 41 = .ok (.i2l, 1) := by decide +kernel
theorem dx_L_gives_42 : decode prog_1_method_36_code 42 = .ok (.lastore, 1) := by decide +kernel
theorem dx_L_gives_43 : decode prog_1_method_36_code 43 = .ok (.iinc 4 1, 3) := by decide +kernel
theorem dx_L_gives_46 : decode prog_1_method_36_code 46 = .ok (.goto (-36), 3) := by decide +kernel
theorem dx_L_gives_49 : decode prog_1_method_36_code 49 = .ok (.iconst 0, 1) := by decide +kernel
theorem dx_L_gives_50 : decode prog_1_method_36_code 50 = .ok (.istore 4, 2) := by decide +kernel
theorem dx_L_gives_52 : decode prog_1_method_36_code 52 = .ok (.iload 4, 2) := by decide +kernel
theorem dx_L_gives_54 : decode prog_1_method_36_code 54 = .ok (.aload_n 0, 1) := by decide +kernel
theorem dx_L_gives_55 : decode prog_1_method_36_code 55 = .ok (.getfield 10, 3) := by decide +kernel
theorem dx_L_gives_58 : decode prog_1_method_36_code 58 = .ok (.getfield 96, 3) := by decide +kernel
theorem dx_L_gives_61 : decode prog_1_method_36_code 61 = .ok (.if_icmp .ge 46, 3) := by decide +kernel
theorem dx_L_gives_64 : decode prog_1_method_36_code 64 = .ok (.iload_n 1, 1) := by decide +kernel
theorem dx_L_gives_65 : decode prog_1_method_36_code 65 = .ok (.iconst 4, 1) := by decide +kernel
theorem dx_L_gives_66 : decode prog_1_method_36_code 66 = .ok (.iload 4, 2) := by decide +kernel
theorem dx_L_gives_68 : decode prog_1_method_36_code 68 = .ok (.iadd, 1) := by decide +kernel
theorem dx_L_gives_69 : decode prog_1_method_36_code 69 = .ok (.ishr, 1) := by decide +kernel
theorem dx_L_gives_7 : decode prog_1_method_36_code 7 = .ok (.iconst 0, 1) := by decide +kernel
theorem dx_L_gives_70 : decode prog_1_method_36_code 70 = .ok (.iconst 1, 1) := by decide +kernel
theorem dx_L_gives_71 : decode prog_1_method_36_code 71 = .ok (.iand, 1) := by decide +kernel
theorem dx_L_gives_72 : decode prog_1_method_36_code 72 = .ok (.ifCond .eq 29, 3) := by decide +kernel
theorem dx_L_gives_75 : decode prog_1_method_36_code 75 = .ok (.aload_n 0, 1) := by decide +kernel
theorem dx_L_gives_76 : decode prog_1_method_36_code 76 = .ok (.getfield 41, 3) := by decide +kernel
theorem dx_L_gives_79 : decode prog_1_method_36_code 79 = .ok (.getfield 153, 3) := by decide +kernel
theorem dx_L_gives_8 : decode prog_1_method_36_code 8 = .ok (.istore 4, 2) := by decide +kernel
theorem dx_L_gives_82 : decode prog_1_method_36_code 82 = .ok (.iconst 4, 1) := by decide +kernel
theorem dx_L_gives_83 : decode prog_1_method_36_code 83 = .ok (.dup2, 1) := by decide +kernel
theorem dx_L_gives_84 : decode prog_1_method_36_code 84 = .ok (.laload, 1) := by decide +kernel
theorem dx_L_gives_85 : decode prog_1_method_36_code 85 = .ok (.iload_n 3, 1) := by decide +kernel
theorem dx_L_gives_86 : decode prog_1_method_36_code 86 = .ok (.i2l, 1) := by decide +kernel
theorem dx_L_gives_87 : decode prog_1_method_36_code 87 = .ok (.aload_n 0, 1) := by decide +kernel
theorem dx_L_gives_88 : decode prog_1_method_36_code 88 = .ok (.getfield 10, 3) := by decide +kernel
theorem dx_L_gives_91 : decode prog_1_method_36_code 91 = .ok (.getfield 118, 3) := by decide +kernel
theorem dx_L_gives_94 : decode prog_1_method_36_code 94 = .ok (.iload 4, 2) := by decide +kernel
theorem dx_L_gives_96 : decode prog_1_method_36_code 96 = .ok (.iaload, 1) := by decide +kernel
theorem dx_L_gives_97 : decode prog_1_method_36_code 97 = .ok (.i2l, 1) := by decide +kernel
theorem dx_L_gives_98 : decode prog_1_method_36_code 98 = .ok (.lmul, 1) := by decide +kernel
theorem dx_L_gives_99 : decode prog_1_method_36_code 99 = .ok (.ladd, 1) := by decide +kernel
theorem dx_L_greatestDivisor_0 : decode prog_1_method_43_code 0 = .ok (.iload_n 0, 1) := by decide +kernel
theorem dx_L_greatestDivisor_1 : decode prog_1_method_43_code 1 = .ok (.istore_n 2, 1) := by decide +kernel
theorem dx_L_greatestDivisor_11 : decode prog_1_method_43_code 11 = .ok (.if_icmp .ge 23, 3) := by decide +kernel
theorem dx_L_greatestDivisor_14 : decode prog_1_method_43_code 14 = .ok (.iload_n 3, 1) := by decide +kernel
theorem dx_L_greatestDivisor_15 : decode prog_1_method_43_code 15 = .ok (.ifCond .eq 19, 3) := by decide +kernel
theorem dx_L_greatestDivisor_18 : decode prog_1_method_43_code 18 = .ok (.iload_n 2, 1) := by decide +kernel
theorem dx_L_greatestDivisor_19 : decode prog_1_method_43_code 19 = .ok (.iload_n 3, 1) := by decide +kernel
theorem dx_L_greatestDivisor_2 : decode prog_1_method_43_code 2 = .ok (.iload_n 1, 1) := by decide +kernel
theorem dx_L_greatestDivisor_20 : decode prog_1_method_43_code 20 = .ok (.irem, 1) := by decide +kernel
theorem dx_L_greatestDivisor_21 : decode prog_1_method_43_code 21 = .ok (.istore 5, 2) := by decide +kernel
theorem dx_L_greatestDivisor_23 : decode prog_1_method_43_code 23 = .ok (.iload_n 3, 1) := by decide +kernel
theorem dx_L_greatestDivisor_24 : decode prog_1_method_43_code 24 = .ok (.istore_n 2, 1) := by decide +kernel
theorem dx_L_greatestDivisor_25 : decode prog_1_method_43_code 25 = .ok (.iload 5, 2) := by decide +kernel
theorem dx_L_greatestDivisor_27 : decode prog_1_method_43_code 27 = .ok (.istore_n 3, 1) := by decide +kernel
theorem dx_L_greatestDivisor_28 : decode prog_1_method_43_code 28 = .ok (.iinc 4 1, 3) := by decide +kernel
theorem dx_L_greatestDivisor_3 : decode prog_1_method_43_code 3 = .ok (.istore_n 3, 1) := by decide +kernel
theorem dx_L_greatestDivisor_31 : decode prog_1_method_43_code 31 = .ok (.goto (-24), 3) := by decide +kernel
theorem dx_L_greatestDivisor_34 : decode prog_1_method_43_code 34 = .ok (.iload_n 2, 1) := by decide +kernel
theorem dx_L_greatestDivisor_35 : decode prog_1_method_43_code 35 = .ok (.ireturn, 1) := by decide +kernel
theorem dx_L_greatestDivisor_4 : decode prog_1_method_43_code 4 = .ok (.iconst 0, 1) := by decide +kernel
theorem dx_L_greatestDivisor_5 : decode prog_1_method_43_code 5 = .ok (.istore 4, 2) := by decide +kernel
theorem dx_L_greatestDivisor_7 : decode prog_1_method_43_code 7 = .ok (.iload 4, 2) := by decide +kernel
theorem dx_L_greatestDivisor_9 : decode prog_1_method_43_code 9 = .ok (.bipush 64, 2) := by decide +kernel
theorem dx_L_howMany_0 : decode prog_1_method_31_code 0 = .ok (.iload_n 1, 1) := by decide +kernel
theorem dx_L_howMany_1 : decode prog_1_method_31_code 1 = .ok (.tableswitch 75 0 4 #[35, 43, 51, 59, 67], 35) := by decide +kernel
theorem dx_L_howMany_36 : decode prog_1_method_31_code 36 = .ok (.aload_n 0, 1) := by decide +kernel
theorem dx_L_howMany_37 : decode prog_1_method_31_code 37 = .ok (.getfield 10, 3) := by decide +kernel
theorem dx_L_howMany_40 : decode prog_1_method_31_code 40 = .ok (.getfield 85, 3) := by decide +kernel
theorem dx_L_howMany_43 : decode prog_1_method_31_code 43 = .ok (.ireturn, 1) := by decide +kernel
theorem dx_L_howMany_44 : decode prog_1_method_31_code 44 = .ok (.aload_n 0, 1) := by decide +kernel
theorem dx_L_howMany_45 : decode prog_1_method_31_code 45 = .ok (.getfield 10, 3) := by decide +kernel
theorem dx_L_howMany_48 : decode prog_1_method_31_code 48 = .ok (.getfield 96, 3) := by decide +kernel
theorem dx_L_howMany_51 : decode prog_1_method_31_code 51 = .ok (.ireturn, 1) := by decide +kernel
theorem dx_L_howMany_52 : decode prog_1_method_31_code 52 = .ok (.aload_n 0, 1) := by decide +kernel
theorem dx_L_howMany_53 : decode prog_1_method_31_code 53 = .ok (.getfield 10, 3) := by decide +kernel
theorem dx_L_howMany_56 : decode prog_1_method_31_code 56 = .ok (.getfield 161, 3) := by decide +kernel
theorem dx_L_howMany_59 : decode prog_1_method_31_code 59 = .ok (.ireturn, 1) := by decide +kernel
theorem dx_L_howMany_60 : decode prog_1_method_31_code 60 = .ok (.aload_n 0, 1) := by decide +kernel
theorem dx_L_howMany_61 : decode prog_1_method_31_code 61 = .ok (.getfield 10, 3) := by decide +kernel
theorem dx_L_howMany_64 : decode prog_1_method_31_code 64 = .ok (.getfield 281, 3) := by decide +kernel
theorem dx_L_howMany_67 : decode prog_1_method_31_code 67 = .ok (.ireturn, 1) := by decide +kernel
theorem dx_L_howMany_68 : decode prog_1_method_31_code 68 = .ok (.aload_n 0, 1) := by decide +kernel
theorem dx_L_howMany_69 : decode prog_1_method_31_code 69 = .ok (.getfield 27, 3) := by decide +kernel
theorem dx_L_howMany_72 : decode prog_1_method_31_code 72 = .ok (.getfield 121, 3) := by decide +kernel
theorem dx_L_howMany_75 : decode prog_1_method_31_code 75 = .ok (.ireturn, 1) := by decide +kernel
theorem dx_L_howMany_76 : decode prog_1_method_31_code 76 = .ok (.aload_n 0, 1) := by decide +kernel
theorem dx_L_howMany_77 : decode prog_1_method_31_code 77 = .ok (.getfield 10, 3) := by decide +kernel
theorem dx_L_howMany_80 : decode prog_1_method_31_code 80 = .ok (.getfield 226, 3) := by decide +kernel
theorem dx_L_howMany_83 : decode prog_1_method_31_code 83 = .ok (.ireturn, 1) := by decide +kernel
theorem dx_L_image_0 : decode prog_1_method_26_code 0 = .ok (.iload_n 1, 1) := by decide +kernel
theorem dx_L_image_1 : decode prog_1_method_26_code 1 = .ok (.iconst 1, 1) := by decide +kernel
theorem dx_L_image_12 : decode prog_1_method_26_code 12 = .ok (.ireturn, 1) := by decide +kernel
theorem dx_L_image_13 : decode prog_1_method_26_code 13 = .ok (.aload_n 0, 1) := by decide +kernel
theorem dx_L_image_14 : decode prog_1_method_26_code 14 = .ok (.getfield 16, 3) := by decide +kernel
theorem dx_L_image_17 : decode prog_1_method_26_code 17 = .ok (.iload_n 1, 1) := by decide +kernel
theorem dx_L_image_18 : decode prog_1_method_26_code 18 = .ok (.aaload, 1) := by decide +kernel
theorem dx_L_image_19 : decode prog_1_method_26_code 19 = .ok (.aload_n 0, 1) := by decide +kernel
theorem dx_L_image_2 : decode prog_1_method_26_code 2 = .ok (.invokestatic 77, 3) := by decide +kernel
theorem dx_L_image_20 : decode prog_1_method_26_code 20 = .ok (.getfield 10, 3) := by decide +kernel
theorem dx_L_image_23 : decode prog_1_method_26_code 23 = .ok (.invokevirtual 256, 3) := by decide +kernel
theorem dx_L_image_26 : decode prog_1_method_26_code 26 = .ok (.aload_n 0, 1) := by decide +kernel
theorem dx_L_image_27 : decode prog_1_method_26_code 27 = .ok (.getfield 20, 3) := by decide +kernel
theorem dx_L_image_30 : decode prog_1_method_26_code 30 = .ok (.iload_n 1, 1) := by decide +kernel
theorem dx_L_image_31 : decode prog_1_method_26_code 31 = .ok (.iconst 1, 1) := by decide +kernel
theorem dx_L_image_32 : decode prog_1_method_26_code 32 = .ok (.bastore, 1) := by decide +kernel
theorem dx_L_image_33 : decode prog_1_method_26_code 33 = .ok (.iconst 1, 1) := by decide +kernel
theorem dx_L_image_34 : decode prog_1_method_26_code 34 = .ok (.ireturn, 1) := by decide +kernel
theorem dx_L_image_5 : decode prog_1_method_26_code 5 = .ok (.ifCond .ne 8, 3) := by decide +kernel
theorem dx_L_image_8 : decode prog_1_method_26_code 8 = .ok (.aload_n 0, 1) := by decide +kernel
theorem dx_L_image_9 : decode prog_1_method_26_code 9 = .ok (.invokevirtual 81, 3) := by decide +kernel
theorem dx_L_isNewColour_0 : decode prog_1_method_40_code 0 = .ok (.iconst 0, 1) := by decide +kernel
theorem dx_L_isNewColour_1 : decode prog_1_method_40_code 1 = .ok (.istore_n 2, 1) := by decide +kernel
theorem dx_L_isNewColour_11 : decode prog_1_method_40_code 11 = .ok (.getfield 118, 3) := by decide +kernel
theorem dx_L_isNewColour_14 : decode prog_1_method_40_code 14 = .ok (.iload_n 2, 1) := by decide +kernel
theorem dx_L_isNewColour_15 : decode prog_1_method_40_code 15 = .ok (.iaload, 1) := by decide +kernel
theorem dx_L_isNewColour_16 : decode prog_1_method_40_code 16 = .ok (.aload_n 0, 1) := by decide +kernel
theorem dx_L_isNewColour_17 : decode prog_1_method_40_code 17 = .ok (.getfield 10, 3) := by decide +kernel
theorem dx_L_isNewColour_2 : decode prog_1_method_40_code 2 = .ok (.iload_n 2, 1) := by decide +kernel
theorem dx_L_isNewColour_20 : decode prog_1_method_40_code 20 = .ok (.getfield 118, 3) := by decide +kernel
theorem dx_L_isNewColour_23 : decode prog_1_method_40_code 23 = .ok (.iload_n 1, 1) := by decide +kernel
theorem dx_L_isNewColour_24 : decode prog_1_method_40_code 24 = .ok (.iaload, 1) := by decide +kernel
theorem dx_L_isNewColour_25 : decode prog_1_method_40_code 25 = .ok (.if_icmp .ne 5, 3) := by decide +kernel
theorem dx_L_isNewColour_28 : decode prog_1_method_40_code 28 = .ok (.iconst 0, 1) := by decide +kernel
theorem dx_L_isNewColour_29 : decode prog_1_method_40_code 29 = .ok (.ireturn, 1) := by decide +kernel
theorem dx_L_isNewColour_3 : decode prog_1_method_40_code 3 = .ok (.iload_n 1, 1) := by decide +kernel
theorem dx_L_isNewColour_30 : decode prog_1_method_40_code 30 = .ok (.iinc 2 1, 3) := by decide +kernel
theorem dx_L_isNewColour_33 : decode prog_1_method_40_code 33 = .ok (.goto (-31), 3) := by decide +kernel
theorem dx_L_isNewColour_36 : decode prog_1_method_40_code 36 = .ok (.iconst 0, 1) := by decide +kernel
theorem dx_L_isNewColour_37 : decode prog_1_method_40_code 37 = .ok (.istore_n 2, 1) := by decide +kernel
theorem dx_L_isNewColour_38 : decode prog_1_method_40_code 38 = .ok (.iload_n 2, 1) := by decide +kernel
theorem dx_L_isNewColour_39 : decode prog_1_method_40_code 39 = .ok (.aload_n 0, 1) := by decide +kernel
theorem dx_L_isNewColour_4 : decode prog_1_method_40_code 4 = .ok (.if_icmp .ge 32, 3) := by decide +kernel
theorem dx_L_isNewColour_40 : decode prog_1_method_40_code 40 = .ok (.getfield 10, 3) := by decide +kernel
theorem dx_L_isNewColour_43 : decode prog_1_method_40_code 43 = .ok (.getfield 85, 3) := by decide +kernel
theorem dx_L_isNewColour_46 : decode prog_1_method_40_code 46 = .ok (.if_icmp .ge 35, 3) := by decide +kernel
theorem dx_L_isNewColour_49 : decode prog_1_method_40_code 49 = .ok (.aload_n 0, 1) := by decide +kernel
theorem dx_L_isNewColour_50 : decode prog_1_method_40_code 50 = .ok (.getfield 10, 3) := by decide +kernel
theorem dx_L_isNewColour_53 : decode prog_1_method_40_code 53 = .ok (.getfield 142, 3) := by decide +kernel
theorem dx_L_isNewColour_56 : decode prog_1_method_40_code 56 = .ok (.iload_n 2, 1) := by decide +kernel
theorem dx_L_isNewColour_57 : decode prog_1_method_40_code 57 = .ok (.iconst 4, 1) := by decide +kernel
theorem dx_L_isNewColour_58 : decode prog_1_method_40_code 58 = .ok (.aload_n 0, 1) := by decide +kernel
theorem dx_L_isNewColour_59 : decode prog_1_method_40_code 59 = .ok (.getfield 10, 3) := by decide +kernel
theorem dx_L_isNewColour_62 : decode prog_1_method_40_code 62 = .ok (.getfield 118, 3) := by decide +kernel
theorem dx_L_isNewColour_65 : decode prog_1_method_40_code 65 = .ok (.iload_n 1, 1) := by decide +kernel
theorem dx_L_isNewColour_66 : decode prog_1_method_40_code 66 = .ok (.iaload, 1) := by decide +kernel
theorem dx_L_isNewColour_67 : decode prog_1_method_40_code 67 = .ok (.invokevirtual 297, 3) := by decide +kernel
theorem dx_L_isNewColour_7 : decode prog_1_method_40_code 7 = .ok (.aload_n 0, 1) := by decide +kernel
theorem dx_L_isNewColour_70 : decode prog_1_method_40_code 70 = .ok (.ifCond .ne 5, 3) := by decide +kernel
theorem dx_L_isNewColour_73 : decode prog_1_method_40_code 73 = .ok (.iconst 0, 1) := by decide +kernel
theorem dx_L_isNewColour_74 : decode prog_1_method_40_code 74 = .ok (.ireturn, 1) := by decide +kernel
theorem dx_L_isNewColour_75 : decode prog_1_method_40_code 75 = .ok (.iinc 2 1, 3) := by decide +kernel
theorem dx_L_isNewColour_78 : decode prog_1_method_40_code 78 = .ok (.goto (-40), 3) := by decide +kernel
theorem dx_L_isNewColour_8 : decode prog_1_method_40_code 8 = .ok (.getfield 10, 3) := by decide +kernel
theorem dx_L_isNewColour_81 : decode prog_1_method_40_code 81 = .ok (.iconst 1, 1) := by decide +kernel
theorem dx_L_isNewColour_82 : decode prog_1_method_40_code 82 = .ok (.ireturn, 1) := by decide +kernel
theorem dx_L_isNewShade_0 : decode prog_1_method_39_code 0 = .ok (.iconst 0, 1) := by decide +kernel
theorem dx_L_isNewShade_1 : decode prog_1_method_39_code 1 = .ok (.istore_n 2, 1) := by decide +kernel
theorem dx_L_isNewShade_11 : decode prog_1_method_39_code 11 = .ok (.getfield 142, 3) := by decide +kernel
theorem dx_L_isNewShade_14 : decode prog_1_method_39_code 14 = .ok (.iload_n 1, 1) := by decide +kernel
theorem dx_L_isNewShade_15 : decode prog_1_method_39_code 15 = .ok (.iload_n 2, 1) := by decide +kernel
theorem dx_L_isNewShade_16 : decode prog_1_method_39_code 16 = .ok (.iconst 1, 1) := by decide +kernel
theorem dx_L_isNewShade_17 : decode prog_1_method_39_code 17 = .ok (.invokevirtual 297, 3) := by decide +kernel
theorem dx_L_isNewShade_2 : decode prog_1_method_39_code 2 = .ok (.iload_n 2, 1) := by decide +kernel
theorem dx_L_isNewShade_20 : decode prog_1_method_39_code 20 = .ok (.ifCond .ne 5, 3) := by decide +kernel
theorem dx_L_isNewShade_23 : decode prog_1_method_39_code 23 = .ok (.iconst 0, 1) := by decide +kernel
theorem dx_L_isNewShade_24 : decode prog_1_method_39_code 24 = .ok (.ireturn, 1) := by decide +kernel
theorem dx_L_isNewShade_25 : decode prog_1_method_39_code 25 = .ok (.iinc 2 1, 3) := by decide +kernel
theorem dx_L_isNewShade_28 : decode prog_1_method_39_code 28 = .ok (.goto (-26), 3) := by decide +kernel
theorem dx_L_isNewShade_3 : decode prog_1_method_39_code 3 = .ok (.iload_n 1, 1) := by decide +kernel
theorem dx_L_isNewShade_31 : decode prog_1_method_39_code 31 = .ok (.iconst 1, 1) := by decide +kernel
theorem dx_L_isNewShade_32 : decode prog_1_method_39_code 32 = .ok (.ireturn, 1) := by decide +kernel
theorem dx_L_isNewShade_4 : decode prog_1_method_39_code 4 = .ok (.if_icmp .ge 27, 3) := by decide +kernel
theorem dx_L_isNewShade_7 : decode prog_1_method_39_code 7 = .ok (.aload_n 0, 1) := by decide +kernel
theorem dx_L_isNewShade_8 : decode prog_1_method_39_code 8 = .ok (.getfield 10, 3) := by decide +kernel
theorem dx_L_isShade_0 : decode prog_1_method_35_code 0 = .ok (.iload_n 1, 1) := by decide +kernel
theorem dx_L_isShade_1 : decode prog_1_method_35_code 1 = .ok (.iconst 1, 1) := by decide +kernel
theorem dx_L_isShade_11 : decode prog_1_method_35_code 11 = .ok (.iload_n 0, 1) := by decide +kernel
theorem dx_L_isShade_12 : decode prog_1_method_35_code 12 = .ok (.ifCond .lt 12, 3) := by decide +kernel
theorem dx_L_isShade_15 : decode prog_1_method_35_code 15 = .ok (.iload_n 0, 1) := by decide +kernel
theorem dx_L_isShade_16 : decode prog_1_method_35_code 16 = .ok (.iload_n 1, 1) := by decide +kernel
theorem dx_L_isShade_17 : decode prog_1_method_35_code 17 = .ok (.if_icmp .gt 7, 3) := by decide +kernel
theorem dx_L_isShade_2 : decode prog_1_method_35_code 2 = .ok (.if_icmp .lt 22, 3) := by decide +kernel
theorem dx_L_isShade_20 : decode prog_1_method_35_code 20 = .ok (.iconst 1, 1) := by decide +kernel
theorem dx_L_isShade_21 : decode prog_1_method_35_code 21 = .ok (.goto 4, 3) := by decide +kernel
theorem dx_L_isShade_24 : decode prog_1_method_35_code 24 = .ok (.iconst 0, 1) := by decide +kernel
theorem dx_L_isShade_25 : decode prog_1_method_35_code 25 = .ok (.ireturn, 1) := by decide +kernel
theorem dx_L_isShade_5 : decode prog_1_method_35_code 5 = .ok (.iload_n 1, 1) := by decide +kernel
theorem dx_L_isShade_6 : decode prog_1_method_35_code 6 = .ok (.bipush 99, 2) := by decide +kernel
theorem dx_L_isShade_8 : decode prog_1_method_35_code 8 = .ok (.if_icmp .gt 16, 3) := by decide +kernel
theorem dx_L_least_0 : decode prog_1_method_23_code 0 = .ok (.aload_n 0, 1) := by decide +kernel
theorem dx_L_least_1 : decode prog_1_method_23_code 1 = .ok (.getfield 10, 3) := by decide +kernel
theorem dx_L_least_100 : decode prog_1_method_23_code 100 = .ok (.aload_n 0, 1) := by decide +kernel
theorem dx_L_least_101 : decode prog_1_method_23_code 101 = .ok (.getfield 10, 3) := by decide +kernel
theorem dx_L_least_104 : decode prog_1_method_23_code 104 = .ok (.aload_n 0, 1) := by decide +kernel
theorem dx_L_least_105 : decode prog_1_method_23_code 105 = .ok (.getfield 10, 3) := by decide +kernel
theorem dx_L_least_108 : decode prog_1_method_23_code 108 = .ok (.getfield 107, 3) := by decide +kernel
theorem dx_L_least_11 : decode prog_1_method_23_code 11 = .ok (.aload_n 0, 1) := by decide +kernel
theorem dx_L_least_111 : decode prog_1_method_23_code 111 = .ok (.aload_n 0, 1) := by decide +kernel
theorem dx_L_least_112 : decode prog_1_method_23_code 112 = .ok (.getfield 73, 3) := by decide +kernel
theorem dx_L_least_115 : decode prog_1_method_23_code 115 = .ok (.invokevirtual 138, 3) := by decide +kernel
theorem dx_L_least_118 : decode prog_1_method_23_code 118 = .ok (.aload_n 0, 1) := by decide +kernel
theorem dx_L_least_119 : decode prog_1_method_23_code 119 = .ok (.getfield 48, 3) := by decide +kernel
theorem dx_L_least_12 : decode prog_1_method_23_code 12 = .ok (.getfield 10, 3) := by decide +kernel
theorem dx_L_least_122 : decode prog_1_method_23_code 122 = .ok (.aload_n 0, 1) := by decide +kernel
theorem dx_L_least_123 : decode prog_1_method_23_code 123 = .ok (.getfield 10, 3) := by decide +kernel
theorem dx_L_least_126 : decode prog_1_method_23_code 126 = .ok (.getfield 142, 3) := by decide +kernel
theorem dx_L_least_129 : decode prog_1_method_23_code 129 = .ok (.iload_n 3, 1) := by decide +kernel
theorem dx_L_least_130 : decode prog_1_method_23_code 130 = .ok (.invokevirtual 146, 3) := by decide +kernel
theorem dx_L_least_133 : decode prog_1_method_23_code 133 = .ok (.astore 6, 2) := by decide +kernel
theorem dx_L_least_135 : decode prog_1_method_23_code 135 = .ok (.aload 6, 2) := by decide +kernel
theorem dx_L_least_137 : decode prog_1_method_23_code 137 = .ok (.iload_n 2, 1) := by decide +kernel
theorem dx_L_least_138 : decode prog_1_method_23_code 138 = .ok (.iload 4, 2) := by decide +kernel
theorem dx_L_least_140 : decode prog_1_method_23_code 140 = .ok (.invokevirtual 175, 3) := by decide +kernel
theorem dx_L_least_143 : decode prog_1_method_23_code 143 = .ok (.ifCond .eq 6, 3) := by decide +kernel
theorem dx_L_least_146 : decode prog_1_method_23_code 146 = .ok (.iload 5, 2) := by decide +kernel
theorem dx_L_least_148 : decode prog_1_method_23_code 148 = .ok (.ireturn, 1) := by decide +kernel
theorem dx_L_least_149 : decode prog_1_method_23_code 149 = .ok (.iinc 5 1, 3) := by decide +kernel
theorem dx_L_least_15 : decode prog_1_method_23_code 15 = .ok (.iload_n 2, 1) := by decide +kernel
theorem dx_L_least_152 : decode prog_1_method_23_code 152 = .ok (.goto (-71), 3) := by decide +kernel
theorem dx_L_least_155 : decode prog_1_method_23_code 155 = .ok (.iconst (-1), 1) := by decide +kernel
theorem dx_L_least_156 : decode prog_1_method_23_code 156 = .ok (.ireturn, 1) := by decide +kernel
theorem dx_L_least_16 : decode prog_1_method_23_code 16 = .ok (.invokevirtual 135, 3) := by decide +kernel
theorem dx_L_least_19 : decode prog_1_method_23_code 19 = .ok (.ifCond .eq 22, 3) := by decide +kernel
theorem dx_L_least_22 : decode prog_1_method_23_code 22 = .ok (.iload_n 3, 1) := by decide +kernel
theorem dx_L_least_23 : decode prog_1_method_23_code 23 = .ok (.bipush 12, 2) := by decide +kernel
theorem dx_L_least_25 : decode prog_1_method_23_code 25 = .ok (.invokestatic 77, 3) := by decide +kernel
theorem dx_L_least_28 : decode prog_1_method_23_code 28 = .ok (.ifCond .eq 13, 3) := by decide +kernel
theorem dx_L_least_31 : decode prog_1_method_23_code 31 = .ok (.iload 4, 2) := by decide +kernel
theorem dx_L_least_33 : decode prog_1_method_23_code 33 = .ok (.bipush 12, 2) := by decide +kernel
theorem dx_L_least_35 : decode prog_1_method_23_code 35 = .ok (.invokestatic 77, 3) := by decide +kernel
theorem dx_L_least_38 : decode prog_1_method_23_code 38 = .ok (.ifCond .ne 8, 3) := by decide +kernel
theorem dx_L_least_4 : decode prog_1_method_23_code 4 = .ok (.iload_n 1, 1) := by decide +kernel
theorem dx_L_least_41 : decode prog_1_method_23_code 41 = .ok (.aload_n 0, 1) := by decide +kernel
theorem dx_L_least_42 : decode prog_1_method_23_code 42 = .ok (.invokevirtual 81, 3) := by decide +kernel
theorem dx_L_least_45 : decode prog_1_method_23_code 45 = .ok (.ireturn, 1) := by decide +kernel
theorem dx_L_least_46 : decode prog_1_method_23_code 46 = .ok (.iconst 0, 1) := by decide +kernel
theorem dx_L_least_47 : decode prog_1_method_23_code 47 = .ok (.istore 5, 2) := by decide +kernel
theorem dx_L_least_49 : decode prog_1_method_23_code 49 = .ok (.iload 5, 2) := by decide +kernel
theorem dx_L_least_5 : decode prog_1_method_23_code 5 = .ok (.invokevirtual 115, 3) := by decide +kernel
theorem dx_L_least_51 : decode prog_1_method_23_code 51 = .ok (.iconst 4, 1) := by decide +kernel
theorem dx_L_least_52 : decode prog_1_method_23_code 52 = .ok (.if_icmp .ge 26, 3) := by decide +kernel
theorem dx_L_least_55 : decode prog_1_method_23_code 55 = .ok (.aload_n 0, 1) := by decide +kernel
theorem dx_L_least_56 : decode prog_1_method_23_code 56 = .ok (.getfield 73, 3) := by decide +kernel
theorem dx_L_least_59 : decode prog_1_method_23_code 59 = .ok (.iload 5, 2) := by decide +kernel
theorem dx_L_least_61 : decode prog_1_method_23_code 61 = .ok (.aload_n 0, 1) := by decide +kernel
theorem dx_L_least_62 : decode prog_1_method_23_code 62 = .ok (.getfield 10, 3) := by decide +kernel
theorem dx_L_least_65 : decode prog_1_method_23_code 65 = .ok (.getfield 118, 3) := by decide +kernel
theorem dx_L_least_68 : decode prog_1_method_23_code 68 = .ok (.iload 5, 2) := by decide +kernel
theorem dx_L_least_70 : decode prog_1_method_23_code 70 = .ok (.iaload, 1) := by decide +kernel
theorem dx_L_least_71 : decode prog_1_method_23_code 71 = .ok (.iastore, 1) := by decide +kernel
theorem dx_L_least_72 : decode prog_1_method_23_code 72 = .ok (.iinc 5 1, 3) := by decide +kernel
theorem dx_L_least_75 : decode prog_1_method_23_code 75 = .ok (.goto (-26), 3) := by decide +kernel
theorem dx_L_least_78 : decode prog_1_method_23_code 78 = .ok (.iconst 0, 1) := by decide +kernel
theorem dx_L_least_79 : decode prog_1_method_23_code 79 = .ok (.istore 5, 2) := by decide +kernel
theorem dx_L_least_8 : decode prog_1_method_23_code 8 = .ok (.ifCond .eq 33, 3) := by decide +kernel
theorem dx_L_least_81 : decode prog_1_method_23_code 81 = .ok (.iload 5, 2) := by decide +kernel
theorem dx_L_least_83 : decode prog_1_method_23_code 83 = .ok (.bipush 12, 2) := by decide +kernel
theorem dx_L_least_85 : decode prog_1_method_23_code 85 = .ok (.if_icmp .gt 70, 3) := by decide +kernel
theorem dx_L_least_88 : decode prog_1_method_23_code 88 = .ok (.aload_n 0, 1) := by decide +kernel
theorem dx_L_least_89 : decode prog_1_method_23_code 89 = .ok (.getfield 73, 3) := by decide +kernel
theorem dx_L_least_92 : decode prog_1_method_23_code 92 = .ok (.iload_n 1, 1) := by decide +kernel
theorem dx_L_least_93 : decode prog_1_method_23_code 93 = .ok (.iload 5, 2) := by decide +kernel
theorem dx_L_least_95 : decode prog_1_method_23_code 95 = .ok (.iastore, 1) := by decide +kernel
theorem dx_L_least_96 : decode prog_1_method_23_code 96 = .ok (.aload_n 0, 1) := by decide +kernel
theorem dx_L_least_97 : decode prog_1_method_23_code 97 = .ok (.getfield 48, 3) := by decide +kernel
theorem dx_L_lent_0 : decode prog_1_method_21_code 0 = .ok (.iload_n 1, 1) := by decide +kernel
theorem dx_L_lent_1 : decode prog_1_method_21_code 1 = .ok (.iconst 1, 1) := by decide +kernel
theorem dx_L_lent_102 : decode prog_1_method_21_code 102 = .ok (.iload_n 3, 1) := by decide +kernel
theorem dx_L_lent_103 : decode prog_1_method_21_code 103 = .ok (.ireturn, 1) := by decide +kernel
theorem dx_L_lent_12 : decode prog_1_method_21_code 12 = .ok (.ireturn, 1) := by decide +kernel
theorem dx_L_lent_13 : decode prog_1_method_21_code 13 = .ok (.aload_n 0, 1) := by decide +kernel
theorem dx_L_lent_14 : decode prog_1_method_21_code 14 = .ok (.invokevirtual 232, 3) := by decide +kernel
theorem dx_L_lent_17 : decode prog_1_method_21_code 17 = .ok (.istore_n 2, 1) := by decide +kernel
theorem dx_L_lent_18 : decode prog_1_method_21_code 18 = .ok (.iconst 0, 1) := by decide +kernel
theorem dx_L_lent_19 : decode prog_1_method_21_code 19 = .ok (.istore_n 3, 1) := by decide +kernel
theorem dx_L_lent_2 : decode prog_1_method_21_code 2 = .ok (.invokestatic 77, 3) := by decide +kernel
theorem dx_L_lent_20 : decode prog_1_method_21_code 20 = .ok (.iconst 1, 1) := by decide +kernel
theorem dx_L_lent_21 : decode prog_1_method_21_code 21 = .ok (.istore 4, 2) := by decide +kernel
theorem dx_L_lent_23 : decode prog_1_method_21_code 23 = .ok (.iload 4, 2) := by decide +kernel
theorem dx_L_lent_25 : decode prog_1_method_21_code 25 = .ok (.iconst 1, 1) := by decide +kernel
theorem dx_L_lent_26 : decode prog_1_method_21_code 26 = .ok (.aload_n 0, 1) := by decide +kernel
theorem dx_L_lent_27 : decode prog_1_method_21_code 27 = .ok (.getfield 10, 3) := by decide +kernel
theorem dx_L_lent_30 : decode prog_1_method_21_code 30 = .ok (.getfield 226, 3) := by decide +kernel
theorem dx_L_lent_33 : decode prog_1_method_21_code 33 = .ok (.ishl, 1) := by decide +kernel
theorem dx_L_lent_34 : decode prog_1_method_21_code 34 = .ok (.if_icmp .ge 57, 3) := by decide +kernel
theorem dx_L_lent_37 : decode prog_1_method_21_code 37 = .ok (.iload 4, 2) := by decide +kernel
theorem dx_L_lent_39 : decode prog_1_method_21_code 39 = .ok (.invokestatic 235, 3) := by decide +kernel
theorem dx_L_lent_42 : decode prog_1_method_21_code 42 = .ok (.iload_n 3, 1) := by decide +kernel
theorem dx_L_lent_43 : decode prog_1_method_21_code 43 = .ok (.invokestatic 235, 3) := by decide +kernel
theorem dx_L_lent_46 : decode prog_1_method_21_code 46 = .ok (.if_icmp .le 7, 3) := by decide +kernel
theorem dx_L_lent_49 : decode prog_1_method_21_code 49 = .ok (.iconst 1, 1) := by decide +kernel
theorem dx_L_lent_5 : decode prog_1_method_21_code 5 = .ok (.ifCond .ne 8, 3) := by decide +kernel
theorem dx_L_lent_50 : decode prog_1_method_21_code 50 = .ok (.goto 4, 3) := by decide +kernel
theorem dx_L_lent_53 : decode prog_1_method_21_code 53 = .ok (.iconst 0, 1) := by decide +kernel
theorem dx_L_lent_54 : decode prog_1_method_21_code 54 = .ok (.istore 5, 2) := by decide +kernel
theorem dx_L_lent_56 : decode prog_1_method_21_code 56 = .ok (.iload 5, 2) := by decide +kernel
theorem dx_L_lent_58 : decode prog_1_method_21_code 58 = .ok (.ifCond .eq 27, 3) := by decide +kernel
theorem dx_L_lent_61 : decode prog_1_method_21_code 61 = .ok (.iload 4, 2) := by decide +kernel
theorem dx_L_lent_63 : decode prog_1_method_21_code 63 = .ok (.iload_n 2, 1) := by decide +kernel
theorem dx_L_lent_64 : decode prog_1_method_21_code 64 = .ok (.iconst (-1), 1) := by decide +kernel
theorem dx_L_lent_65 : decode prog_1_method_21_code 65 = .ok (.ixor, 1) := by decide +kernel
theorem dx_L_lent_66 : decode prog_1_method_21_code 66 = .ok (.iand, 1) := by decide +kernel
theorem dx_L_lent_67 : decode prog_1_method_21_code 67 = .ok (.ifCond .ne 18, 3) := by decide +kernel
theorem dx_L_lent_70 : decode prog_1_method_21_code 70 = .ok (.aload_n 0, 1) := by decide +kernel
theorem dx_L_lent_71 : decode prog_1_method_21_code 71 = .ok (.getfield 10, 3) := by decide +kernel
theorem dx_L_lent_74 : decode prog_1_method_21_code 74 = .ok (.iload 4, 2) := by decide +kernel
theorem dx_L_lent_76 : decode prog_1_method_21_code 76 = .ok (.invokevirtual 240, 3) := by decide +kernel
theorem dx_L_lent_79 : decode prog_1_method_21_code 79 = .ok (.ifCond .ne 6, 3) := by decide +kernel
theorem dx_L_lent_8 : decode prog_1_method_21_code 8 = .ok (.aload_n 0, 1) := by decide +kernel
theorem dx_L_lent_82 : decode prog_1_method_21_code 82 = .ok (.iload 4, 2) := by decide +kernel
theorem dx_L_lent_84 : decode prog_1_method_21_code 84 = .ok (.istore_n 3, 1) := by decide +kernel
theorem dx_L_lent_85 : decode prog_1_method_21_code 85 = .ok (.iinc 4 1, 3) := by decide +kernel
theorem dx_L_lent_88 : decode prog_1_method_21_code 88 = .ok (.goto (-65), 3) := by decide +kernel
theorem dx_L_lent_9 : decode prog_1_method_21_code 9 = .ok (.invokevirtual 81, 3) := by decide +kernel
theorem dx_L_lent_91 : decode prog_1_method_21_code 91 = .ok (.iload_n 1, 1) := by decide +kernel
theorem dx_L_lent_92 : decode prog_1_method_21_code 92 = .ok (.ifCond .ne 10, 3) := by decide +kernel
theorem dx_L_lent_95 : decode prog_1_method_21_code 95 = .ok (.iload_n 3, 1) := by decide +kernel
theorem dx_L_lent_96 : decode prog_1_method_21_code 96 = .ok (.invokestatic 235, 3) := by decide +kernel
theorem dx_L_lent_99 : decode prog_1_method_21_code 99 = .ok (.goto 4, 3) := by decide +kernel
theorem dx_L_limb_0 : decode prog_1_method_25_code 0 = .ok (.iload_n 1, 1) := by decide +kernel
theorem dx_L_limb_1 : decode prog_1_method_25_code 1 = .ok (.iconst 1, 1) := by decide +kernel
theorem dx_L_limb_12 : decode prog_1_method_25_code 12 = .ok (.aload_n 0, 1) := by decide +kernel
theorem dx_L_limb_13 : decode prog_1_method_25_code 13 = .ok (.invokevirtual 81, 3) := by decide +kernel
theorem dx_L_limb_16 : decode prog_1_method_25_code 16 = .ok (.ireturn, 1) := by decide +kernel
theorem dx_L_limb_17 : decode prog_1_method_25_code 17 = .ok (.aload_n 0, 1) := by decide +kernel
theorem dx_L_limb_18 : decode prog_1_method_25_code 18 = .ok (.getfield 34, 3) := by decide +kernel
theorem dx_L_limb_2 : decode prog_1_method_25_code 2 = .ok (.invokestatic 77, 3) := by decide +kernel
theorem dx_L_limb_21 : decode prog_1_method_25_code 21 = .ok (.iload_n 1, 1) := by decide +kernel
theorem dx_L_limb_22 : decode prog_1_method_25_code 22 = .ok (.iload_n 2, 1) := by decide +kernel
theorem dx_L_limb_23 : decode prog_1_method_25_code 23 = .ok (.invokevirtual 252, 3) := by decide +kernel
theorem dx_L_limb_26 : decode prog_1_method_25_code 26 = .ok (.ireturn, 1) := by decide +kernel
theorem dx_L_limb_5 : decode prog_1_method_25_code 5 = .ok (.ifCond .eq 7, 3) := by decide +kernel
theorem dx_L_limb_8 : decode prog_1_method_25_code 8 = .ok (.iload_n 2, 1) := by decide +kernel
theorem dx_L_limb_9 : decode prog_1_method_25_code 9 = .ok (.ifCond .ge 8, 3) := by decide +kernel
theorem dx_L_morning_0 : decode prog_1_method_17_code 0 = .ok (.iload_n 1, 1) := by decide +kernel
theorem dx_L_morning_1 : decode prog_1_method_17_code 1 = .ok (.iload_n 2, 1) := by decide +kernel
theorem dx_L_morning_10 : decode prog_1_method_17_code 10 = .ok (.if_icmp .ge 11, 3) := by decide +kernel
theorem dx_L_morning_13 : decode prog_1_method_17_code 13 = .ok (.aload_n 0, 1) := by decide +kernel
theorem dx_L_morning_14 : decode prog_1_method_17_code 14 = .ok (.invokevirtual 81, 3) := by decide +kernel
theorem dx_L_morning_17 : decode prog_1_method_17_code 17 = .ok (.pop, 1) := by decide +kernel
theorem dx_L_morning_18 : decode prog_1_method_17_code 18 = .ok (.bipush (-10), 2) := by decide +kernel
theorem dx_L_morning_2 : decode prog_1_method_17_code 2 = .ok (.invokestatic 216, 3) := by decide +kernel
theorem dx_L_morning_20 : decode prog_1_method_17_code 20 = .ok (.ireturn, 1) := by decide +kernel
theorem dx_L_morning_21 : decode prog_1_method_17_code 21 = .ok (.aload_n 0, 1) := by decide +kernel
theorem dx_L_morning_22 : decode prog_1_method_17_code 22 = .ok (.getfield 10, 3) := by decide +kernel
theorem dx_L_morning_25 : decode prog_1_method_17_code 25 = .ok (.invokevirtual 219, 3) := by decide +kernel
theorem dx_L_morning_28 : decode prog_1_method_17_code 28 = .ok (.istore 4, 2) := by decide +kernel
theorem dx_L_morning_30 : decode prog_1_method_17_code 30 = .ok (.iconst 0, 1) := by decide +kernel
theorem dx_L_morning_31 : decode prog_1_method_17_code 31 = .ok (.istore 5, 2) := by decide +kernel
theorem dx_L_morning_33 : decode prog_1_method_17_code 33 = .ok (.iconst 1, 1) := by decide +kernel
theorem dx_L_morning_34 : decode prog_1_method_17_code 34 = .ok (.istore 6, 2) := by decide +kernel
theorem dx_L_morning_36 : decode prog_1_method_17_code 36 = .ok (.iload 6, 2) := by decide +kernel
theorem dx_L_morning_38 : decode prog_1_method_17_code 38 = .ok (.sipush 256, 3) := by decide +kernel
theorem dx_L_morning_41 : decode prog_1_method_17_code 41 = .ok (.if_icmp .ge 42, 3) := by decide +kernel
theorem dx_L_morning_44 : decode prog_1_method_17_code 44 = .ok (.iload 6, 2) := by decide +kernel
theorem dx_L_morning_46 : decode prog_1_method_17_code 46 = .ok (.iload 4, 2) := by decide +kernel
theorem dx_L_morning_48 : decode prog_1_method_17_code 48 = .ok (.iconst (-1), 1) := by decide +kernel
theorem dx_L_morning_49 : decode prog_1_method_17_code 49 = .ok (.ixor, 1) := by decide +kernel
theorem dx_L_morning_5 : decode prog_1_method_17_code 5 = .ok (.ifCond .eq 8, 3) := by decide +kernel
theorem dx_L_morning_50 : decode prog_1_method_17_code 50 = .ok (.iand, 1) := by decide +kernel
theorem dx_L_morning_51 : decode prog_1_method_17_code 51 = .ok (.ifCond .ne 26, 3) := by decide +kernel
theorem dx_L_morning_54 : decode prog_1_method_17_code 54 = .ok (.aload_n 0, 1) := by decide +kernel
theorem dx_L_morning_55 : decode prog_1_method_17_code 55 = .ok (.iload 6, 2) := by decide +kernel
theorem dx_L_morning_57 : decode prog_1_method_17_code 57 = .ok (.iload_n 1, 1) := by decide +kernel
theorem dx_L_morning_58 : decode prog_1_method_17_code 58 = .ok (.iload_n 2, 1) := by decide +kernel
theorem dx_L_morning_59 : decode prog_1_method_17_code 59 = .ok (.invokevirtual 222, 3) := by decide +kernel
theorem dx_L_morning_62 : decode prog_1_method_17_code 62 = .ok (.ifCond .eq 15, 3) := by decide +kernel
theorem dx_L_morning_65 : decode prog_1_method_17_code 65 = .ok (.iload 5, 2) := by decide +kernel
theorem dx_L_morning_67 : decode prog_1_method_17_code 67 = .ok (.iload_n 3, 1) := by decide +kernel
theorem dx_L_morning_68 : decode prog_1_method_17_code 68 = .ok (.if_icmp .ne 6, 3) := by decide +kernel
theorem dx_L_morning_71 : decode prog_1_method_17_code 71 = .ok (.iload 6, 2) := by decide +kernel
theorem dx_L_morning_73 : decode prog_1_method_17_code 73 = .ok (.ireturn, 1) := by decide +kernel
theorem dx_L_morning_74 : decode prog_1_method_17_code 74 = .ok (.iinc 5 1, 3) := by decide +kernel
theorem dx_L_morning_77 : decode prog_1_method_17_code 77 = .ok (.iinc 6 1, 3) := by decide +kernel
theorem dx_L_morning_8 : decode prog_1_method_17_code 8 = .ok (.iload_n 3, 1) := by decide +kernel
theorem dx_L_morning_80 : decode prog_1_method_17_code 80 = .ok (.goto (-44), 3) := by decide +kernel
theorem dx_L_morning_83 : decode prog_1_method_17_code 83 = .ok (.iload_n 3, 1) := by decide +kernel
theorem dx_L_morning_84 : decode prog_1_method_17_code 84 = .ok (.iconst (-1), 1) := by decide +kernel
theorem dx_L_morning_85 : decode prog_1_method_17_code 85 = .ok (.if_icmp .ne 8, 3) := by decide +kernel
theorem dx_L_morning_88 : decode prog_1_method_17_code 88 = .ok (.iload 5, 2) := by decide +kernel
theorem dx_L_morning_9 : decode prog_1_method_17_code 9 = .ok (.iconst (-1), 1) := by decide +kernel
theorem dx_L_morning_90 : decode prog_1_method_17_code 90 = .ok (.goto 5, 3) := by decide +kernel
theorem dx_L_morning_93 : decode prog_1_method_17_code 93 = .ok (.bipush (-5), 2) := by decide +kernel
theorem dx_L_morning_95 : decode prog_1_method_17_code 95 = .ok (.ireturn, 1) := by decide +kernel
theorem dx_L_moves_0 : decode prog_1_method_14_code 0 = .ok (.aload_n 0, 1) := by decide +kernel
theorem dx_L_moves_1 : decode prog_1_method_14_code 1 = .ok (.getfield 10, 3) := by decide +kernel
theorem dx_L_moves_102 : decode prog_1_method_14_code 102 = .ok (.iload 5, 2) := by decide +kernel
theorem dx_L_moves_104 : decode prog_1_method_14_code 104 = .ok (.ifCond .ne 6, 3) := by decide +kernel
theorem dx_L_moves_107 : decode prog_1_method_14_code 107 = .ok (.iload 7, 2) := by decide +kernel
theorem dx_L_moves_109 : decode prog_1_method_14_code 109 = .ok (.ireturn, 1) := by decide +kernel
theorem dx_L_moves_11 : decode prog_1_method_14_code 11 = .ok (.iload_n 2, 1) := by decide +kernel
theorem dx_L_moves_110 : decode prog_1_method_14_code 110 = .ok (.iload 5, 2) := by decide +kernel
theorem dx_L_moves_112 : decode prog_1_method_14_code 112 = .ok (.iload 7, 2) := by decide +kernel
theorem dx_L_moves_114 : decode prog_1_method_14_code 114 = .ok (.if_icmp .le 6, 3) := by decide +kernel
theorem dx_L_moves_117 : decode prog_1_method_14_code 117 = .ok (.bipush (-5), 2) := by decide +kernel
theorem dx_L_moves_119 : decode prog_1_method_14_code 119 = .ok (.ireturn, 1) := by decide +kernel
theorem dx_L_moves_12 : decode prog_1_method_14_code 12 = .ok (.ifCond .lt 18, 3) := by decide +kernel
theorem dx_L_moves_120 : decode prog_1_method_14_code 120 = .ok (.iload 5, 2) := by decide +kernel
theorem dx_L_moves_122 : decode prog_1_method_14_code 122 = .ok (.iconst 1, 1) := by decide +kernel
theorem dx_L_moves_123 : decode prog_1_method_14_code 123 = .ok (.if_icmp .ne 20, 3) := by decide +kernel
theorem dx_L_moves_126 : decode prog_1_method_14_code 126 = .ok (.aload_n 0, 1) := by decide +kernel
theorem dx_L_moves_127 : decode prog_1_method_14_code 127 = .ok (.getfield 62, 3) := by decide +kernel
theorem dx_L_moves_130 : decode prog_1_method_14_code 130 = .ok (.aload_n 0, 1) := by decide +kernel
theorem dx_L_moves_131 : decode prog_1_method_14_code 131 = .ok (.getfield 62, 3) := by decide +kernel
theorem dx_L_moves_134 : decode prog_1_method_14_code 134 = .ok (.getfield 195, 3) := by decide +kernel
theorem dx_L_moves_137 : decode prog_1_method_14_code 137 = .ok (.invokevirtual 198, 3) := by decide +kernel
theorem dx_L_moves_140 : decode prog_1_method_14_code 140 = .ok (.goto 17, 3) := by decide +kernel
theorem dx_L_moves_143 : decode prog_1_method_14_code 143 = .ok (.aload_n 0, 1) := by decide +kernel
theorem dx_L_moves_144 : decode prog_1_method_14_code 144 = .ok (.getfield 62, 3) := by decide +kernel
theorem dx_L_moves_147 : decode prog_1_method_14_code 147 = .ok (.aload_n 0, 1) := by decide +kernel
theorem dx_L_moves_148 : decode prog_1_method_14_code 148 = .ok (.getfield 62, 3) := by decide +kernel
theorem dx_L_moves_15 : decode prog_1_method_14_code 15 = .ok (.iload_n 2, 1) := by decide +kernel
theorem dx_L_moves_151 : decode prog_1_method_14_code 151 = .ok (.getfield 202, 3) := by decide +kernel
theorem dx_L_moves_154 : decode prog_1_method_14_code 154 = .ok (.invokevirtual 198, 3) := by decide +kernel
theorem dx_L_moves_157 : decode prog_1_method_14_code 157 = .ok (.ireturn, 1) := by decide +kernel
theorem dx_L_moves_16 : decode prog_1_method_14_code 16 = .ok (.iload_n 3, 1) := by decide +kernel
theorem dx_L_moves_17 : decode prog_1_method_14_code 17 = .ok (.if_icmp .gt 13, 3) := by decide +kernel
theorem dx_L_moves_20 : decode prog_1_method_14_code 20 = .ok (.iload_n 3, 1) := by decide +kernel
theorem dx_L_moves_21 : decode prog_1_method_14_code 21 = .ok (.bipush 12, 2) := by decide +kernel
theorem dx_L_moves_23 : decode prog_1_method_14_code 23 = .ok (.if_icmp .gt 7, 3) := by decide +kernel
theorem dx_L_moves_26 : decode prog_1_method_14_code 26 = .ok (.iconst 1, 1) := by decide +kernel
theorem dx_L_moves_27 : decode prog_1_method_14_code 27 = .ok (.goto 4, 3) := by decide +kernel
theorem dx_L_moves_30 : decode prog_1_method_14_code 30 = .ok (.iconst 0, 1) := by decide +kernel
theorem dx_L_moves_31 : decode prog_1_method_14_code 31 = .ok (.istore 6, 2) := by decide +kernel
theorem dx_L_moves_33 : decode prog_1_method_14_code 33 = .ok (.iload 6, 2) := by decide +kernel
theorem dx_L_moves_35 : decode prog_1_method_14_code 35 = .ok (.ifCond .eq 24, 3) := by decide +kernel
theorem dx_L_moves_38 : decode prog_1_method_14_code 38 = .ok (.iload 4, 2) := by decide +kernel
theorem dx_L_moves_4 : decode prog_1_method_14_code 4 = .ok (.iload_n 1, 1) := by decide +kernel
theorem dx_L_moves_40 : decode prog_1_method_14_code 40 = .ok (.iconst 1, 1) := by decide +kernel
theorem dx_L_moves_41 : decode prog_1_method_14_code 41 = .ok (.if_icmp .lt 18, 3) := by decide +kernel
theorem dx_L_moves_44 : decode prog_1_method_14_code 44 = .ok (.iload 4, 2) := by decide +kernel
theorem dx_L_moves_46 : decode prog_1_method_14_code 46 = .ok (.iconst 3, 1) := by decide +kernel
theorem dx_L_moves_47 : decode prog_1_method_14_code 47 = .ok (.if_icmp .gt 12, 3) := by decide +kernel
theorem dx_L_moves_5 : decode prog_1_method_14_code 5 = .ok (.invokevirtual 135, 3) := by decide +kernel
theorem dx_L_moves_50 : decode prog_1_method_14_code 50 = .ok (.iload 5, 2) := by decide +kernel
theorem dx_L_moves_52 : decode prog_1_method_14_code 52 = .ok (.iconst 2, 1) := by decide +kernel
theorem dx_L_moves_53 : decode prog_1_method_14_code 53 = .ok (.invokestatic 77, 3) := by decide +kernel
theorem dx_L_moves_56 : decode prog_1_method_14_code 56 = .ok (.ifCond .ne 11, 3) := by decide +kernel
theorem dx_L_moves_59 : decode prog_1_method_14_code 59 = .ok (.aload_n 0, 1) := by decide +kernel
theorem dx_L_moves_60 : decode prog_1_method_14_code 60 = .ok (.invokevirtual 81, 3) := by decide +kernel
theorem dx_L_moves_63 : decode prog_1_method_14_code 63 = .ok (.pop, 1) := by decide +kernel
theorem dx_L_moves_64 : decode prog_1_method_14_code 64 = .ok (.bipush (-10), 2) := by decide +kernel
theorem dx_L_moves_66 : decode prog_1_method_14_code 66 = .ok (.ireturn, 1) := by decide +kernel
theorem dx_L_moves_67 : decode prog_1_method_14_code 67 = .ok (.aload_n 0, 1) := by decide +kernel
theorem dx_L_moves_68 : decode prog_1_method_14_code 68 = .ok (.getfield 62, 3) := by decide +kernel
theorem dx_L_moves_71 : decode prog_1_method_14_code 71 = .ok (.iload_n 1, 1) := by decide +kernel
theorem dx_L_moves_72 : decode prog_1_method_14_code 72 = .ok (.iload_n 2, 1) := by decide +kernel
theorem dx_L_moves_73 : decode prog_1_method_14_code 73 = .ok (.iload_n 3, 1) := by decide +kernel
theorem dx_L_moves_74 : decode prog_1_method_14_code 74 = .ok (.iload 4, 2) := by decide +kernel
theorem dx_L_moves_76 : decode prog_1_method_14_code 76 = .ok (.invokevirtual 187, 3) := by decide +kernel
theorem dx_L_moves_79 : decode prog_1_method_14_code 79 = .ok (.aload_n 0, 1) := by decide +kernel
theorem dx_L_moves_8 : decode prog_1_method_14_code 8 = .ok (.ifCond .eq 22, 3) := by decide +kernel
theorem dx_L_moves_80 : decode prog_1_method_14_code 80 = .ok (.getfield 62, 3) := by decide +kernel
theorem dx_L_moves_83 : decode prog_1_method_14_code 83 = .ok (.aload_n 0, 1) := by decide +kernel
theorem dx_L_moves_84 : decode prog_1_method_14_code 84 = .ok (.getfield 10, 3) := by decide +kernel
theorem dx_L_moves_87 : decode prog_1_method_14_code 87 = .ok (.aload_n 0, 1) := by decide +kernel
theorem dx_L_moves_88 : decode prog_1_method_14_code 88 = .ok (.getfield 48, 3) := by decide +kernel
theorem dx_L_moves_91 : decode prog_1_method_14_code 91 = .ok (.invokevirtual 191, 3) := by decide +kernel
theorem dx_L_moves_94 : decode prog_1_method_14_code 94 = .ok (.istore 7, 2) := by decide +kernel
theorem dx_L_moves_96 : decode prog_1_method_14_code 96 = .ok (.iload 7, 2) := by decide +kernel
theorem dx_L_moves_98 : decode prog_1_method_14_code 98 = .ok (.iconst (-1), 1) := by decide +kernel
theorem dx_L_moves_99 : decode prog_1_method_14_code 99 = .ok (.if_icmp .eq 8, 3) := by decide +kernel
theorem dx_L_putHours_0 : decode prog_1_method_42_code 0 = .ok (.iload_n 1, 1) := by decide +kernel
theorem dx_L_putHours_1 : decode prog_1_method_42_code 1 = .ok (.iconst 4, 1) := by decide +kernel
theorem dx_L_putHours_10 : decode prog_1_method_42_code 10 = .ok (.iastore, 1) := by decide +kernel
theorem dx_L_putHours_11 : decode prog_1_method_42_code 11 = .ok (.iload_n 2, 1) := by decide +kernel
theorem dx_L_putHours_12 : decode prog_1_method_42_code 12 = .ok (.iconst 4, 1) := by decide +kernel
theorem dx_L_putHours_13 : decode prog_1_method_42_code 13 = .ok (.if_icmp .ge 9, 3) := by decide +kernel
theorem dx_L_putHours_16 : decode prog_1_method_42_code 16 = .ok (.aload_n 0, 1) := by decide +kernel
theorem dx_L_putHours_17 : decode prog_1_method_42_code 17 = .ok (.iload_n 2, 1) := by decide +kernel
theorem dx_L_putHours_18 : decode prog_1_method_42_code 18 = .ok (.aaload, 1) := by decide +kernel
theorem dx_L_putHours_19 : decode prog_1_method_42_code 19 = .ok (.iload_n 1, 1) := by decide +kernel
theorem dx_L_putHours_2 : decode prog_1_method_42_code 2 = .ok (.if_icmp .ge 9, 3) := by decide +kernel
theorem dx_L_putHours_20 : decode prog_1_method_42_code 20 = .ok (.iload_n 3, 1) := by decide +kernel
theorem dx_L_putHours_21 : decode prog_1_method_42_code 21 = .ok (.iastore, 1) := by decide +kernel
theorem dx_L_putHours_22 : decode prog_1_method_42_code 22 = .ok (.return_, 1) := by decide +kernel
theorem dx_L_putHours_5 : decode prog_1_method_42_code 5 = .ok (.aload_n 0, 1) := by decide +kernel
theorem dx_L_putHours_6 : decode prog_1_method_42_code 6 = .ok (.iload_n 1, 1) := by decide +kernel
theorem dx_L_putHours_7 : decode prog_1_method_42_code 7 = .ok (.aaload, 1) := by decide +kernel
theorem dx_L_putHours_8 : decode prog_1_method_42_code 8 = .ok (.iload_n 2, 1) := by decide +kernel
theorem dx_L_putHours_9 : decode prog_1_method_42_code 9 = .ok (.iload_n 3, 1) := by decide +kernel
theorem dx_L_read_0 : decode prog_1_method_8_code 0 = .ok (.aload_n 0, 1) := by decide +kernel
theorem dx_L_read_1 : decode prog_1_method_8_code 1 = .ok (.getfield 27, 3) := by decide +kernel
theorem dx_L_read_10 : decode prog_1_method_8_code 10 = .ok (.ifCond .lt 22, 3) := by decide +kernel
theorem dx_L_read_13 : decode prog_1_method_8_code 13 = .ok (.aload_n 0, 1) := by decide +kernel
theorem dx_L_read_14 : decode prog_1_method_8_code 14 = .ok (.getfield 10, 3) := by decide +kernel
theorem dx_L_read_17 : decode prog_1_method_8_code 17 = .ok (.invokevirtual 132, 3) := by decide +kernel
theorem dx_L_read_20 : decode prog_1_method_8_code 20 = .ok (.aload_n 0, 1) := by decide +kernel
theorem dx_L_read_21 : decode prog_1_method_8_code 21 = .ok (.getfield 27, 3) := by decide +kernel
theorem dx_L_read_24 : decode prog_1_method_8_code 24 = .ok (.aload_n 0, 1) := by decide +kernel
theorem dx_L_read_25 : decode prog_1_method_8_code 25 = .ok (.getfield 10, 3) := by decide +kernel
theorem dx_L_read_28 : decode prog_1_method_8_code 28 = .ok (.invokevirtual 128, 3) := by decide +kernel
theorem dx_L_read_31 : decode prog_1_method_8_code 31 = .ok (.pop, 1) := by decide +kernel
theorem dx_L_read_32 : decode prog_1_method_8_code 32 = .ok (.iload_n 1, 1) := by decide +kernel
theorem dx_L_read_33 : decode prog_1_method_8_code 33 = .ok (.ireturn, 1) := by decide +kernel
theorem dx_L_read_4 : decode prog_1_method_8_code 4 = .ok (.aconst_null, 1) := by decide +kernel
theorem dx_L_read_5 : decode prog_1_method_8_code 5 = .ok (.invokevirtual 128, 3) := by decide +kernel
theorem dx_L_read_8 : decode prog_1_method_8_code 8 = .ok (.istore_n 1, 1) := by decide +kernel
theorem dx_L_read_9 : decode prog_1_method_8_code 9 = .ok (.iload_n 1, 1) := by decide +kernel
theorem dx_L_refuse_0 : decode prog_1_method_20_code 0 = .ok (.aload_n 0, 1) := by decide +kernel
theorem dx_L_refuse_1 : decode prog_1_method_20_code 1 = .ok (.getfield 10, 3) := by decide +kernel
theorem dx_L_refuse_12 : decode prog_1_method_20_code 12 = .ok (.iconst 0, 1) := by decide +kernel
theorem dx_L_refuse_13 : decode prog_1_method_20_code 13 = .ok (.putfield 226, 3) := by decide +kernel
theorem dx_L_refuse_16 : decode prog_1_method_20_code 16 = .ok (.iload_n 1, 1) := by decide +kernel
theorem dx_L_refuse_17 : decode prog_1_method_20_code 17 = .ok (.ireturn, 1) := by decide +kernel
theorem dx_L_refuse_4 : decode prog_1_method_20_code 4 = .ok (.getfield 226, 3) := by decide +kernel
theorem dx_L_refuse_7 : decode prog_1_method_20_code 7 = .ok (.istore_n 1, 1) := by decide +kernel
theorem dx_L_refuse_8 : decode prog_1_method_20_code 8 = .ok (.aload_n 0, 1) := by decide +kernel
theorem dx_L_refuse_9 : decode prog_1_method_20_code 9 = .ok (.getfield 10, 3) := by decide +kernel
theorem dx_L_refusedBad_0 : decode prog_1_method_32_code 0 = .ok (.aload_n 0, 1) := by decide +kernel
theorem dx_L_refusedBad_1 : decode prog_1_method_32_code 1 = .ok (.dup, 1) := by decide +kernel
theorem dx_L_refusedBad_10 : decode prog_1_method_32_code 10 = .ok (.bipush (-2), 2) := by decide +kernel
theorem dx_L_refusedBad_12 : decode prog_1_method_32_code 12 = .ok (.ireturn, 1) := by decide +kernel
theorem dx_L_refusedBad_2 : decode prog_1_method_32_code 2 = .ok (.getfield 260, 3) := by decide +kernel
theorem dx_L_refusedBad_5 : decode prog_1_method_32_code 5 = .ok (.iconst 1, 1) := by decide +kernel
theorem dx_L_refusedBad_6 : decode prog_1_method_32_code 6 = .ok (.iadd, 1) := by decide +kernel
theorem dx_L_refusedBad_7 : decode prog_1_method_32_code 7 = .ok (.putfield 260, 3) := by decide +kernel
theorem dx_L_refusedFull_0 : decode prog_1_method_34_code 0 = .ok (.aload_n 0, 1) := by decide +kernel
theorem dx_L_refusedFull_1 : decode prog_1_method_34_code 1 = .ok (.dup, 1) := by decide +kernel
theorem dx_L_refusedFull_10 : decode prog_1_method_34_code 10 = .ok (.bipush (-4), 2) := by decide +kernel
theorem dx_L_refusedFull_12 : decode prog_1_method_34_code 12 = .ok (.ireturn, 1) := by decide +kernel
theorem dx_L_refusedFull_2 : decode prog_1_method_34_code 2 = .ok (.getfield 266, 3) := by decide +kernel
theorem dx_L_refusedFull_5 : decode prog_1_method_34_code 5 = .ok (.iconst 1, 1) := by decide +kernel
theorem dx_L_refusedFull_6 : decode prog_1_method_34_code 6 = .ok (.iadd, 1) := by decide +kernel
theorem dx_L_refusedFull_7 : decode prog_1_method_34_code 7 = .ok (.putfield 266, 3) := by decide +kernel
theorem dx_L_refusedNo_0 : decode prog_1_method_33_code 0 = .ok (.aload_n 0, 1) := by decide +kernel
theorem dx_L_refusedNo_1 : decode prog_1_method_33_code 1 = .ok (.dup, 1) := by decide +kernel
theorem dx_L_refusedNo_10 : decode prog_1_method_33_code 10 = .ok (.bipush (-3), 2) := by decide +kernel
theorem dx_L_refusedNo_12 : decode prog_1_method_33_code 12 = .ok (.ireturn, 1) := by decide +kernel
theorem dx_L_refusedNo_2 : decode prog_1_method_33_code 2 = .ok (.getfield 263, 3) := by decide +kernel
theorem dx_L_refusedNo_5 : decode prog_1_method_33_code 5 = .ok (.iconst 1, 1) := by decide +kernel
theorem dx_L_refusedNo_6 : decode prog_1_method_33_code 6 = .ok (.iadd, 1) := by decide +kernel
theorem dx_L_refusedNo_7 : decode prog_1_method_33_code 7 = .ok (.putfield 263, 3) := by decide +kernel
theorem dx_L_rest_0 : decode prog_1_method_13_code 0 = .ok (.aload_n 0, 1) := by decide +kernel
theorem dx_L_rest_1 : decode prog_1_method_13_code 1 = .ok (.getfield 10, 3) := by decide +kernel
theorem dx_L_rest_101 : decode prog_1_method_13_code 101 = .ok (.iconst 1, 1) := by decide +kernel
theorem dx_L_rest_102 : decode prog_1_method_13_code 102 = .ok (.ireturn, 1) := by decide +kernel
theorem dx_L_rest_11 : decode prog_1_method_13_code 11 = .ok (.aload_n 0, 1) := by decide +kernel
theorem dx_L_rest_12 : decode prog_1_method_13_code 12 = .ok (.invokevirtual 81, 3) := by decide +kernel
theorem dx_L_rest_15 : decode prog_1_method_13_code 15 = .ok (.ireturn, 1) := by decide +kernel
theorem dx_L_rest_16 : decode prog_1_method_13_code 16 = .ok (.aload_n 0, 1) := by decide +kernel
theorem dx_L_rest_17 : decode prog_1_method_13_code 17 = .ok (.getfield 10, 3) := by decide +kernel
theorem dx_L_rest_20 : decode prog_1_method_13_code 20 = .ok (.invokevirtual 180, 3) := by decide +kernel
theorem dx_L_rest_23 : decode prog_1_method_13_code 23 = .ok (.ifCond .eq 8, 3) := by decide +kernel
theorem dx_L_rest_26 : decode prog_1_method_13_code 26 = .ok (.aload_n 0, 1) := by decide +kernel
theorem dx_L_rest_27 : decode prog_1_method_13_code 27 = .ok (.invokevirtual 164, 3) := by decide +kernel
theorem dx_L_rest_30 : decode prog_1_method_13_code 30 = .ok (.ireturn, 1) := by decide +kernel
theorem dx_L_rest_31 : decode prog_1_method_13_code 31 = .ok (.aload_n 0, 1) := by decide +kernel
theorem dx_L_rest_32 : decode prog_1_method_13_code 32 = .ok (.getfield 48, 3) := by decide +kernel
theorem dx_L_rest_35 : decode prog_1_method_13_code 35 = .ok (.aload_n 0, 1) := by decide +kernel
theorem dx_L_rest_36 : decode prog_1_method_13_code 36 = .ok (.getfield 10, 3) := by decide +kernel
theorem dx_L_rest_39 : decode prog_1_method_13_code 39 = .ok (.aload_n 0, 1) := by decide +kernel
theorem dx_L_rest_4 : decode prog_1_method_13_code 4 = .ok (.iload_n 1, 1) := by decide +kernel
theorem dx_L_rest_40 : decode prog_1_method_13_code 40 = .ok (.getfield 10, 3) := by decide +kernel
theorem dx_L_rest_43 : decode prog_1_method_13_code 43 = .ok (.getfield 107, 3) := by decide +kernel
theorem dx_L_rest_46 : decode prog_1_method_13_code 46 = .ok (.aload_n 0, 1) := by decide +kernel
theorem dx_L_rest_47 : decode prog_1_method_13_code 47 = .ok (.getfield 10, 3) := by decide +kernel
theorem dx_L_rest_5 : decode prog_1_method_13_code 5 = .ok (.invokevirtual 135, 3) := by decide +kernel
theorem dx_L_rest_50 : decode prog_1_method_13_code 50 = .ok (.getfield 118, 3) := by decide +kernel
theorem dx_L_rest_53 : decode prog_1_method_13_code 53 = .ok (.invokevirtual 138, 3) := by decide +kernel
theorem dx_L_rest_56 : decode prog_1_method_13_code 56 = .ok (.aload_n 0, 1) := by decide +kernel
theorem dx_L_rest_57 : decode prog_1_method_13_code 57 = .ok (.getfield 55, 3) := by decide +kernel
theorem dx_L_rest_60 : decode prog_1_method_13_code 60 = .ok (.aload_n 0, 1) := by decide +kernel
theorem dx_L_rest_61 : decode prog_1_method_13_code 61 = .ok (.getfield 48, 3) := by decide +kernel
theorem dx_L_rest_64 : decode prog_1_method_13_code 64 = .ok (.iload_n 1, 1) := by decide +kernel
theorem dx_L_rest_65 : decode prog_1_method_13_code 65 = .ok (.aload_n 0, 1) := by decide +kernel
theorem dx_L_rest_66 : decode prog_1_method_13_code 66 = .ok (.getfield 41, 3) := by decide +kernel
theorem dx_L_rest_69 : decode prog_1_method_13_code 69 = .ok (.invokevirtual 183, 3) := by decide +kernel
theorem dx_L_rest_72 : decode prog_1_method_13_code 72 = .ok (.istore_n 2, 1) := by decide +kernel
theorem dx_L_rest_73 : decode prog_1_method_13_code 73 = .ok (.iload_n 2, 1) := by decide +kernel
theorem dx_L_rest_74 : decode prog_1_method_13_code 74 = .ok (.ifCond .gt 8, 3) := by decide +kernel
theorem dx_L_rest_77 : decode prog_1_method_13_code 77 = .ok (.aload_n 0, 1) := by decide +kernel
theorem dx_L_rest_78 : decode prog_1_method_13_code 78 = .ok (.invokevirtual 164, 3) := by decide +kernel
theorem dx_L_rest_8 : decode prog_1_method_13_code 8 = .ok (.ifCond .ne 8, 3) := by decide +kernel
theorem dx_L_rest_81 : decode prog_1_method_13_code 81 = .ok (.ireturn, 1) := by decide +kernel
theorem dx_L_rest_82 : decode prog_1_method_13_code 82 = .ok (.aload_n 0, 1) := by decide +kernel
theorem dx_L_rest_83 : decode prog_1_method_13_code 83 = .ok (.getfield 34, 3) := by decide +kernel
theorem dx_L_rest_86 : decode prog_1_method_13_code 86 = .ok (.aload_n 0, 1) := by decide +kernel
theorem dx_L_rest_87 : decode prog_1_method_13_code 87 = .ok (.getfield 41, 3) := by decide +kernel
theorem dx_L_rest_90 : decode prog_1_method_13_code 90 = .ok (.aload_n 0, 1) := by decide +kernel
theorem dx_L_rest_91 : decode prog_1_method_13_code 91 = .ok (.getfield 10, 3) := by decide +kernel
theorem dx_L_rest_94 : decode prog_1_method_13_code 94 = .ok (.getfield 142, 3) := by decide +kernel
theorem dx_L_rest_97 : decode prog_1_method_13_code 97 = .ok (.iload_n 2, 1) := by decide +kernel
theorem dx_L_rest_98 : decode prog_1_method_13_code 98 = .ok (.invokevirtual 157, 3) := by decide +kernel
theorem dx_L_serves_0 : decode prog_1_method_38_code 0 = .ok (.aload_n 0, 1) := by decide +kernel
theorem dx_L_serves_1 : decode prog_1_method_38_code 1 = .ok (.getfield 10, 3) := by decide +kernel
theorem dx_L_serves_10 : decode prog_1_method_38_code 10 = .ok (.ifCond .eq 20, 3) := by decide +kernel
theorem dx_L_serves_13 : decode prog_1_method_38_code 13 = .ok (.aload_n 1, 1) := by decide +kernel
theorem dx_L_serves_14 : decode prog_1_method_38_code 14 = .ok (.aload_n 2, 1) := by decide +kernel
theorem dx_L_serves_15 : decode prog_1_method_38_code 15 = .ok (.iconst 0, 1) := by decide +kernel
theorem dx_L_serves_16 : decode prog_1_method_38_code 16 = .ok (.iaload, 1) := by decide +kernel
theorem dx_L_serves_17 : decode prog_1_method_38_code 17 = .ok (.aload_n 2, 1) := by decide +kernel
theorem dx_L_serves_18 : decode prog_1_method_38_code 18 = .ok (.iconst 3, 1) := by decide +kernel
theorem dx_L_serves_19 : decode prog_1_method_38_code 19 = .ok (.iaload, 1) := by decide +kernel
theorem dx_L_serves_20 : decode prog_1_method_38_code 20 = .ok (.invokevirtual 175, 3) := by decide +kernel
theorem dx_L_serves_23 : decode prog_1_method_38_code 23 = .ok (.ifCond .eq 7, 3) := by decide +kernel
theorem dx_L_serves_26 : decode prog_1_method_38_code 26 = .ok (.iconst 1, 1) := by decide +kernel
theorem dx_L_serves_27 : decode prog_1_method_38_code 27 = .ok (.goto 4, 3) := by decide +kernel
theorem dx_L_serves_30 : decode prog_1_method_38_code 30 = .ok (.iconst 0, 1) := by decide +kernel
theorem dx_L_serves_31 : decode prog_1_method_38_code 31 = .ok (.ireturn, 1) := by decide +kernel
theorem dx_L_serves_4 : decode prog_1_method_38_code 4 = .ok (.aload_n 2, 1) := by decide +kernel
theorem dx_L_serves_5 : decode prog_1_method_38_code 5 = .ok (.iconst 0, 1) := by decide +kernel
theorem dx_L_serves_6 : decode prog_1_method_38_code 6 = .ok (.iaload, 1) := by decide +kernel
theorem dx_L_serves_7 : decode prog_1_method_38_code 7 = .ok (.invokevirtual 135, 3) := by decide +kernel
theorem dx_L_shade_0 : decode prog_1_method_9_code 0 = .ok (.aload_n 0, 1) := by decide +kernel
theorem dx_L_shade_1 : decode prog_1_method_9_code 1 = .ok (.getfield 10, 3) := by decide +kernel
theorem dx_L_shade_11 : decode prog_1_method_9_code 11 = .ok (.iload_n 2, 1) := by decide +kernel
theorem dx_L_shade_12 : decode prog_1_method_9_code 12 = .ok (.bipush 12, 2) := by decide +kernel
theorem dx_L_shade_14 : decode prog_1_method_9_code 14 = .ok (.invokestatic 77, 3) := by decide +kernel
theorem dx_L_shade_17 : decode prog_1_method_9_code 17 = .ok (.ifCond .ne 8, 3) := by decide +kernel
theorem dx_L_shade_20 : decode prog_1_method_9_code 20 = .ok (.aload_n 0, 1) := by decide +kernel
theorem dx_L_shade_21 : decode prog_1_method_9_code 21 = .ok (.invokevirtual 81, 3) := by decide +kernel
theorem dx_L_shade_24 : decode prog_1_method_9_code 24 = .ok (.ireturn, 1) := by decide +kernel
theorem dx_L_shade_25 : decode prog_1_method_9_code 25 = .ok (.aload_n 0, 1) := by decide +kernel
theorem dx_L_shade_26 : decode prog_1_method_9_code 26 = .ok (.getfield 48, 3) := by decide +kernel
theorem dx_L_shade_29 : decode prog_1_method_9_code 29 = .ok (.aload_n 0, 1) := by decide +kernel
theorem dx_L_shade_30 : decode prog_1_method_9_code 30 = .ok (.getfield 10, 3) := by decide +kernel
theorem dx_L_shade_33 : decode prog_1_method_9_code 33 = .ok (.aload_n 0, 1) := by decide +kernel
theorem dx_L_shade_34 : decode prog_1_method_9_code 34 = .ok (.getfield 10, 3) := by decide +kernel
theorem dx_L_shade_37 : decode prog_1_method_9_code 37 = .ok (.getfield 107, 3) := by decide +kernel
theorem dx_L_shade_4 : decode prog_1_method_9_code 4 = .ok (.iload_n 1, 1) := by decide +kernel
theorem dx_L_shade_40 : decode prog_1_method_9_code 40 = .ok (.aload_n 0, 1) := by decide +kernel
theorem dx_L_shade_41 : decode prog_1_method_9_code 41 = .ok (.getfield 10, 3) := by decide +kernel
theorem dx_L_shade_44 : decode prog_1_method_9_code 44 = .ok (.getfield 118, 3) := by decide +kernel
theorem dx_L_shade_47 : decode prog_1_method_9_code 47 = .ok (.invokevirtual 138, 3) := by decide +kernel
theorem dx_L_shade_5 : decode prog_1_method_9_code 5 = .ok (.invokevirtual 135, 3) := by decide +kernel
theorem dx_L_shade_50 : decode prog_1_method_9_code 50 = .ok (.aload_n 0, 1) := by decide +kernel
theorem dx_L_shade_51 : decode prog_1_method_9_code 51 = .ok (.getfield 48, 3) := by decide +kernel
theorem dx_L_shade_54 : decode prog_1_method_9_code 54 = .ok (.aload_n 0, 1) := by decide +kernel
theorem dx_L_shade_55 : decode prog_1_method_9_code 55 = .ok (.getfield 10, 3) := by decide +kernel
theorem dx_L_shade_58 : decode prog_1_method_9_code 58 = .ok (.getfield 142, 3) := by decide +kernel
theorem dx_L_shade_61 : decode prog_1_method_9_code 61 = .ok (.iload_n 2, 1) := by decide +kernel
theorem dx_L_shade_62 : decode prog_1_method_9_code 62 = .ok (.invokevirtual 146, 3) := by decide +kernel
theorem dx_L_shade_65 : decode prog_1_method_9_code 65 = .ok (.astore_n 3, 1) := by decide +kernel
theorem dx_L_shade_66 : decode prog_1_method_9_code 66 = .ok (.aload_n 0, 1) := by decide +kernel
theorem dx_L_shade_67 : decode prog_1_method_9_code 67 = .ok (.getfield 41, 3) := by decide +kernel
theorem dx_L_shade_70 : decode prog_1_method_9_code 70 = .ok (.invokevirtual 150, 3) := by decide +kernel
theorem dx_L_shade_73 : decode prog_1_method_9_code 73 = .ok (.aload_n 0, 1) := by decide +kernel
theorem dx_L_shade_74 : decode prog_1_method_9_code 74 = .ok (.getfield 41, 3) := by decide +kernel
theorem dx_L_shade_77 : decode prog_1_method_9_code 77 = .ok (.getfield 153, 3) := by decide +kernel
theorem dx_L_shade_8 : decode prog_1_method_9_code 8 = .ok (.ifCond .eq 12, 3) := by decide +kernel
theorem dx_L_shade_80 : decode prog_1_method_9_code 80 = .ok (.iload_n 1, 1) := by decide +kernel
theorem dx_L_shade_81 : decode prog_1_method_9_code 81 = .ok (.lconst 1, 1) := by decide +kernel
theorem dx_L_shade_82 : decode prog_1_method_9_code 82 = .ok (.lastore, 1) := by decide +kernel
theorem dx_L_shade_83 : decode prog_1_method_9_code 83 = .ok (.aload_n 0, 1) := by decide +kernel
theorem dx_L_shade_84 : decode prog_1_method_9_code 84 = .ok (.getfield 34, 3) := by decide +kernel
theorem dx_L_shade_87 : decode prog_1_method_9_code 87 = .ok (.aload_n 0, 1) := by decide +kernel
theorem dx_L_shade_88 : decode prog_1_method_9_code 88 = .ok (.getfield 41, 3) := by decide +kernel
theorem dx_L_shade_91 : decode prog_1_method_9_code 91 = .ok (.aload_n 3, 1) := by decide +kernel
theorem dx_L_shade_92 : decode prog_1_method_9_code 92 = .ok (.iconst 1, 1) := by decide +kernel
theorem dx_L_shade_93 : decode prog_1_method_9_code 93 = .ok (.invokevirtual 157, 3) := by decide +kernel
theorem dx_L_shade_96 : decode prog_1_method_9_code 96 = .ok (.iconst 1, 1) := by decide +kernel
theorem dx_L_shade_97 : decode prog_1_method_9_code 97 = .ok (.ireturn, 1) := by decide +kernel
theorem dx_L_sign_0 : decode prog_1_method_24_code 0 = .ok (.iload_n 1, 1) := by decide +kernel
theorem dx_L_sign_1 : decode prog_1_method_24_code 1 = .ok (.iconst 2, 1) := by decide +kernel
theorem dx_L_sign_12 : decode prog_1_method_24_code 12 = .ok (.ireturn, 1) := by decide +kernel
theorem dx_L_sign_13 : decode prog_1_method_24_code 13 = .ok (.aload_n 0, 1) := by decide +kernel
theorem dx_L_sign_14 : decode prog_1_method_24_code 14 = .ok (.getfield 34, 3) := by decide +kernel
theorem dx_L_sign_17 : decode prog_1_method_24_code 17 = .ok (.iload_n 1, 1) := by decide +kernel
theorem dx_L_sign_18 : decode prog_1_method_24_code 18 = .ok (.invokevirtual 249, 3) := by decide +kernel
theorem dx_L_sign_2 : decode prog_1_method_24_code 2 = .ok (.invokestatic 77, 3) := by decide +kernel
theorem dx_L_sign_21 : decode prog_1_method_24_code 21 = .ok (.ireturn, 1) := by decide +kernel
theorem dx_L_sign_5 : decode prog_1_method_24_code 5 = .ok (.ifCond .ne 8, 3) := by decide +kernel
theorem dx_L_sign_8 : decode prog_1_method_24_code 8 = .ok (.aload_n 0, 1) := by decide +kernel
theorem dx_L_sign_9 : decode prog_1_method_24_code 9 = .ok (.invokevirtual 81, 3) := by decide +kernel
theorem dx_L_sleep_0 : decode prog_1_method_10_code 0 = .ok (.aload_n 0, 1) := by decide +kernel
theorem dx_L_sleep_1 : decode prog_1_method_10_code 1 = .ok (.getfield 10, 3) := by decide +kernel
theorem dx_L_sleep_12 : decode prog_1_method_10_code 12 = .ok (.aload_n 0, 1) := by decide +kernel
theorem dx_L_sleep_13 : decode prog_1_method_10_code 13 = .ok (.invokevirtual 164, 3) := by decide +kernel
theorem dx_L_sleep_16 : decode prog_1_method_10_code 16 = .ok (.ireturn, 1) := by decide +kernel
theorem dx_L_sleep_17 : decode prog_1_method_10_code 17 = .ok (.aload_n 0, 1) := by decide +kernel
theorem dx_L_sleep_18 : decode prog_1_method_10_code 18 = .ok (.getfield 48, 3) := by decide +kernel
theorem dx_L_sleep_21 : decode prog_1_method_10_code 21 = .ok (.aload_n 0, 1) := by decide +kernel
theorem dx_L_sleep_22 : decode prog_1_method_10_code 22 = .ok (.getfield 10, 3) := by decide +kernel
theorem dx_L_sleep_25 : decode prog_1_method_10_code 25 = .ok (.aload_n 0, 1) := by decide +kernel
theorem dx_L_sleep_26 : decode prog_1_method_10_code 26 = .ok (.getfield 10, 3) := by decide +kernel
theorem dx_L_sleep_29 : decode prog_1_method_10_code 29 = .ok (.getfield 107, 3) := by decide +kernel
theorem dx_L_sleep_32 : decode prog_1_method_10_code 32 = .ok (.aload_n 0, 1) := by decide +kernel
theorem dx_L_sleep_33 : decode prog_1_method_10_code 33 = .ok (.getfield 10, 3) := by decide +kernel
theorem dx_L_sleep_36 : decode prog_1_method_10_code 36 = .ok (.getfield 118, 3) := by decide +kernel
theorem dx_L_sleep_39 : decode prog_1_method_10_code 39 = .ok (.invokevirtual 138, 3) := by decide +kernel
theorem dx_L_sleep_4 : decode prog_1_method_10_code 4 = .ok (.getfield 161, 3) := by decide +kernel
theorem dx_L_sleep_42 : decode prog_1_method_10_code 42 = .ok (.aload_n 0, 1) := by decide +kernel
theorem dx_L_sleep_43 : decode prog_1_method_10_code 43 = .ok (.getfield 10, 3) := by decide +kernel
theorem dx_L_sleep_46 : decode prog_1_method_10_code 46 = .ok (.aload_n 0, 1) := by decide +kernel
theorem dx_L_sleep_47 : decode prog_1_method_10_code 47 = .ok (.getfield 48, 3) := by decide +kernel
theorem dx_L_sleep_50 : decode prog_1_method_10_code 50 = .ok (.aload_n 0, 1) := by decide +kernel
theorem dx_L_sleep_51 : decode prog_1_method_10_code 51 = .ok (.getfield 10, 3) := by decide +kernel
theorem dx_L_sleep_54 : decode prog_1_method_10_code 54 = .ok (.getfield 142, 3) := by decide +kernel
theorem dx_L_sleep_57 : decode prog_1_method_10_code 57 = .ok (.iconst 1, 1) := by decide +kernel
theorem dx_L_sleep_58 : decode prog_1_method_10_code 58 = .ok (.invokevirtual 146, 3) := by decide +kernel
theorem dx_L_sleep_61 : decode prog_1_method_10_code 61 = .ok (.invokevirtual 167, 3) := by decide +kernel
theorem dx_L_sleep_64 : decode prog_1_method_10_code 64 = .ok (.aload_n 0, 1) := by decide +kernel
theorem dx_L_sleep_65 : decode prog_1_method_10_code 65 = .ok (.getfield 10, 3) := by decide +kernel
theorem dx_L_sleep_68 : decode prog_1_method_10_code 68 = .ok (.getfield 161, 3) := by decide +kernel
theorem dx_L_sleep_7 : decode prog_1_method_10_code 7 = .ok (.bipush 12, 2) := by decide +kernel
theorem dx_L_sleep_71 : decode prog_1_method_10_code 71 = .ok (.ireturn, 1) := by decide +kernel
theorem dx_L_sleep_9 : decode prog_1_method_10_code 9 = .ok (.if_icmp .lt 8, 3) := by decide +kernel
theorem dx_L_soRed_0 : decode prog_1_method_12_code 0 = .ok (.aload_n 0, 1) := by decide +kernel
theorem dx_L_soRed_1 : decode prog_1_method_12_code 1 = .ok (.getfield 10, 3) := by decide +kernel
theorem dx_L_soRed_101 : decode prog_1_method_12_code 101 = .ok (.iconst (-1), 1) := by decide +kernel
theorem dx_L_soRed_102 : decode prog_1_method_12_code 102 = .ok (.ireturn, 1) := by decide +kernel
theorem dx_L_soRed_11 : decode prog_1_method_12_code 11 = .ok (.iload_n 2, 1) := by decide +kernel
theorem dx_L_soRed_12 : decode prog_1_method_12_code 12 = .ok (.bipush 12, 2) := by decide +kernel
theorem dx_L_soRed_14 : decode prog_1_method_12_code 14 = .ok (.invokestatic 77, 3) := by decide +kernel
theorem dx_L_soRed_17 : decode prog_1_method_12_code 17 = .ok (.ifCond .ne 8, 3) := by decide +kernel
theorem dx_L_soRed_20 : decode prog_1_method_12_code 20 = .ok (.aload_n 0, 1) := by decide +kernel
theorem dx_L_soRed_21 : decode prog_1_method_12_code 21 = .ok (.invokevirtual 81, 3) := by decide +kernel
theorem dx_L_soRed_24 : decode prog_1_method_12_code 24 = .ok (.ireturn, 1) := by decide +kernel
theorem dx_L_soRed_25 : decode prog_1_method_12_code 25 = .ok (.aload_n 0, 1) := by decide +kernel
theorem dx_L_soRed_26 : decode prog_1_method_12_code 26 = .ok (.getfield 48, 3) := by decide +kernel
theorem dx_L_soRed_29 : decode prog_1_method_12_code 29 = .ok (.aload_n 0, 1) := by decide +kernel
theorem dx_L_soRed_30 : decode prog_1_method_12_code 30 = .ok (.getfield 10, 3) := by decide +kernel
theorem dx_L_soRed_33 : decode prog_1_method_12_code 33 = .ok (.aload_n 0, 1) := by decide +kernel
theorem dx_L_soRed_34 : decode prog_1_method_12_code 34 = .ok (.getfield 10, 3) := by decide +kernel
theorem dx_L_soRed_37 : decode prog_1_method_12_code 37 = .ok (.getfield 107, 3) := by decide +kernel
theorem dx_L_soRed_4 : decode prog_1_method_12_code 4 = .ok (.iload_n 1, 1) := by decide +kernel
theorem dx_L_soRed_40 : decode prog_1_method_12_code 40 = .ok (.aload_n 0, 1) := by decide +kernel
theorem dx_L_soRed_41 : decode prog_1_method_12_code 41 = .ok (.getfield 10, 3) := by decide +kernel
theorem dx_L_soRed_44 : decode prog_1_method_12_code 44 = .ok (.getfield 118, 3) := by decide +kernel
theorem dx_L_soRed_47 : decode prog_1_method_12_code 47 = .ok (.invokevirtual 138, 3) := by decide +kernel
theorem dx_L_soRed_5 : decode prog_1_method_12_code 5 = .ok (.invokevirtual 135, 3) := by decide +kernel
theorem dx_L_soRed_50 : decode prog_1_method_12_code 50 = .ok (.aload_n 0, 1) := by decide +kernel
theorem dx_L_soRed_51 : decode prog_1_method_12_code 51 = .ok (.getfield 10, 3) := by decide +kernel
theorem dx_L_soRed_54 : decode prog_1_method_12_code 54 = .ok (.getfield 142, 3) := by decide +kernel
theorem dx_L_soRed_57 : decode prog_1_method_12_code 57 = .ok (.astore_n 3, 1) := by decide +kernel
theorem dx_L_soRed_58 : decode prog_1_method_12_code 58 = .ok (.iconst 0, 1) := by decide +kernel
theorem dx_L_soRed_59 : decode prog_1_method_12_code 59 = .ok (.istore 4, 2) := by decide +kernel
theorem dx_L_soRed_61 : decode prog_1_method_12_code 61 = .ok (.iload 4, 2) := by decide +kernel
theorem dx_L_soRed_63 : decode prog_1_method_12_code 63 = .ok (.bipush 12, 2) := by decide +kernel
theorem dx_L_soRed_65 : decode prog_1_method_12_code 65 = .ok (.if_icmp .gt 36, 3) := by decide +kernel
theorem dx_L_soRed_68 : decode prog_1_method_12_code 68 = .ok (.iload 4, 2) := by decide +kernel
theorem dx_L_soRed_70 : decode prog_1_method_12_code 70 = .ok (.ifCond .le 13, 3) := by decide +kernel
theorem dx_L_soRed_73 : decode prog_1_method_12_code 73 = .ok (.aload_n 0, 1) := by decide +kernel
theorem dx_L_soRed_74 : decode prog_1_method_12_code 74 = .ok (.getfield 48, 3) := by decide +kernel
theorem dx_L_soRed_77 : decode prog_1_method_12_code 77 = .ok (.aload_n 3, 1) := by decide +kernel
theorem dx_L_soRed_78 : decode prog_1_method_12_code 78 = .ok (.iconst 1, 1) := by decide +kernel
theorem dx_L_soRed_79 : decode prog_1_method_12_code 79 = .ok (.invokevirtual 146, 3) := by decide +kernel
theorem dx_L_soRed_8 : decode prog_1_method_12_code 8 = .ok (.ifCond .eq 12, 3) := by decide +kernel
theorem dx_L_soRed_82 : decode prog_1_method_12_code 82 = .ok (.astore_n 3, 1) := by decide +kernel
theorem dx_L_soRed_83 : decode prog_1_method_12_code 83 = .ok (.aload_n 3, 1) := by decide +kernel
theorem dx_L_soRed_84 : decode prog_1_method_12_code 84 = .ok (.iload_n 1, 1) := by decide +kernel
theorem dx_L_soRed_85 : decode prog_1_method_12_code 85 = .ok (.iload_n 2, 1) := by decide +kernel
theorem dx_L_soRed_86 : decode prog_1_method_12_code 86 = .ok (.invokevirtual 175, 3) := by decide +kernel
theorem dx_L_soRed_89 : decode prog_1_method_12_code 89 = .ok (.ifCond .eq 6, 3) := by decide +kernel
theorem dx_L_soRed_92 : decode prog_1_method_12_code 92 = .ok (.iload 4, 2) := by decide +kernel
theorem dx_L_soRed_94 : decode prog_1_method_12_code 94 = .ok (.ireturn, 1) := by decide +kernel
theorem dx_L_soRed_95 : decode prog_1_method_12_code 95 = .ok (.iinc 4 1, 3) := by decide +kernel
theorem dx_L_soRed_98 : decode prog_1_method_12_code 98 = .ok (.goto (-37), 3) := by decide +kernel
theorem dx_L_status_0 : decode prog_1_method_28_code 0 = .ok (.iload_n 1, 1) := by decide +kernel
theorem dx_L_status_1 : decode prog_1_method_28_code 1 = .ok (.tableswitch 42 0 2 #[27, 32, 37], 27) := by decide +kernel
theorem dx_L_status_28 : decode prog_1_method_28_code 28 = .ok (.aload_n 0, 1) := by decide +kernel
theorem dx_L_status_29 : decode prog_1_method_28_code 29 = .ok (.getfield 260, 3) := by decide +kernel
theorem dx_L_status_32 : decode prog_1_method_28_code 32 = .ok (.ireturn, 1) := by decide +kernel
theorem dx_L_status_33 : decode prog_1_method_28_code 33 = .ok (.aload_n 0, 1) := by decide +kernel
theorem dx_L_status_34 : decode prog_1_method_28_code 34 = .ok (.getfield 263, 3) := by decide +kernel
theorem dx_L_status_37 : decode prog_1_method_28_code 37 = .ok (.ireturn, 1) := by decide +kernel
theorem dx_L_status_38 : decode prog_1_method_28_code 38 = .ok (.aload_n 0, 1) := by decide +kernel
theorem dx_L_status_39 : decode prog_1_method_28_code 39 = .ok (.getfield 266, 3) := by decide +kernel
theorem dx_L_status_42 : decode prog_1_method_28_code 42 = .ok (.ireturn, 1) := by decide +kernel
theorem dx_L_status_43 : decode prog_1_method_28_code 43 = .ok (.aload_n 0, 1) := by decide +kernel
theorem dx_L_status_44 : decode prog_1_method_28_code 44 = .ok (.invokevirtual 81, 3) := by decide +kernel
theorem dx_L_status_47 : decode prog_1_method_28_code 47 = .ok (.pop, 1) := by decide +kernel
theorem dx_L_status_48 : decode prog_1_method_28_code 48 = .ok (.iconst (-1), 1) := by decide +kernel
theorem dx_L_status_49 : decode prog_1_method_28_code 49 = .ok (.ireturn, 1) := by decide +kernel
theorem dx_L_surely_0 : decode prog_1_method_18_code 0 = .ok (.iload_n 1, 1) := by decide +kernel
theorem dx_L_surely_1 : decode prog_1_method_18_code 1 = .ok (.iload_n 2, 1) := by decide +kernel
theorem dx_L_surely_12 : decode prog_1_method_18_code 12 = .ok (.ireturn, 1) := by decide +kernel
theorem dx_L_surely_13 : decode prog_1_method_18_code 13 = .ok (.aload_n 0, 1) := by decide +kernel
theorem dx_L_surely_14 : decode prog_1_method_18_code 14 = .ok (.getfield 10, 3) := by decide +kernel
theorem dx_L_surely_17 : decode prog_1_method_18_code 17 = .ok (.invokevirtual 219, 3) := by decide +kernel
theorem dx_L_surely_2 : decode prog_1_method_18_code 2 = .ok (.invokestatic 216, 3) := by decide +kernel
theorem dx_L_surely_20 : decode prog_1_method_18_code 20 = .ok (.istore_n 3, 1) := by decide +kernel
theorem dx_L_surely_21 : decode prog_1_method_18_code 21 = .ok (.iconst (-1), 1) := by decide +kernel
theorem dx_L_surely_22 : decode prog_1_method_18_code 22 = .ok (.istore 4, 2) := by decide +kernel
theorem dx_L_surely_24 : decode prog_1_method_18_code 24 = .ok (.iconst 1, 1) := by decide +kernel
theorem dx_L_surely_25 : decode prog_1_method_18_code 25 = .ok (.istore 5, 2) := by decide +kernel
theorem dx_L_surely_27 : decode prog_1_method_18_code 27 = .ok (.iload 5, 2) := by decide +kernel
theorem dx_L_surely_29 : decode prog_1_method_18_code 29 = .ok (.sipush 256, 3) := by decide +kernel
theorem dx_L_surely_32 : decode prog_1_method_18_code 32 = .ok (.if_icmp .ge 36, 3) := by decide +kernel
theorem dx_L_surely_35 : decode prog_1_method_18_code 35 = .ok (.iload 5, 2) := by decide +kernel
theorem dx_L_surely_37 : decode prog_1_method_18_code 37 = .ok (.iload_n 3, 1) := by decide +kernel
theorem dx_L_surely_38 : decode prog_1_method_18_code 38 = .ok (.iconst (-1), 1) := by decide +kernel
theorem dx_L_surely_39 : decode prog_1_method_18_code 39 = .ok (.ixor, 1) := by decide +kernel
theorem dx_L_surely_40 : decode prog_1_method_18_code 40 = .ok (.iand, 1) := by decide +kernel
theorem dx_L_surely_41 : decode prog_1_method_18_code 41 = .ok (.ifCond .ne 21, 3) := by decide +kernel
theorem dx_L_surely_44 : decode prog_1_method_18_code 44 = .ok (.aload_n 0, 1) := by decide +kernel
theorem dx_L_surely_45 : decode prog_1_method_18_code 45 = .ok (.iload 5, 2) := by decide +kernel
theorem dx_L_surely_47 : decode prog_1_method_18_code 47 = .ok (.iload_n 1, 1) := by decide +kernel
theorem dx_L_surely_48 : decode prog_1_method_18_code 48 = .ok (.iload_n 2, 1) := by decide +kernel
theorem dx_L_surely_49 : decode prog_1_method_18_code 49 = .ok (.invokevirtual 222, 3) := by decide +kernel
theorem dx_L_surely_5 : decode prog_1_method_18_code 5 = .ok (.ifCond .ne 8, 3) := by decide +kernel
theorem dx_L_surely_52 : decode prog_1_method_18_code 52 = .ok (.ifCond .eq 10, 3) := by decide +kernel
theorem dx_L_surely_55 : decode prog_1_method_18_code 55 = .ok (.iload 4, 2) := by decide +kernel
theorem dx_L_surely_57 : decode prog_1_method_18_code 57 = .ok (.iload 5, 2) := by decide +kernel
theorem dx_L_surely_59 : decode prog_1_method_18_code 59 = .ok (.iand, 1) := by decide +kernel
theorem dx_L_surely_60 : decode prog_1_method_18_code 60 = .ok (.istore 4, 2) := by decide +kernel
theorem dx_L_surely_62 : decode prog_1_method_18_code 62 = .ok (.iinc 5 1, 3) := by decide +kernel
theorem dx_L_surely_65 : decode prog_1_method_18_code 65 = .ok (.goto (-38), 3) := by decide +kernel
theorem dx_L_surely_68 : decode prog_1_method_18_code 68 = .ok (.iload 4, 2) := by decide +kernel
theorem dx_L_surely_70 : decode prog_1_method_18_code 70 = .ok (.ireturn, 1) := by decide +kernel
theorem dx_L_surely_8 : decode prog_1_method_18_code 8 = .ok (.aload_n 0, 1) := by decide +kernel
theorem dx_L_surely_9 : decode prog_1_method_18_code 9 = .ok (.invokevirtual 81, 3) := by decide +kernel
theorem dx_L_thing_0 : decode prog_1_method_3_code 0 = .ok (.iload_n 1, 1) := by decide +kernel
theorem dx_L_thing_1 : decode prog_1_method_3_code 1 = .ok (.bipush 12, 2) := by decide +kernel
theorem dx_L_thing_10 : decode prog_1_method_3_code 10 = .ok (.invokevirtual 81, 3) := by decide +kernel
theorem dx_L_thing_13 : decode prog_1_method_3_code 13 = .ok (.ireturn, 1) := by decide +kernel
theorem dx_L_thing_14 : decode prog_1_method_3_code 14 = .ok (.aload_n 0, 1) := by decide +kernel
theorem dx_L_thing_15 : decode prog_1_method_3_code 15 = .ok (.getfield 10, 3) := by decide +kernel
theorem dx_L_thing_18 : decode prog_1_method_3_code 18 = .ok (.getfield 96, 3) := by decide +kernel
theorem dx_L_thing_21 : decode prog_1_method_3_code 21 = .ok (.iconst 4, 1) := by decide +kernel
theorem dx_L_thing_22 : decode prog_1_method_3_code 22 = .ok (.if_icmp .lt 8, 3) := by decide +kernel
theorem dx_L_thing_25 : decode prog_1_method_3_code 25 = .ok (.aload_n 0, 1) := by decide +kernel
theorem dx_L_thing_26 : decode prog_1_method_3_code 26 = .ok (.invokevirtual 89, 3) := by decide +kernel
theorem dx_L_thing_29 : decode prog_1_method_3_code 29 = .ok (.ireturn, 1) := by decide +kernel
theorem dx_L_thing_3 : decode prog_1_method_3_code 3 = .ok (.invokestatic 77, 3) := by decide +kernel
theorem dx_L_thing_30 : decode prog_1_method_3_code 30 = .ok (.aload_n 0, 1) := by decide +kernel
theorem dx_L_thing_31 : decode prog_1_method_3_code 31 = .ok (.getfield 10, 3) := by decide +kernel
theorem dx_L_thing_34 : decode prog_1_method_3_code 34 = .ok (.iload_n 1, 1) := by decide +kernel
theorem dx_L_thing_35 : decode prog_1_method_3_code 35 = .ok (.invokevirtual 99, 3) := by decide +kernel
theorem dx_L_thing_38 : decode prog_1_method_3_code 38 = .ok (.aload_n 0, 1) := by decide +kernel
theorem dx_L_thing_39 : decode prog_1_method_3_code 39 = .ok (.getfield 10, 3) := by decide +kernel
theorem dx_L_thing_42 : decode prog_1_method_3_code 42 = .ok (.getfield 96, 3) := by decide +kernel
theorem dx_L_thing_45 : decode prog_1_method_3_code 45 = .ok (.iconst 1, 1) := by decide +kernel
theorem dx_L_thing_46 : decode prog_1_method_3_code 46 = .ok (.isub, 1) := by decide +kernel
theorem dx_L_thing_47 : decode prog_1_method_3_code 47 = .ok (.ireturn, 1) := by decide +kernel
theorem dx_L_thing_6 : decode prog_1_method_3_code 6 = .ok (.ifCond .ne 8, 3) := by decide +kernel
theorem dx_L_thing_9 : decode prog_1_method_3_code 9 = .ok (.aload_n 0, 1) := by decide +kernel
theorem dx_L_touch_0 : decode prog_1_method_4_code 0 = .ok (.aload_n 0, 1) := by decide +kernel
theorem dx_L_touch_1 : decode prog_1_method_4_code 1 = .ok (.getfield 10, 3) := by decide +kernel
theorem dx_L_touch_100 : decode prog_1_method_4_code 100 = .ok (.iload 4, 2) := by decide +kernel
theorem dx_L_touch_102 : decode prog_1_method_4_code 102 = .ok (.ireturn, 1) := by decide +kernel
theorem dx_L_touch_11 : decode prog_1_method_4_code 11 = .ok (.aload_n 0, 1) := by decide +kernel
theorem dx_L_touch_12 : decode prog_1_method_4_code 12 = .ok (.getfield 10, 3) := by decide +kernel
theorem dx_L_touch_15 : decode prog_1_method_4_code 15 = .ok (.iload_n 2, 1) := by decide +kernel
theorem dx_L_touch_16 : decode prog_1_method_4_code 16 = .ok (.invokevirtual 103, 3) := by decide +kernel
theorem dx_L_touch_19 : decode prog_1_method_4_code 19 = .ok (.ifCond .eq 11, 3) := by decide +kernel
theorem dx_L_touch_22 : decode prog_1_method_4_code 22 = .ok (.iload_n 3, 1) := by decide +kernel
theorem dx_L_touch_23 : decode prog_1_method_4_code 23 = .ok (.iconst 3, 1) := by decide +kernel
theorem dx_L_touch_24 : decode prog_1_method_4_code 24 = .ok (.invokestatic 77, 3) := by decide +kernel
theorem dx_L_touch_27 : decode prog_1_method_4_code 27 = .ok (.ifCond .ne 8, 3) := by decide +kernel
theorem dx_L_touch_30 : decode prog_1_method_4_code 30 = .ok (.aload_n 0, 1) := by decide +kernel
theorem dx_L_touch_31 : decode prog_1_method_4_code 31 = .ok (.invokevirtual 81, 3) := by decide +kernel
theorem dx_L_touch_34 : decode prog_1_method_4_code 34 = .ok (.ireturn, 1) := by decide +kernel
theorem dx_L_touch_35 : decode prog_1_method_4_code 35 = .ok (.iload_n 1, 1) := by decide +kernel
theorem dx_L_touch_36 : decode prog_1_method_4_code 36 = .ok (.iload_n 2, 1) := by decide +kernel
theorem dx_L_touch_37 : decode prog_1_method_4_code 37 = .ok (.if_icmp .eq 13, 3) := by decide +kernel
theorem dx_L_touch_4 : decode prog_1_method_4_code 4 = .ok (.iload_n 1, 1) := by decide +kernel
theorem dx_L_touch_40 : decode prog_1_method_4_code 40 = .ok (.iload_n 1, 1) := by decide +kernel
theorem dx_L_touch_41 : decode prog_1_method_4_code 41 = .ok (.iconst 4, 1) := by decide +kernel
theorem dx_L_touch_42 : decode prog_1_method_4_code 42 = .ok (.if_icmp .lt 13, 3) := by decide +kernel
theorem dx_L_touch_45 : decode prog_1_method_4_code 45 = .ok (.iload_n 2, 1) := by decide +kernel
theorem dx_L_touch_46 : decode prog_1_method_4_code 46 = .ok (.iconst 4, 1) := by decide +kernel
theorem dx_L_touch_47 : decode prog_1_method_4_code 47 = .ok (.if_icmp .lt 8, 3) := by decide +kernel
theorem dx_L_touch_5 : decode prog_1_method_4_code 5 = .ok (.invokevirtual 103, 3) := by decide +kernel
theorem dx_L_touch_50 : decode prog_1_method_4_code 50 = .ok (.aload_n 0, 1) := by decide +kernel
theorem dx_L_touch_51 : decode prog_1_method_4_code 51 = .ok (.invokevirtual 81, 3) := by decide +kernel
theorem dx_L_touch_54 : decode prog_1_method_4_code 54 = .ok (.ireturn, 1) := by decide +kernel
theorem dx_L_touch_55 : decode prog_1_method_4_code 55 = .ok (.iload_n 1, 1) := by decide +kernel
theorem dx_L_touch_56 : decode prog_1_method_4_code 56 = .ok (.iconst 4, 1) := by decide +kernel
theorem dx_L_touch_57 : decode prog_1_method_4_code 57 = .ok (.if_icmp .ge 17, 3) := by decide +kernel
theorem dx_L_touch_60 : decode prog_1_method_4_code 60 = .ok (.aload_n 0, 1) := by decide +kernel
theorem dx_L_touch_61 : decode prog_1_method_4_code 61 = .ok (.getfield 10, 3) := by decide +kernel
theorem dx_L_touch_64 : decode prog_1_method_4_code 64 = .ok (.getfield 107, 3) := by decide +kernel
theorem dx_L_touch_67 : decode prog_1_method_4_code 67 = .ok (.iload_n 1, 1) := by decide +kernel
theorem dx_L_touch_68 : decode prog_1_method_4_code 68 = .ok (.aaload, 1) := by decide +kernel
theorem dx_L_touch_69 : decode prog_1_method_4_code 69 = .ok (.iload_n 2, 1) := by decide +kernel
theorem dx_L_touch_70 : decode prog_1_method_4_code 70 = .ok (.iaload, 1) := by decide +kernel
theorem dx_L_touch_71 : decode prog_1_method_4_code 71 = .ok (.goto 14, 3) := by decide +kernel
theorem dx_L_touch_74 : decode prog_1_method_4_code 74 = .ok (.aload_n 0, 1) := by decide +kernel
theorem dx_L_touch_75 : decode prog_1_method_4_code 75 = .ok (.getfield 10, 3) := by decide +kernel
theorem dx_L_touch_78 : decode prog_1_method_4_code 78 = .ok (.getfield 107, 3) := by decide +kernel
theorem dx_L_touch_8 : decode prog_1_method_4_code 8 = .ok (.ifCond .eq 22, 3) := by decide +kernel
theorem dx_L_touch_81 : decode prog_1_method_4_code 81 = .ok (.iload_n 2, 1) := by decide +kernel
theorem dx_L_touch_82 : decode prog_1_method_4_code 82 = .ok (.aaload, 1) := by decide +kernel
theorem dx_L_touch_83 : decode prog_1_method_4_code 83 = .ok (.iload_n 1, 1) := by decide +kernel
theorem dx_L_touch_84 : decode prog_1_method_4_code 84 = .ok (.iaload, 1) := by decide +kernel
theorem dx_L_touch_85 : decode prog_1_method_4_code 85 = .ok (.istore 4, 2) := by decide +kernel
theorem dx_L_touch_87 : decode prog_1_method_4_code 87 = .ok (.aload_n 0, 1) := by decide +kernel
theorem dx_L_touch_88 : decode prog_1_method_4_code 88 = .ok (.getfield 10, 3) := by decide +kernel
theorem dx_L_touch_91 : decode prog_1_method_4_code 91 = .ok (.getfield 107, 3) := by decide +kernel
theorem dx_L_touch_94 : decode prog_1_method_4_code 94 = .ok (.iload_n 1, 1) := by decide +kernel
theorem dx_L_touch_95 : decode prog_1_method_4_code 95 = .ok (.iload_n 2, 1) := by decide +kernel
theorem dx_L_touch_96 : decode prog_1_method_4_code 96 = .ok (.iload_n 3, 1) := by decide +kernel
theorem dx_L_touch_97 : decode prog_1_method_4_code 97 = .ok (.invokestatic 111, 3) := by decide +kernel
theorem dx_L_type_0 : decode prog_1_method_6_code 0 = .ok (.iload_n 3, 1) := by decide +kernel
theorem dx_L_type_1 : decode prog_1_method_6_code 1 = .ok (.iconst 1, 1) := by decide +kernel
theorem dx_L_type_11 : decode prog_1_method_6_code 11 = .ok (.aload_n 0, 1) := by decide +kernel
theorem dx_L_type_12 : decode prog_1_method_6_code 12 = .ok (.invokevirtual 81, 3) := by decide +kernel
theorem dx_L_type_15 : decode prog_1_method_6_code 15 = .ok (.ireturn, 1) := by decide +kernel
theorem dx_L_type_16 : decode prog_1_method_6_code 16 = .ok (.aload_n 0, 1) := by decide +kernel
theorem dx_L_type_17 : decode prog_1_method_6_code 17 = .ok (.getfield 27, 3) := by decide +kernel
theorem dx_L_type_2 : decode prog_1_method_6_code 2 = .ok (.if_icmp .lt 9, 3) := by decide +kernel
theorem dx_L_type_20 : decode prog_1_method_6_code 20 = .ok (.getfield 121, 3) := by decide +kernel
theorem dx_L_type_23 : decode prog_1_method_6_code 23 = .ok (.iload_n 3, 1) := by decide +kernel
theorem dx_L_type_24 : decode prog_1_method_6_code 24 = .ok (.iadd, 1) := by decide +kernel
theorem dx_L_type_25 : decode prog_1_method_6_code 25 = .ok (.sipush 200, 3) := by decide +kernel
theorem dx_L_type_28 : decode prog_1_method_6_code 28 = .ok (.if_icmp .le 8, 3) := by decide +kernel
theorem dx_L_type_31 : decode prog_1_method_6_code 31 = .ok (.aload_n 0, 1) := by decide +kernel
theorem dx_L_type_32 : decode prog_1_method_6_code 32 = .ok (.invokevirtual 89, 3) := by decide +kernel
theorem dx_L_type_35 : decode prog_1_method_6_code 35 = .ok (.ireturn, 1) := by decide +kernel
theorem dx_L_type_36 : decode prog_1_method_6_code 36 = .ok (.aload_n 0, 1) := by decide +kernel
theorem dx_L_type_37 : decode prog_1_method_6_code 37 = .ok (.getfield 27, 3) := by decide +kernel
theorem dx_L_type_40 : decode prog_1_method_6_code 40 = .ok (.lload_n 1, 1) := by decide +kernel
theorem dx_L_type_41 : decode prog_1_method_6_code 41 = .ok (.iload_n 3, 1) := by decide +kernel
theorem dx_L_type_42 : decode prog_1_method_6_code 42 = .ok (.invokevirtual 124, 3) := by decide +kernel
theorem dx_L_type_45 : decode prog_1_method_6_code 45 = .ok (.aload_n 0, 1) := by decide +kernel
theorem dx_L_type_46 : decode prog_1_method_6_code 46 = .ok (.getfield 27, 3) := by decide +kernel
theorem dx_L_type_49 : decode prog_1_method_6_code 49 = .ok (.getfield 121, 3) := by decide +kernel
theorem dx_L_type_5 : decode prog_1_method_6_code 5 = .ok (.iload_n 3, 1) := by decide +kernel
theorem dx_L_type_52 : decode prog_1_method_6_code 52 = .ok (.ireturn, 1) := by decide +kernel
theorem dx_L_type_6 : decode prog_1_method_6_code 6 = .ok (.bipush 8, 2) := by decide +kernel
theorem dx_L_type_8 : decode prog_1_method_6_code 8 = .ok (.if_icmp .le 8, 3) := by decide +kernel
theorem dx_L_undo_0 : decode prog_1_method_11_code 0 = .ok (.aload_n 0, 1) := by decide +kernel
theorem dx_L_undo_1 : decode prog_1_method_11_code 1 = .ok (.getfield 10, 3) := by decide +kernel
theorem dx_L_undo_10 : decode prog_1_method_11_code 10 = .ok (.iconst 1, 1) := by decide +kernel
theorem dx_L_undo_11 : decode prog_1_method_11_code 11 = .ok (.goto 7, 3) := by decide +kernel
theorem dx_L_undo_14 : decode prog_1_method_11_code 14 = .ok (.aload_n 0, 1) := by decide +kernel
theorem dx_L_undo_15 : decode prog_1_method_11_code 15 = .ok (.invokevirtual 164, 3) := by decide +kernel
theorem dx_L_undo_18 : decode prog_1_method_11_code 18 = .ok (.ireturn, 1) := by decide +kernel
theorem dx_L_undo_4 : decode prog_1_method_11_code 4 = .ok (.invokevirtual 171, 3) := by decide +kernel
theorem dx_L_undo_7 : decode prog_1_method_11_code 7 = .ok (.ifCond .eq 7, 3) := by decide +kernel
theorem dx_L_within_0 : decode prog_1_method_41_code 0 = .ok (.iload_n 0, 1) := by decide +kernel
theorem dx_L_within_1 : decode prog_1_method_41_code 1 = .ok (.ifCond .lt 12, 3) := by decide +kernel
theorem dx_L_within_10 : decode prog_1_method_41_code 10 = .ok (.goto 4, 3) := by decide +kernel
theorem dx_L_within_13 : decode prog_1_method_41_code 13 = .ok (.iconst 0, 1) := by decide +kernel
theorem dx_L_within_14 : decode prog_1_method_41_code 14 = .ok (.ireturn, 1) := by decide +kernel
theorem dx_L_within_4 : decode prog_1_method_41_code 4 = .ok (.iload_n 0, 1) := by decide +kernel
theorem dx_L_within_5 : decode prog_1_method_41_code 5 = .ok (.iload_n 1, 1) := by decide +kernel
theorem dx_L_within_6 : decode prog_1_method_41_code 6 = .ok (.if_icmp .gt 7, 3) := by decide +kernel
theorem dx_L_within_9 : decode prog_1_method_41_code 9 = .ok (.iconst 1, 1) := by decide +kernel
theorem dx_Mover_aim_0 : decode prog_5_method_2_code 0 = .ok (.aload_n 0, 1) := by decide +kernel
theorem dx_Mover_aim_1 : decode prog_5_method_2_code 1 = .ok (.iload_n 1, 1) := by decide +kernel
theorem dx_Mover_aim_10 : decode prog_5_method_2_code 10 = .ok (.aload_n 0, 1) := by decide +kernel
theorem dx_Mover_aim_11 : decode prog_5_method_2_code 11 = .ok (.iload_n 3, 1) := by decide +kernel
theorem dx_Mover_aim_12 : decode prog_5_method_2_code 12 = .ok (.putfield 23, 3) := by decide +kernel
theorem dx_Mover_aim_15 : decode prog_5_method_2_code 15 = .ok (.aload_n 0, 1) := by decide +kernel
theorem dx_Mover_aim_16 : decode prog_5_method_2_code 16 = .ok (.iload 4, 2) := by decide +kernel
theorem dx_Mover_aim_18 : decode prog_5_method_2_code 18 = .ok (.putfield 26, 3) := by decide +kernel
theorem dx_Mover_aim_2 : decode prog_5_method_2_code 2 = .ok (.putfield 16, 3) := by decide +kernel
theorem dx_Mover_aim_21 : decode prog_5_method_2_code 21 = .ok (.return_, 1) := by decide +kernel
theorem dx_Mover_aim_5 : decode prog_5_method_2_code 5 = .ok (.aload_n 0, 1) := by decide +kernel
theorem dx_Mover_aim_6 : decode prog_5_method_2_code 6 = .ok (.iload_n 2, 1) := by decide +kernel
theorem dx_Mover_aim_7 : decode prog_5_method_2_code 7 = .ok (.putfield 20, 3) := by decide +kernel
theorem dx_Mover_changes_0 : decode prog_5_method_6_code 0 = .ok (.iload_n 2, 1) := by decide +kernel
theorem dx_Mover_changes_1 : decode prog_5_method_6_code 1 = .ok (.invokestatic 95, 3) := by decide +kernel
theorem dx_Mover_changes_11 : decode prog_5_method_6_code 11 = .ok (.iload_n 3, 1) := by decide +kernel
theorem dx_Mover_changes_12 : decode prog_5_method_6_code 12 = .ok (.iload 4, 2) := by decide +kernel
theorem dx_Mover_changes_14 : decode prog_5_method_6_code 14 = .ok (.if_icmp .ge 20, 3) := by decide +kernel
theorem dx_Mover_changes_17 : decode prog_5_method_6_code 17 = .ok (.aload_n 1, 1) := by decide +kernel
theorem dx_Mover_changes_18 : decode prog_5_method_6_code 18 = .ok (.iload_n 3, 1) := by decide +kernel
theorem dx_Mover_changes_19 : decode prog_5_method_6_code 19 = .ok (.invokevirtual 101, 3) := by decide +kernel
theorem dx_Mover_changes_22 : decode prog_5_method_6_code 22 = .ok (.ifCond .eq 12, 3) := by decide +kernel
theorem dx_Mover_changes_25 : decode prog_5_method_6_code 25 = .ok (.aload_n 1, 1) := by decide +kernel
theorem dx_Mover_changes_26 : decode prog_5_method_6_code 26 = .ok (.iload 4, 2) := by decide +kernel
theorem dx_Mover_changes_28 : decode prog_5_method_6_code 28 = .ok (.invokevirtual 105, 3) := by decide +kernel
theorem dx_Mover_changes_31 : decode prog_5_method_6_code 31 = .ok (.ifCond .ne 5, 3) := by decide +kernel
theorem dx_Mover_changes_34 : decode prog_5_method_6_code 34 = .ok (.iconst 0, 1) := by decide +kernel
theorem dx_Mover_changes_35 : decode prog_5_method_6_code 35 = .ok (.ireturn, 1) := by decide +kernel
theorem dx_Mover_changes_36 : decode prog_5_method_6_code 36 = .ok (.aload_n 0, 1) := by decide +kernel
theorem dx_Mover_changes_37 : decode prog_5_method_6_code 37 = .ok (.getfield 26, 3) := by decide +kernel
theorem dx_Mover_changes_4 : decode prog_5_method_6_code 4 = .ok (.istore_n 3, 1) := by decide +kernel
theorem dx_Mover_changes_40 : decode prog_5_method_6_code 40 = .ok (.iconst 1, 1) := by decide +kernel
theorem dx_Mover_changes_41 : decode prog_5_method_6_code 41 = .ok (.if_icmp .ne 24, 3) := by decide +kernel
theorem dx_Mover_changes_44 : decode prog_5_method_6_code 44 = .ok (.iload_n 3, 1) := by decide +kernel
theorem dx_Mover_changes_45 : decode prog_5_method_6_code 45 = .ok (.aload_n 0, 1) := by decide +kernel
theorem dx_Mover_changes_46 : decode prog_5_method_6_code 46 = .ok (.getfield 16, 3) := by decide +kernel
theorem dx_Mover_changes_49 : decode prog_5_method_6_code 49 = .ok (.if_icmp .eq 16, 3) := by decide +kernel
theorem dx_Mover_changes_5 : decode prog_5_method_6_code 5 = .ok (.iload_n 2, 1) := by decide +kernel
theorem dx_Mover_changes_52 : decode prog_5_method_6_code 52 = .ok (.iload 4, 2) := by decide +kernel
theorem dx_Mover_changes_54 : decode prog_5_method_6_code 54 = .ok (.aload_n 0, 1) := by decide +kernel
theorem dx_Mover_changes_55 : decode prog_5_method_6_code 55 = .ok (.getfield 16, 3) := by decide +kernel
theorem dx_Mover_changes_58 : decode prog_5_method_6_code 58 = .ok (.if_icmp .eq 7, 3) := by decide +kernel
theorem dx_Mover_changes_6 : decode prog_5_method_6_code 6 = .ok (.invokestatic 98, 3) := by decide +kernel
theorem dx_Mover_changes_61 : decode prog_5_method_6_code 61 = .ok (.iconst 1, 1) := by decide +kernel
theorem dx_Mover_changes_62 : decode prog_5_method_6_code 62 = .ok (.goto 4, 3) := by decide +kernel
theorem dx_Mover_changes_65 : decode prog_5_method_6_code 65 = .ok (.iconst 0, 1) := by decide +kernel
theorem dx_Mover_changes_66 : decode prog_5_method_6_code 66 = .ok (.istore 5, 2) := by decide +kernel
theorem dx_Mover_changes_68 : decode prog_5_method_6_code 68 = .ok (.iload 5, 2) := by decide +kernel
theorem dx_Mover_changes_70 : decode prog_5_method_6_code 70 = .ok (.ifCond .ne 23, 3) := by decide +kernel
theorem dx_Mover_changes_73 : decode prog_5_method_6_code 73 = .ok (.aload_n 1, 1) := by decide +kernel
theorem dx_Mover_changes_74 : decode prog_5_method_6_code 74 = .ok (.getfield 29, 3) := by decide +kernel
theorem dx_Mover_changes_77 : decode prog_5_method_6_code 77 = .ok (.iload_n 3, 1) := by decide +kernel
theorem dx_Mover_changes_78 : decode prog_5_method_6_code 78 = .ok (.aaload, 1) := by decide +kernel
theorem dx_Mover_changes_79 : decode prog_5_method_6_code 79 = .ok (.iload 4, 2) := by decide +kernel
theorem dx_Mover_changes_81 : decode prog_5_method_6_code 81 = .ok (.iaload, 1) := by decide +kernel
theorem dx_Mover_changes_82 : decode prog_5_method_6_code 82 = .ok (.iload_n 2, 1) := by decide +kernel
theorem dx_Mover_changes_83 : decode prog_5_method_6_code 83 = .ok (.invokestatic 53, 3) := by decide +kernel
theorem dx_Mover_changes_86 : decode prog_5_method_6_code 86 = .ok (.if_icmp .eq 7, 3) := by decide +kernel
theorem dx_Mover_changes_89 : decode prog_5_method_6_code 89 = .ok (.iconst 1, 1) := by decide +kernel
theorem dx_Mover_changes_9 : decode prog_5_method_6_code 9 = .ok (.istore 4, 2) := by decide +kernel
theorem dx_Mover_changes_90 : decode prog_5_method_6_code 90 = .ok (.goto 4, 3) := by decide +kernel
theorem dx_Mover_changes_93 : decode prog_5_method_6_code 93 = .ok (.iconst 0, 1) := by decide +kernel
theorem dx_Mover_changes_94 : decode prog_5_method_6_code 94 = .ok (.ireturn, 1) := by decide +kernel
theorem dx_Mover_hoursOf_0 : decode prog_5_method_11_code 0 = .ok (.iload_n 0, 1) := by decide +kernel
theorem dx_Mover_hoursOf_1 : decode prog_5_method_11_code 1 = .ok (.iconst 1, 1) := by decide +kernel
theorem dx_Mover_hoursOf_10 : decode prog_5_method_11_code 10 = .ok (.iconst 3, 1) := by decide +kernel
theorem dx_Mover_hoursOf_11 : decode prog_5_method_11_code 11 = .ok (.ireturn, 1) := by decide +kernel
theorem dx_Mover_hoursOf_2 : decode prog_5_method_11_code 2 = .ok (.iand, 1) := by decide +kernel
theorem dx_Mover_hoursOf_3 : decode prog_5_method_11_code 3 = .ok (.ifCond .ne 7, 3) := by decide +kernel
theorem dx_Mover_hoursOf_6 : decode prog_5_method_11_code 6 = .ok (.iconst 0, 1) := by decide +kernel
theorem dx_Mover_hoursOf_7 : decode prog_5_method_11_code 7 = .ok (.goto 4, 3) := by decide +kernel
theorem dx_Mover_lesser_0 : decode prog_5_method_9_code 0 = .ok (.iload_n 0, 1) := by decide +kernel
theorem dx_Mover_lesser_1 : decode prog_5_method_9_code 1 = .ok (.iconst 4, 1) := by decide +kernel
theorem dx_Mover_lesser_2 : decode prog_5_method_9_code 2 = .ok (.ishr, 1) := by decide +kernel
theorem dx_Mover_lesser_3 : decode prog_5_method_9_code 3 = .ok (.iconst 3, 1) := by decide +kernel
theorem dx_Mover_lesser_4 : decode prog_5_method_9_code 4 = .ok (.iand, 1) := by decide +kernel
theorem dx_Mover_lesser_5 : decode prog_5_method_9_code 5 = .ok (.ireturn, 1) := by decide +kernel
theorem dx_Mover_other_0 : decode prog_5_method_10_code 0 = .ok (.iload_n 0, 1) := by decide +kernel
theorem dx_Mover_other_1 : decode prog_5_method_10_code 1 = .ok (.iconst 1, 1) := by decide +kernel
theorem dx_Mover_other_2 : decode prog_5_method_10_code 2 = .ok (.ishr, 1) := by decide +kernel
theorem dx_Mover_other_3 : decode prog_5_method_10_code 3 = .ok (.bipush 7, 2) := by decide +kernel
theorem dx_Mover_other_5 : decode prog_5_method_10_code 5 = .ok (.iand, 1) := by decide +kernel
theorem dx_Mover_other_6 : decode prog_5_method_10_code 6 = .ok (.ireturn, 1) := by decide +kernel
theorem dx_Mover_putBack_0 : decode prog_5_method_8_code 0 = .ok (.aload_n 0, 1) := by decide +kernel
theorem dx_Mover_putBack_1 : decode prog_5_method_8_code 1 = .ok (.iload_n 1, 1) := by decide +kernel
theorem dx_Mover_putBack_10 : decode prog_5_method_8_code 10 = .ok (.aaload, 1) := by decide +kernel
theorem dx_Mover_putBack_11 : decode prog_5_method_8_code 11 = .ok (.iload_n 1, 1) := by decide +kernel
theorem dx_Mover_putBack_12 : decode prog_5_method_8_code 12 = .ok (.invokestatic 98, 3) := by decide +kernel
theorem dx_Mover_putBack_15 : decode prog_5_method_8_code 15 = .ok (.iaload, 1) := by decide +kernel
theorem dx_Mover_putBack_16 : decode prog_5_method_8_code 16 = .ok (.invokevirtual 57, 3) := by decide +kernel
theorem dx_Mover_putBack_19 : decode prog_5_method_8_code 19 = .ok (.return_, 1) := by decide +kernel
theorem dx_Mover_putBack_2 : decode prog_5_method_8_code 2 = .ok (.aload_n 2, 1) := by decide +kernel
theorem dx_Mover_putBack_3 : decode prog_5_method_8_code 3 = .ok (.getfield 29, 3) := by decide +kernel
theorem dx_Mover_putBack_6 : decode prog_5_method_8_code 6 = .ok (.iload_n 1, 1) := by decide +kernel
theorem dx_Mover_putBack_7 : decode prog_5_method_8_code 7 = .ok (.invokestatic 95, 3) := by decide +kernel
theorem dx_Mover_put_0 : decode prog_5_method_7_code 0 = .ok (.aload_n 0, 1) := by decide +kernel
theorem dx_Mover_put_1 : decode prog_5_method_7_code 1 = .ok (.getfield 11, 3) := by decide +kernel
theorem dx_Mover_put_12 : decode prog_5_method_7_code 12 = .ok (.iload_n 2, 1) := by decide +kernel
theorem dx_Mover_put_13 : decode prog_5_method_7_code 13 = .ok (.invokestatic 108, 3) := by decide +kernel
theorem dx_Mover_put_16 : decode prog_5_method_7_code 16 = .ok (.return_, 1) := by decide +kernel
theorem dx_Mover_put_4 : decode prog_5_method_7_code 4 = .ok (.iload_n 1, 1) := by decide +kernel
theorem dx_Mover_put_5 : decode prog_5_method_7_code 5 = .ok (.invokestatic 95, 3) := by decide +kernel
theorem dx_Mover_put_8 : decode prog_5_method_7_code 8 = .ok (.iload_n 1, 1) := by decide +kernel
theorem dx_Mover_put_9 : decode prog_5_method_7_code 9 = .ok (.invokestatic 98, 3) := by decide +kernel
theorem dx_Mover_reachedByOneMore_0 : decode prog_5_method_4_code 0 = .ok (.iload_n 3, 1) := by decide +kernel
theorem dx_Mover_reachedByOneMore_1 : decode prog_5_method_4_code 1 = .ok (.istore 4, 2) := by decide +kernel
theorem dx_Mover_reachedByOneMore_10 : decode prog_5_method_4_code 10 = .ok (.aload_n 0, 1) := by decide +kernel
theorem dx_Mover_reachedByOneMore_11 : decode prog_5_method_4_code 11 = .ok (.aload_n 1, 1) := by decide +kernel
theorem dx_Mover_reachedByOneMore_12 : decode prog_5_method_4_code 12 = .ok (.iload 4, 2) := by decide +kernel
theorem dx_Mover_reachedByOneMore_14 : decode prog_5_method_4_code 14 = .ok (.invokevirtual 49, 3) := by decide +kernel
theorem dx_Mover_reachedByOneMore_17 : decode prog_5_method_4_code 17 = .ok (.ifCond .eq 33, 3) := by decide +kernel
theorem dx_Mover_reachedByOneMore_20 : decode prog_5_method_4_code 20 = .ok (.aload_n 0, 1) := by decide +kernel
theorem dx_Mover_reachedByOneMore_21 : decode prog_5_method_4_code 21 = .ok (.iload 4, 2) := by decide +kernel
theorem dx_Mover_reachedByOneMore_23 : decode prog_5_method_4_code 23 = .ok (.iload 4, 2) := by decide +kernel
theorem dx_Mover_reachedByOneMore_25 : decode prog_5_method_4_code 25 = .ok (.invokestatic 53, 3) := by decide +kernel
theorem dx_Mover_reachedByOneMore_28 : decode prog_5_method_4_code 28 = .ok (.invokevirtual 57, 3) := by decide +kernel
theorem dx_Mover_reachedByOneMore_3 : decode prog_5_method_4_code 3 = .ok (.iload 4, 2) := by decide +kernel
theorem dx_Mover_reachedByOneMore_31 : decode prog_5_method_4_code 31 = .ok (.aload_n 0, 1) := by decide +kernel
theorem dx_Mover_reachedByOneMore_32 : decode prog_5_method_4_code 32 = .ok (.aload_n 1, 1) := by decide +kernel
theorem dx_Mover_reachedByOneMore_33 : decode prog_5_method_4_code 33 = .ok (.aload_n 2, 1) := by decide +kernel
theorem dx_Mover_reachedByOneMore_34 : decode prog_5_method_4_code 34 = .ok (.invokevirtual 38, 3) := by decide +kernel
theorem dx_Mover_reachedByOneMore_37 : decode prog_5_method_4_code 37 = .ok (.ifCond .eq 6, 3) := by decide +kernel
theorem dx_Mover_reachedByOneMore_40 : decode prog_5_method_4_code 40 = .ok (.iload 4, 2) := by decide +kernel
theorem dx_Mover_reachedByOneMore_42 : decode prog_5_method_4_code 42 = .ok (.ireturn, 1) := by decide +kernel
theorem dx_Mover_reachedByOneMore_43 : decode prog_5_method_4_code 43 = .ok (.aload_n 0, 1) := by decide +kernel
theorem dx_Mover_reachedByOneMore_44 : decode prog_5_method_4_code 44 = .ok (.iload 4, 2) := by decide +kernel
theorem dx_Mover_reachedByOneMore_46 : decode prog_5_method_4_code 46 = .ok (.aload_n 1, 1) := by decide +kernel
theorem dx_Mover_reachedByOneMore_47 : decode prog_5_method_4_code 47 = .ok (.invokevirtual 64, 3) := by decide +kernel
theorem dx_Mover_reachedByOneMore_5 : decode prog_5_method_4_code 5 = .ok (.bipush 64, 2) := by decide +kernel
theorem dx_Mover_reachedByOneMore_50 : decode prog_5_method_4_code 50 = .ok (.iinc 4 1, 3) := by decide +kernel
theorem dx_Mover_reachedByOneMore_53 : decode prog_5_method_4_code 53 = .ok (.goto (-50), 3) := by decide +kernel
theorem dx_Mover_reachedByOneMore_56 : decode prog_5_method_4_code 56 = .ok (.iconst (-1), 1) := by decide +kernel
theorem dx_Mover_reachedByOneMore_57 : decode prog_5_method_4_code 57 = .ok (.ireturn, 1) := by decide +kernel
theorem dx_Mover_reachedByOneMore_7 : decode prog_5_method_4_code 7 = .ok (.if_icmp .ge 49, 3) := by decide +kernel
theorem dx_Mover_reached_0 : decode prog_5_method_5_code 0 = .ok (.aload_n 2, 1) := by decide +kernel
theorem dx_Mover_reached_1 : decode prog_5_method_5_code 1 = .ok (.aload_n 1, 1) := by decide +kernel
theorem dx_Mover_reached_10 : decode prog_5_method_5_code 10 = .ok (.invokevirtual 72, 3) := by decide +kernel
theorem dx_Mover_reached_13 : decode prog_5_method_5_code 13 = .ok (.aload_n 2, 1) := by decide +kernel
theorem dx_Mover_reached_14 : decode prog_5_method_5_code 14 = .ok (.aload_n 1, 1) := by decide +kernel
theorem dx_Mover_reached_15 : decode prog_5_method_5_code 15 = .ok (.getfield 78, 3) := by decide +kernel
theorem dx_Mover_reached_18 : decode prog_5_method_5_code 18 = .ok (.aload_n 0, 1) := by decide +kernel
theorem dx_Mover_reached_19 : decode prog_5_method_5_code 19 = .ok (.getfield 26, 3) := by decide +kernel
theorem dx_Mover_reached_2 : decode prog_5_method_5_code 2 = .ok (.aload_n 0, 1) := by decide +kernel
theorem dx_Mover_reached_22 : decode prog_5_method_5_code 22 = .ok (.invokevirtual 82, 3) := by decide +kernel
theorem dx_Mover_reached_25 : decode prog_5_method_5_code 25 = .ok (.astore_n 3, 1) := by decide +kernel
theorem dx_Mover_reached_26 : decode prog_5_method_5_code 26 = .ok (.aload_n 3, 1) := by decide +kernel
theorem dx_Mover_reached_27 : decode prog_5_method_5_code 27 = .ok (.aload_n 0, 1) := by decide +kernel
theorem dx_Mover_reached_28 : decode prog_5_method_5_code 28 = .ok (.getfield 16, 3) := by decide +kernel
theorem dx_Mover_reached_3 : decode prog_5_method_5_code 3 = .ok (.getfield 11, 3) := by decide +kernel
theorem dx_Mover_reached_31 : decode prog_5_method_5_code 31 = .ok (.aload_n 0, 1) := by decide +kernel
theorem dx_Mover_reached_32 : decode prog_5_method_5_code 32 = .ok (.getfield 20, 3) := by decide +kernel
theorem dx_Mover_reached_35 : decode prog_5_method_5_code 35 = .ok (.invokevirtual 86, 3) := by decide +kernel
theorem dx_Mover_reached_38 : decode prog_5_method_5_code 38 = .ok (.ifCond .eq 22, 3) := by decide +kernel
theorem dx_Mover_reached_41 : decode prog_5_method_5_code 41 = .ok (.aload_n 3, 1) := by decide +kernel
theorem dx_Mover_reached_42 : decode prog_5_method_5_code 42 = .ok (.aload_n 0, 1) := by decide +kernel
theorem dx_Mover_reached_43 : decode prog_5_method_5_code 43 = .ok (.getfield 16, 3) := by decide +kernel
theorem dx_Mover_reached_46 : decode prog_5_method_5_code 46 = .ok (.aload_n 0, 1) := by decide +kernel
theorem dx_Mover_reached_47 : decode prog_5_method_5_code 47 = .ok (.getfield 23, 3) := by decide +kernel
theorem dx_Mover_reached_50 : decode prog_5_method_5_code 50 = .ok (.invokevirtual 92, 3) := by decide +kernel
theorem dx_Mover_reached_53 : decode prog_5_method_5_code 53 = .ok (.ifCond .eq 7, 3) := by decide +kernel
theorem dx_Mover_reached_56 : decode prog_5_method_5_code 56 = .ok (.iconst 1, 1) := by decide +kernel
theorem dx_Mover_reached_57 : decode prog_5_method_5_code 57 = .ok (.goto 4, 3) := by decide +kernel
theorem dx_Mover_reached_6 : decode prog_5_method_5_code 6 = .ok (.aload_n 1, 1) := by decide +kernel
theorem dx_Mover_reached_60 : decode prog_5_method_5_code 60 = .ok (.iconst 0, 1) := by decide +kernel
theorem dx_Mover_reached_61 : decode prog_5_method_5_code 61 = .ok (.ireturn, 1) := by decide +kernel
theorem dx_Mover_reached_7 : decode prog_5_method_5_code 7 = .ok (.getfield 68, 3) := by decide +kernel
theorem dx_Mover_search_0 : decode prog_5_method_3_code 0 = .ok (.iconst 0, 1) := by decide +kernel
theorem dx_Mover_search_1 : decode prog_5_method_3_code 1 = .ok (.istore_n 3, 1) := by decide +kernel
theorem dx_Mover_search_100 : decode prog_5_method_3_code 100 = .ok (.iconst 1, 1) := by decide +kernel
theorem dx_Mover_search_101 : decode prog_5_method_3_code 101 = .ok (.ior, 1) := by decide +kernel
theorem dx_Mover_search_102 : decode prog_5_method_3_code 102 = .ok (.iconst 1, 1) := by decide +kernel
theorem dx_Mover_search_103 : decode prog_5_method_3_code 103 = .ok (.iadd, 1) := by decide +kernel
theorem dx_Mover_search_104 : decode prog_5_method_3_code 104 = .ok (.invokevirtual 42, 3) := by decide +kernel
theorem dx_Mover_search_107 : decode prog_5_method_3_code 107 = .ok (.putfield 61, 3) := by decide +kernel
theorem dx_Mover_search_11 : decode prog_5_method_3_code 11 = .ok (.iload_n 3, 1) := by decide +kernel
theorem dx_Mover_search_110 : decode prog_5_method_3_code 110 = .ok (.aload_n 0, 1) := by decide +kernel
theorem dx_Mover_search_111 : decode prog_5_method_3_code 111 = .ok (.getfield 61, 3) := by decide +kernel
theorem dx_Mover_search_114 : decode prog_5_method_3_code 114 = .ok (.iconst (-1), 1) := by decide +kernel
theorem dx_Mover_search_115 : decode prog_5_method_3_code 115 = .ok (.if_icmp .eq 5, 3) := by decide +kernel
theorem dx_Mover_search_118 : decode prog_5_method_3_code 118 = .ok (.iconst 2, 1) := by decide +kernel
theorem dx_Mover_search_119 : decode prog_5_method_3_code 119 = .ok (.ireturn, 1) := by decide +kernel
theorem dx_Mover_search_12 : decode prog_5_method_3_code 12 = .ok (.aaload, 1) := by decide +kernel
theorem dx_Mover_search_120 : decode prog_5_method_3_code 120 = .ok (.aload_n 0, 1) := by decide +kernel
theorem dx_Mover_search_121 : decode prog_5_method_3_code 121 = .ok (.iload_n 3, 1) := by decide +kernel
theorem dx_Mover_search_122 : decode prog_5_method_3_code 122 = .ok (.aload_n 1, 1) := by decide +kernel
theorem dx_Mover_search_123 : decode prog_5_method_3_code 123 = .ok (.invokevirtual 64, 3) := by decide +kernel
theorem dx_Mover_search_126 : decode prog_5_method_3_code 126 = .ok (.iinc 3 1, 3) := by decide +kernel
theorem dx_Mover_search_129 : decode prog_5_method_3_code 129 = .ok (.goto (-63), 3) := by decide +kernel
theorem dx_Mover_search_13 : decode prog_5_method_3_code 13 = .ok (.iconst 0, 1) := by decide +kernel
theorem dx_Mover_search_132 : decode prog_5_method_3_code 132 = .ok (.iconst (-1), 1) := by decide +kernel
theorem dx_Mover_search_133 : decode prog_5_method_3_code 133 = .ok (.ireturn, 1) := by decide +kernel
theorem dx_Mover_search_14 : decode prog_5_method_3_code 14 = .ok (.aload_n 0, 1) := by decide +kernel
theorem dx_Mover_search_15 : decode prog_5_method_3_code 15 = .ok (.getfield 11, 3) := by decide +kernel
theorem dx_Mover_search_18 : decode prog_5_method_3_code 18 = .ok (.iload_n 3, 1) := by decide +kernel
theorem dx_Mover_search_19 : decode prog_5_method_3_code 19 = .ok (.aaload, 1) := by decide +kernel
theorem dx_Mover_search_2 : decode prog_5_method_3_code 2 = .ok (.iload_n 3, 1) := by decide +kernel
theorem dx_Mover_search_20 : decode prog_5_method_3_code 20 = .ok (.iconst 0, 1) := by decide +kernel
theorem dx_Mover_search_21 : decode prog_5_method_3_code 21 = .ok (.bipush 8, 2) := by decide +kernel
theorem dx_Mover_search_23 : decode prog_5_method_3_code 23 = .ok (.invokestatic 32, 3) := by decide +kernel
theorem dx_Mover_search_26 : decode prog_5_method_3_code 26 = .ok (.iinc 3 1, 3) := by decide +kernel
theorem dx_Mover_search_29 : decode prog_5_method_3_code 29 = .ok (.goto (-27), 3) := by decide +kernel
theorem dx_Mover_search_3 : decode prog_5_method_3_code 3 = .ok (.iconst 4, 1) := by decide +kernel
theorem dx_Mover_search_32 : decode prog_5_method_3_code 32 = .ok (.aload_n 0, 1) := by decide +kernel
theorem dx_Mover_search_33 : decode prog_5_method_3_code 33 = .ok (.aload_n 1, 1) := by decide +kernel
theorem dx_Mover_search_34 : decode prog_5_method_3_code 34 = .ok (.aload_n 2, 1) := by decide +kernel
theorem dx_Mover_search_35 : decode prog_5_method_3_code 35 = .ok (.invokevirtual 38, 3) := by decide +kernel
theorem dx_Mover_search_38 : decode prog_5_method_3_code 38 = .ok (.ifCond .eq 5, 3) := by decide +kernel
theorem dx_Mover_search_4 : decode prog_5_method_3_code 4 = .ok (.if_icmp .ge 28, 3) := by decide +kernel
theorem dx_Mover_search_41 : decode prog_5_method_3_code 41 = .ok (.iconst 0, 1) := by decide +kernel
theorem dx_Mover_search_42 : decode prog_5_method_3_code 42 = .ok (.ireturn, 1) := by decide +kernel
theorem dx_Mover_search_43 : decode prog_5_method_3_code 43 = .ok (.aload_n 0, 1) := by decide +kernel
theorem dx_Mover_search_44 : decode prog_5_method_3_code 44 = .ok (.aload_n 0, 1) := by decide +kernel
theorem dx_Mover_search_45 : decode prog_5_method_3_code 45 = .ok (.aload_n 1, 1) := by decide +kernel
theorem dx_Mover_search_46 : decode prog_5_method_3_code 46 = .ok (.aload_n 2, 1) := by decide +kernel
theorem dx_Mover_search_47 : decode prog_5_method_3_code 47 = .ok (.iconst 0, 1) := by decide +kernel
theorem dx_Mover_search_48 : decode prog_5_method_3_code 48 = .ok (.invokevirtual 42, 3) := by decide +kernel
theorem dx_Mover_search_51 : decode prog_5_method_3_code 51 = .ok (.putfield 46, 3) := by decide +kernel
theorem dx_Mover_search_54 : decode prog_5_method_3_code 54 = .ok (.aload_n 0, 1) := by decide +kernel
theorem dx_Mover_search_55 : decode prog_5_method_3_code 55 = .ok (.getfield 46, 3) := by decide +kernel
theorem dx_Mover_search_58 : decode prog_5_method_3_code 58 = .ok (.iconst (-1), 1) := by decide +kernel
theorem dx_Mover_search_59 : decode prog_5_method_3_code 59 = .ok (.if_icmp .eq 5, 3) := by decide +kernel
theorem dx_Mover_search_62 : decode prog_5_method_3_code 62 = .ok (.iconst 1, 1) := by decide +kernel
theorem dx_Mover_search_63 : decode prog_5_method_3_code 63 = .ok (.ireturn, 1) := by decide +kernel
theorem dx_Mover_search_64 : decode prog_5_method_3_code 64 = .ok (.iconst 0, 1) := by decide +kernel
theorem dx_Mover_search_65 : decode prog_5_method_3_code 65 = .ok (.istore_n 3, 1) := by decide +kernel
theorem dx_Mover_search_66 : decode prog_5_method_3_code 66 = .ok (.iload_n 3, 1) := by decide +kernel
theorem dx_Mover_search_67 : decode prog_5_method_3_code 67 = .ok (.bipush 64, 2) := by decide +kernel
theorem dx_Mover_search_69 : decode prog_5_method_3_code 69 = .ok (.if_icmp .ge 63, 3) := by decide +kernel
theorem dx_Mover_search_7 : decode prog_5_method_3_code 7 = .ok (.aload_n 1, 1) := by decide +kernel
theorem dx_Mover_search_72 : decode prog_5_method_3_code 72 = .ok (.aload_n 0, 1) := by decide +kernel
theorem dx_Mover_search_73 : decode prog_5_method_3_code 73 = .ok (.aload_n 1, 1) := by decide +kernel
theorem dx_Mover_search_74 : decode prog_5_method_3_code 74 = .ok (.iload_n 3, 1) := by decide +kernel
theorem dx_Mover_search_75 : decode prog_5_method_3_code 75 = .ok (.invokevirtual 49, 3) := by decide +kernel
theorem dx_Mover_search_78 : decode prog_5_method_3_code 78 = .ok (.ifCond .eq 48, 3) := by decide +kernel
theorem dx_Mover_search_8 : decode prog_5_method_3_code 8 = .ok (.getfield 29, 3) := by decide +kernel
theorem dx_Mover_search_81 : decode prog_5_method_3_code 81 = .ok (.aload_n 0, 1) := by decide +kernel
theorem dx_Mover_search_82 : decode prog_5_method_3_code 82 = .ok (.iload_n 3, 1) := by decide +kernel
theorem dx_Mover_search_83 : decode prog_5_method_3_code 83 = .ok (.iload_n 3, 1) := by decide +kernel
theorem dx_Mover_search_84 : decode prog_5_method_3_code 84 = .ok (.invokestatic 53, 3) := by decide +kernel
theorem dx_Mover_search_87 : decode prog_5_method_3_code 87 = .ok (.invokevirtual 57, 3) := by decide +kernel
theorem dx_Mover_search_90 : decode prog_5_method_3_code 90 = .ok (.aload_n 0, 1) := by decide +kernel
theorem dx_Mover_search_91 : decode prog_5_method_3_code 91 = .ok (.iload_n 3, 1) := by decide +kernel
theorem dx_Mover_search_92 : decode prog_5_method_3_code 92 = .ok (.putfield 46, 3) := by decide +kernel
theorem dx_Mover_search_95 : decode prog_5_method_3_code 95 = .ok (.aload_n 0, 1) := by decide +kernel
theorem dx_Mover_search_96 : decode prog_5_method_3_code 96 = .ok (.aload_n 0, 1) := by decide +kernel
theorem dx_Mover_search_97 : decode prog_5_method_3_code 97 = .ok (.aload_n 1, 1) := by decide +kernel
theorem dx_Mover_search_98 : decode prog_5_method_3_code 98 = .ok (.aload_n 2, 1) := by decide +kernel
theorem dx_Mover_search_99 : decode prog_5_method_3_code 99 = .ok (.iload_n 3, 1) := by decide +kernel
theorem dx_Mover_told_0 : decode prog_5_method_12_code 0 = .ok (.sipush 1000, 3) := by decide +kernel
theorem dx_Mover_told_10 : decode prog_5_method_12_code 10 = .ok (.iload_n 1, 1) := by decide +kernel
theorem dx_Mover_told_11 : decode prog_5_method_12_code 11 = .ok (.invokestatic 98, 3) := by decide +kernel
theorem dx_Mover_told_14 : decode prog_5_method_12_code 14 = .ok (.imul, 1) := by decide +kernel
theorem dx_Mover_told_15 : decode prog_5_method_12_code 15 = .ok (.iadd, 1) := by decide +kernel
theorem dx_Mover_told_16 : decode prog_5_method_12_code 16 = .ok (.iload_n 1, 1) := by decide +kernel
theorem dx_Mover_told_17 : decode prog_5_method_12_code 17 = .ok (.invokestatic 53, 3) := by decide +kernel
theorem dx_Mover_told_20 : decode prog_5_method_12_code 20 = .ok (.iadd, 1) := by decide +kernel
theorem dx_Mover_told_21 : decode prog_5_method_12_code 21 = .ok (.ireturn, 1) := by decide +kernel
theorem dx_Mover_told_3 : decode prog_5_method_12_code 3 = .ok (.iload_n 1, 1) := by decide +kernel
theorem dx_Mover_told_4 : decode prog_5_method_12_code 4 = .ok (.invokestatic 95, 3) := by decide +kernel
theorem dx_Mover_told_7 : decode prog_5_method_12_code 7 = .ok (.imul, 1) := by decide +kernel
theorem dx_Mover_told_8 : decode prog_5_method_12_code 8 = .ok (.bipush 100, 2) := by decide +kernel
theorem dx_Reader_append_0 : decode prog_6_method_2_code 0 = .ok (.iload_n 3, 1) := by decide +kernel
theorem dx_Reader_append_1 : decode prog_6_method_2_code 1 = .ok (.iconst 1, 1) := by decide +kernel
theorem dx_Reader_append_10 : decode prog_6_method_2_code 10 = .ok (.aload_n 0, 1) := by decide +kernel
theorem dx_Reader_append_11 : decode prog_6_method_2_code 11 = .ok (.getfield 15, 3) := by decide +kernel
theorem dx_Reader_append_14 : decode prog_6_method_2_code 14 = .ok (.sipush 200, 3) := by decide +kernel
theorem dx_Reader_append_17 : decode prog_6_method_2_code 17 = .ok (.if_icmp .ge 40, 3) := by decide +kernel
theorem dx_Reader_append_2 : decode prog_6_method_2_code 2 = .ok (.isub, 1) := by decide +kernel
theorem dx_Reader_append_20 : decode prog_6_method_2_code 20 = .ok (.aload_n 0, 1) := by decide +kernel
theorem dx_Reader_append_21 : decode prog_6_method_2_code 21 = .ok (.getfield 9, 3) := by decide +kernel
theorem dx_Reader_append_24 : decode prog_6_method_2_code 24 = .ok (.aload_n 0, 1) := by decide +kernel
theorem dx_Reader_append_25 : decode prog_6_method_2_code 25 = .ok (.getfield 15, 3) := by decide +kernel
theorem dx_Reader_append_28 : decode prog_6_method_2_code 28 = .ok (.lload_n 1, 1) := by decide +kernel
theorem dx_Reader_append_29 : decode prog_6_method_2_code 29 = .ok (.bipush 8, 2) := by decide +kernel
theorem dx_Reader_append_3 : decode prog_6_method_2_code 3 = .ok (.istore 4, 2) := by decide +kernel
theorem dx_Reader_append_31 : decode prog_6_method_2_code 31 = .ok (.iload 4, 2) := by decide +kernel
theorem dx_Reader_append_33 : decode prog_6_method_2_code 33 = .ok (.imul, 1) := by decide +kernel
theorem dx_Reader_append_34 : decode prog_6_method_2_code 34 = .ok (.lshr, 1) := by decide +kernel
theorem dx_Reader_append_35 : decode prog_6_method_2_code 35 = .ok (.ldc2_w 19, 3) := by decide +kernel
theorem dx_Reader_append_38 : decode prog_6_method_2_code 38 = .ok (.land, 1) := by decide +kernel
theorem dx_Reader_append_39 : decode prog_6_method_2_code 39 = .ok (.l2i, 1) := by decide +kernel
theorem dx_Reader_append_40 : decode prog_6_method_2_code 40 = .ok (.iastore, 1) := by decide +kernel
theorem dx_Reader_append_41 : decode prog_6_method_2_code 41 = .ok (.aload_n 0, 1) := by decide +kernel
theorem dx_Reader_append_42 : decode prog_6_method_2_code 42 = .ok (.dup, 1) := by decide +kernel
theorem dx_Reader_append_43 : decode prog_6_method_2_code 43 = .ok (.getfield 15, 3) := by decide +kernel
theorem dx_Reader_append_46 : decode prog_6_method_2_code 46 = .ok (.iconst 1, 1) := by decide +kernel
theorem dx_Reader_append_47 : decode prog_6_method_2_code 47 = .ok (.iadd, 1) := by decide +kernel
theorem dx_Reader_append_48 : decode prog_6_method_2_code 48 = .ok (.putfield 15, 3) := by decide +kernel
theorem dx_Reader_append_5 : decode prog_6_method_2_code 5 = .ok (.iload 4, 2) := by decide +kernel
theorem dx_Reader_append_51 : decode prog_6_method_2_code 51 = .ok (.iinc 4 (-1), 3) := by decide +kernel
theorem dx_Reader_append_54 : decode prog_6_method_2_code 54 = .ok (.goto (-49), 3) := by decide +kernel
theorem dx_Reader_append_57 : decode prog_6_method_2_code 57 = .ok (.return_, 1) := by decide +kernel
theorem dx_Reader_append_7 : decode prog_6_method_2_code 7 = .ok (.ifCond .lt 50, 3) := by decide +kernel
theorem dx_Reader_clothItem_0 : decode prog_6_method_4_code 0 = .ok (.aload_n 0, 1) := by decide +kernel
theorem dx_Reader_clothItem_1 : decode prog_6_method_4_code 1 = .ok (.getfield 24, 3) := by decide +kernel
theorem dx_Reader_clothItem_10 : decode prog_6_method_4_code 10 = .ok (.invokevirtual 49, 3) := by decide +kernel
theorem dx_Reader_clothItem_13 : decode prog_6_method_4_code 13 = .ok (.ifCond .ne 5, 3) := by decide +kernel
theorem dx_Reader_clothItem_16 : decode prog_6_method_4_code 16 = .ok (.iconst 0, 1) := by decide +kernel
theorem dx_Reader_clothItem_17 : decode prog_6_method_4_code 17 = .ok (.ireturn, 1) := by decide +kernel
theorem dx_Reader_clothItem_18 : decode prog_6_method_4_code 18 = .ok (.aload_n 0, 1) := by decide +kernel
theorem dx_Reader_clothItem_19 : decode prog_6_method_4_code 19 = .ok (.getfield 53, 3) := by decide +kernel
theorem dx_Reader_clothItem_22 : decode prog_6_method_4_code 22 = .ok (.istore_n 2, 1) := by decide +kernel
theorem dx_Reader_clothItem_23 : decode prog_6_method_4_code 23 = .ok (.aload_n 0, 1) := by decide +kernel
theorem dx_Reader_clothItem_24 : decode prog_6_method_4_code 24 = .ok (.iconst 3, 1) := by decide +kernel
theorem dx_Reader_clothItem_25 : decode prog_6_method_4_code 25 = .ok (.invokevirtual 49, 3) := by decide +kernel
theorem dx_Reader_clothItem_28 : decode prog_6_method_4_code 28 = .ok (.ifCond .ne 5, 3) := by decide +kernel
theorem dx_Reader_clothItem_31 : decode prog_6_method_4_code 31 = .ok (.iconst 0, 1) := by decide +kernel
theorem dx_Reader_clothItem_32 : decode prog_6_method_4_code 32 = .ok (.ireturn, 1) := by decide +kernel
theorem dx_Reader_clothItem_33 : decode prog_6_method_4_code 33 = .ok (.aload_n 0, 1) := by decide +kernel
theorem dx_Reader_clothItem_34 : decode prog_6_method_4_code 34 = .ok (.getfield 53, 3) := by decide +kernel
theorem dx_Reader_clothItem_37 : decode prog_6_method_4_code 37 = .ok (.istore_n 3, 1) := by decide +kernel
theorem dx_Reader_clothItem_38 : decode prog_6_method_4_code 38 = .ok (.aload_n 0, 1) := by decide +kernel
theorem dx_Reader_clothItem_39 : decode prog_6_method_4_code 39 = .ok (.bipush 12, 2) := by decide +kernel
theorem dx_Reader_clothItem_4 : decode prog_6_method_4_code 4 = .ok (.iconst 4, 1) := by decide +kernel
theorem dx_Reader_clothItem_41 : decode prog_6_method_4_code 41 = .ok (.invokevirtual 49, 3) := by decide +kernel
theorem dx_Reader_clothItem_44 : decode prog_6_method_4_code 44 = .ok (.ifCond .eq 10, 3) := by decide +kernel
theorem dx_Reader_clothItem_47 : decode prog_6_method_4_code 47 = .ok (.aload_n 0, 1) := by decide +kernel
theorem dx_Reader_clothItem_48 : decode prog_6_method_4_code 48 = .ok (.invokevirtual 56, 3) := by decide +kernel
theorem dx_Reader_clothItem_5 : decode prog_6_method_4_code 5 = .ok (.if_icmp .ge 11, 3) := by decide +kernel
theorem dx_Reader_clothItem_51 : decode prog_6_method_4_code 51 = .ok (.ifCond .ne 5, 3) := by decide +kernel
theorem dx_Reader_clothItem_54 : decode prog_6_method_4_code 54 = .ok (.iconst 0, 1) := by decide +kernel
theorem dx_Reader_clothItem_55 : decode prog_6_method_4_code 55 = .ok (.ireturn, 1) := by decide +kernel
theorem dx_Reader_clothItem_56 : decode prog_6_method_4_code 56 = .ok (.aload_n 0, 1) := by decide +kernel
theorem dx_Reader_clothItem_57 : decode prog_6_method_4_code 57 = .ok (.dup, 1) := by decide +kernel
theorem dx_Reader_clothItem_58 : decode prog_6_method_4_code 58 = .ok (.getfield 24, 3) := by decide +kernel
theorem dx_Reader_clothItem_61 : decode prog_6_method_4_code 61 = .ok (.iconst 1, 1) := by decide +kernel
theorem dx_Reader_clothItem_62 : decode prog_6_method_4_code 62 = .ok (.iadd, 1) := by decide +kernel
theorem dx_Reader_clothItem_63 : decode prog_6_method_4_code 63 = .ok (.putfield 24, 3) := by decide +kernel
theorem dx_Reader_clothItem_66 : decode prog_6_method_4_code 66 = .ok (.aload_n 1, 1) := by decide +kernel
theorem dx_Reader_clothItem_67 : decode prog_6_method_4_code 67 = .ok (.ifnull 13, 3) := by decide +kernel
theorem dx_Reader_clothItem_70 : decode prog_6_method_4_code 70 = .ok (.aload_n 1, 1) := by decide +kernel
theorem dx_Reader_clothItem_71 : decode prog_6_method_4_code 71 = .ok (.iload_n 2, 1) := by decide +kernel
theorem dx_Reader_clothItem_72 : decode prog_6_method_4_code 72 = .ok (.iload_n 3, 1) := by decide +kernel
theorem dx_Reader_clothItem_73 : decode prog_6_method_4_code 73 = .ok (.aload_n 0, 1) := by decide +kernel
theorem dx_Reader_clothItem_74 : decode prog_6_method_4_code 74 = .ok (.getfield 53, 3) := by decide +kernel
theorem dx_Reader_clothItem_77 : decode prog_6_method_4_code 77 = .ok (.invokevirtual 60, 3) := by decide +kernel
theorem dx_Reader_clothItem_8 : decode prog_6_method_4_code 8 = .ok (.aload_n 0, 1) := by decide +kernel
theorem dx_Reader_clothItem_80 : decode prog_6_method_4_code 80 = .ok (.iconst 1, 1) := by decide +kernel
theorem dx_Reader_clothItem_81 : decode prog_6_method_4_code 81 = .ok (.ireturn, 1) := by decide +kernel
theorem dx_Reader_clothItem_9 : decode prog_6_method_4_code 9 = .ok (.iconst 4, 1) := by decide +kernel
theorem dx_Reader_isFigure_0 : decode prog_6_method_15_code 0 = .ok (.iload_n 0, 1) := by decide +kernel
theorem dx_Reader_isFigure_1 : decode prog_6_method_15_code 1 = .ok (.bipush 48, 2) := by decide +kernel
theorem dx_Reader_isFigure_12 : decode prog_6_method_15_code 12 = .ok (.iconst 1, 1) := by decide +kernel
theorem dx_Reader_isFigure_13 : decode prog_6_method_15_code 13 = .ok (.goto 4, 3) := by decide +kernel
theorem dx_Reader_isFigure_16 : decode prog_6_method_15_code 16 = .ok (.iconst 0, 1) := by decide +kernel
theorem dx_Reader_isFigure_17 : decode prog_6_method_15_code 17 = .ok (.ireturn, 1) := by decide +kernel
theorem dx_Reader_isFigure_3 : decode prog_6_method_15_code 3 = .ok (.if_icmp .lt 13, 3) := by decide +kernel
theorem dx_Reader_isFigure_6 : decode prog_6_method_15_code 6 = .ok (.iload_n 0, 1) := by decide +kernel
theorem dx_Reader_isFigure_7 : decode prog_6_method_15_code 7 = .ok (.bipush 57, 2) := by decide +kernel
theorem dx_Reader_isFigure_9 : decode prog_6_method_15_code 9 = .ok (.if_icmp .gt 7, 3) := by decide +kernel
theorem dx_Reader_isLetter_0 : decode prog_6_method_14_code 0 = .ok (.iload_n 0, 1) := by decide +kernel
theorem dx_Reader_isLetter_1 : decode prog_6_method_14_code 1 = .ok (.bipush 97, 2) := by decide +kernel
theorem dx_Reader_isLetter_12 : decode prog_6_method_14_code 12 = .ok (.iconst 1, 1) := by decide +kernel
theorem dx_Reader_isLetter_13 : decode prog_6_method_14_code 13 = .ok (.goto 4, 3) := by decide +kernel
theorem dx_Reader_isLetter_16 : decode prog_6_method_14_code 16 = .ok (.iconst 0, 1) := by decide +kernel
theorem dx_Reader_isLetter_17 : decode prog_6_method_14_code 17 = .ok (.ireturn, 1) := by decide +kernel
theorem dx_Reader_isLetter_3 : decode prog_6_method_14_code 3 = .ok (.if_icmp .lt 13, 3) := by decide +kernel
theorem dx_Reader_isLetter_6 : decode prog_6_method_14_code 6 = .ok (.iload_n 0, 1) := by decide +kernel
theorem dx_Reader_isLetter_7 : decode prog_6_method_14_code 7 = .ok (.bipush 122, 2) := by decide +kernel
theorem dx_Reader_isLetter_9 : decode prog_6_method_14_code 9 = .ok (.if_icmp .gt 7, 3) := by decide +kernel
theorem dx_Reader_isThere_0 : decode prog_6_method_7_code 0 = .ok (.iload_n 1, 1) := by decide +kernel
theorem dx_Reader_isThere_1 : decode prog_6_method_7_code 1 = .ok (.iconst 4, 1) := by decide +kernel
theorem dx_Reader_isThere_10 : decode prog_6_method_7_code 10 = .ok (.if_icmp .ge 7, 3) := by decide +kernel
theorem dx_Reader_isThere_13 : decode prog_6_method_7_code 13 = .ok (.iconst 1, 1) := by decide +kernel
theorem dx_Reader_isThere_14 : decode prog_6_method_7_code 14 = .ok (.goto 22, 3) := by decide +kernel
theorem dx_Reader_isThere_17 : decode prog_6_method_7_code 17 = .ok (.iconst 0, 1) := by decide +kernel
theorem dx_Reader_isThere_18 : decode prog_6_method_7_code 18 = .ok (.goto 18, 3) := by decide +kernel
theorem dx_Reader_isThere_2 : decode prog_6_method_7_code 2 = .ok (.if_icmp .ge 19, 3) := by decide +kernel
theorem dx_Reader_isThere_21 : decode prog_6_method_7_code 21 = .ok (.iload_n 1, 1) := by decide +kernel
theorem dx_Reader_isThere_22 : decode prog_6_method_7_code 22 = .ok (.iconst 4, 1) := by decide +kernel
theorem dx_Reader_isThere_23 : decode prog_6_method_7_code 23 = .ok (.isub, 1) := by decide +kernel
theorem dx_Reader_isThere_24 : decode prog_6_method_7_code 24 = .ok (.aload_n 0, 1) := by decide +kernel
theorem dx_Reader_isThere_25 : decode prog_6_method_7_code 25 = .ok (.getfield 27, 3) := by decide +kernel
theorem dx_Reader_isThere_28 : decode prog_6_method_7_code 28 = .ok (.if_icmp .ge 7, 3) := by decide +kernel
theorem dx_Reader_isThere_31 : decode prog_6_method_7_code 31 = .ok (.iconst 1, 1) := by decide +kernel
theorem dx_Reader_isThere_32 : decode prog_6_method_7_code 32 = .ok (.goto 4, 3) := by decide +kernel
theorem dx_Reader_isThere_35 : decode prog_6_method_7_code 35 = .ok (.iconst 0, 1) := by decide +kernel
theorem dx_Reader_isThere_36 : decode prog_6_method_7_code 36 = .ok (.ireturn, 1) := by decide +kernel
theorem dx_Reader_isThere_5 : decode prog_6_method_7_code 5 = .ok (.iload_n 1, 1) := by decide +kernel
theorem dx_Reader_isThere_6 : decode prog_6_method_7_code 6 = .ok (.aload_n 0, 1) := by decide +kernel
theorem dx_Reader_isThere_7 : decode prog_6_method_7_code 7 = .ok (.getfield 24, 3) := by decide +kernel
theorem dx_Reader_nextNumber_0 : decode prog_6_method_13_code 0 = .ok (.aload_n 0, 1) := by decide +kernel
theorem dx_Reader_nextNumber_1 : decode prog_6_method_13_code 1 = .ok (.iconst 0, 1) := by decide +kernel
theorem dx_Reader_nextNumber_10 : decode prog_6_method_13_code 10 = .ok (.getfield 15, 3) := by decide +kernel
theorem dx_Reader_nextNumber_101 : decode prog_6_method_13_code 101 = .ok (.putfield 33, 3) := by decide +kernel
theorem dx_Reader_nextNumber_104 : decode prog_6_method_13_code 104 = .ok (.return_, 1) := by decide +kernel
theorem dx_Reader_nextNumber_13 : decode prog_6_method_13_code 13 = .ok (.if_icmp .ge 68, 3) := by decide +kernel
theorem dx_Reader_nextNumber_16 : decode prog_6_method_13_code 16 = .ok (.aload_n 0, 1) := by decide +kernel
theorem dx_Reader_nextNumber_17 : decode prog_6_method_13_code 17 = .ok (.getfield 9, 3) := by decide +kernel
theorem dx_Reader_nextNumber_2 : decode prog_6_method_13_code 2 = .ok (.putfield 53, 3) := by decide +kernel
theorem dx_Reader_nextNumber_20 : decode prog_6_method_13_code 20 = .ok (.aload_n 0, 1) := by decide +kernel
theorem dx_Reader_nextNumber_21 : decode prog_6_method_13_code 21 = .ok (.getfield 21, 3) := by decide +kernel
theorem dx_Reader_nextNumber_24 : decode prog_6_method_13_code 24 = .ok (.iaload, 1) := by decide +kernel
theorem dx_Reader_nextNumber_25 : decode prog_6_method_13_code 25 = .ok (.invokestatic 87, 3) := by decide +kernel
theorem dx_Reader_nextNumber_28 : decode prog_6_method_13_code 28 = .ok (.ifCond .eq 53, 3) := by decide +kernel
theorem dx_Reader_nextNumber_31 : decode prog_6_method_13_code 31 = .ok (.aload_n 0, 1) := by decide +kernel
theorem dx_Reader_nextNumber_32 : decode prog_6_method_13_code 32 = .ok (.getfield 21, 3) := by decide +kernel
theorem dx_Reader_nextNumber_35 : decode prog_6_method_13_code 35 = .ok (.aload_n 0, 1) := by decide +kernel
theorem dx_Reader_nextNumber_36 : decode prog_6_method_13_code 36 = .ok (.getfield 46, 3) := by decide +kernel
theorem dx_Reader_nextNumber_39 : decode prog_6_method_13_code 39 = .ok (.isub, 1) := by decide +kernel
theorem dx_Reader_nextNumber_40 : decode prog_6_method_13_code 40 = .ok (.iconst 2, 1) := by decide +kernel
theorem dx_Reader_nextNumber_41 : decode prog_6_method_13_code 41 = .ok (.if_icmp .ge 27, 3) := by decide +kernel
theorem dx_Reader_nextNumber_44 : decode prog_6_method_13_code 44 = .ok (.aload_n 0, 1) := by decide +kernel
theorem dx_Reader_nextNumber_45 : decode prog_6_method_13_code 45 = .ok (.bipush 10, 2) := by decide +kernel
theorem dx_Reader_nextNumber_47 : decode prog_6_method_13_code 47 = .ok (.aload_n 0, 1) := by decide +kernel
theorem dx_Reader_nextNumber_48 : decode prog_6_method_13_code 48 = .ok (.getfield 53, 3) := by decide +kernel
theorem dx_Reader_nextNumber_5 : decode prog_6_method_13_code 5 = .ok (.aload_n 0, 1) := by decide +kernel
theorem dx_Reader_nextNumber_51 : decode prog_6_method_13_code 51 = .ok (.imul, 1) := by decide +kernel
theorem dx_Reader_nextNumber_52 : decode prog_6_method_13_code 52 = .ok (.aload_n 0, 1) := by decide +kernel
theorem dx_Reader_nextNumber_53 : decode prog_6_method_13_code 53 = .ok (.getfield 9, 3) := by decide +kernel
theorem dx_Reader_nextNumber_56 : decode prog_6_method_13_code 56 = .ok (.aload_n 0, 1) := by decide +kernel
theorem dx_Reader_nextNumber_57 : decode prog_6_method_13_code 57 = .ok (.getfield 21, 3) := by decide +kernel
theorem dx_Reader_nextNumber_6 : decode prog_6_method_13_code 6 = .ok (.getfield 21, 3) := by decide +kernel
theorem dx_Reader_nextNumber_60 : decode prog_6_method_13_code 60 = .ok (.iaload, 1) := by decide +kernel
theorem dx_Reader_nextNumber_61 : decode prog_6_method_13_code 61 = .ok (.iadd, 1) := by decide +kernel
theorem dx_Reader_nextNumber_62 : decode prog_6_method_13_code 62 = .ok (.bipush 48, 2) := by decide +kernel
theorem dx_Reader_nextNumber_64 : decode prog_6_method_13_code 64 = .ok (.isub, 1) := by decide +kernel
theorem dx_Reader_nextNumber_65 : decode prog_6_method_13_code 65 = .ok (.putfield 53, 3) := by decide +kernel
theorem dx_Reader_nextNumber_68 : decode prog_6_method_13_code 68 = .ok (.aload_n 0, 1) := by decide +kernel
theorem dx_Reader_nextNumber_69 : decode prog_6_method_13_code 69 = .ok (.dup, 1) := by decide +kernel
theorem dx_Reader_nextNumber_70 : decode prog_6_method_13_code 70 = .ok (.getfield 21, 3) := by decide +kernel
theorem dx_Reader_nextNumber_73 : decode prog_6_method_13_code 73 = .ok (.iconst 1, 1) := by decide +kernel
theorem dx_Reader_nextNumber_74 : decode prog_6_method_13_code 74 = .ok (.iadd, 1) := by decide +kernel
theorem dx_Reader_nextNumber_75 : decode prog_6_method_13_code 75 = .ok (.putfield 21, 3) := by decide +kernel
theorem dx_Reader_nextNumber_78 : decode prog_6_method_13_code 78 = .ok (.goto (-73), 3) := by decide +kernel
theorem dx_Reader_nextNumber_81 : decode prog_6_method_13_code 81 = .ok (.aload_n 0, 1) := by decide +kernel
theorem dx_Reader_nextNumber_82 : decode prog_6_method_13_code 82 = .ok (.aload_n 0, 1) := by decide +kernel
theorem dx_Reader_nextNumber_83 : decode prog_6_method_13_code 83 = .ok (.getfield 21, 3) := by decide +kernel
theorem dx_Reader_nextNumber_86 : decode prog_6_method_13_code 86 = .ok (.aload_n 0, 1) := by decide +kernel
theorem dx_Reader_nextNumber_87 : decode prog_6_method_13_code 87 = .ok (.getfield 46, 3) := by decide +kernel
theorem dx_Reader_nextNumber_9 : decode prog_6_method_13_code 9 = .ok (.aload_n 0, 1) := by decide +kernel
theorem dx_Reader_nextNumber_90 : decode prog_6_method_13_code 90 = .ok (.isub, 1) := by decide +kernel
theorem dx_Reader_nextNumber_91 : decode prog_6_method_13_code 91 = .ok (.iconst 2, 1) := by decide +kernel
theorem dx_Reader_nextNumber_92 : decode prog_6_method_13_code 92 = .ok (.if_icmp .gt 7, 3) := by decide +kernel
theorem dx_Reader_nextNumber_95 : decode prog_6_method_13_code 95 = .ok (.iconst 4, 1) := by decide +kernel
theorem dx_Reader_nextNumber_96 : decode prog_6_method_13_code 96 = .ok (.goto 5, 3) := by decide +kernel
theorem dx_Reader_nextNumber_99 : decode prog_6_method_13_code 99 = .ok (.bipush 6, 2) := by decide +kernel
theorem dx_Reader_nextWord_0 : decode prog_6_method_11_code 0 = .ok (.aload_n 0, 1) := by decide +kernel
theorem dx_Reader_nextWord_1 : decode prog_6_method_11_code 1 = .ok (.getfield 21, 3) := by decide +kernel
theorem dx_Reader_nextWord_11 : decode prog_6_method_11_code 11 = .ok (.aload_n 0, 1) := by decide +kernel
theorem dx_Reader_nextWord_12 : decode prog_6_method_11_code 12 = .ok (.getfield 9, 3) := by decide +kernel
theorem dx_Reader_nextWord_15 : decode prog_6_method_11_code 15 = .ok (.aload_n 0, 1) := by decide +kernel
theorem dx_Reader_nextWord_16 : decode prog_6_method_11_code 16 = .ok (.getfield 21, 3) := by decide +kernel
theorem dx_Reader_nextWord_19 : decode prog_6_method_11_code 19 = .ok (.iaload, 1) := by decide +kernel
theorem dx_Reader_nextWord_20 : decode prog_6_method_11_code 20 = .ok (.invokestatic 81, 3) := by decide +kernel
theorem dx_Reader_nextWord_23 : decode prog_6_method_11_code 23 = .ok (.ifCond .eq 16, 3) := by decide +kernel
theorem dx_Reader_nextWord_26 : decode prog_6_method_11_code 26 = .ok (.aload_n 0, 1) := by decide +kernel
theorem dx_Reader_nextWord_27 : decode prog_6_method_11_code 27 = .ok (.dup, 1) := by decide +kernel
theorem dx_Reader_nextWord_28 : decode prog_6_method_11_code 28 = .ok (.getfield 21, 3) := by decide +kernel
theorem dx_Reader_nextWord_31 : decode prog_6_method_11_code 31 = .ok (.iconst 1, 1) := by decide +kernel
theorem dx_Reader_nextWord_32 : decode prog_6_method_11_code 32 = .ok (.iadd, 1) := by decide +kernel
theorem dx_Reader_nextWord_33 : decode prog_6_method_11_code 33 = .ok (.putfield 21, 3) := by decide +kernel
theorem dx_Reader_nextWord_36 : decode prog_6_method_11_code 36 = .ok (.goto (-36), 3) := by decide +kernel
theorem dx_Reader_nextWord_39 : decode prog_6_method_11_code 39 = .ok (.aload_n 0, 1) := by decide +kernel
theorem dx_Reader_nextWord_4 : decode prog_6_method_11_code 4 = .ok (.aload_n 0, 1) := by decide +kernel
theorem dx_Reader_nextWord_40 : decode prog_6_method_11_code 40 = .ok (.ldc 93, 2) := by decide +kernel
theorem dx_Reader_nextWord_42 : decode prog_6_method_11_code 42 = .ok (.invokevirtual 95, 3) := by decide +kernel
theorem dx_Reader_nextWord_45 : decode prog_6_method_11_code 45 = .ok (.ifCond .eq 11, 3) := by decide +kernel
theorem dx_Reader_nextWord_48 : decode prog_6_method_11_code 48 = .ok (.aload_n 0, 1) := by decide +kernel
theorem dx_Reader_nextWord_49 : decode prog_6_method_11_code 49 = .ok (.iconst 1, 1) := by decide +kernel
theorem dx_Reader_nextWord_5 : decode prog_6_method_11_code 5 = .ok (.getfield 15, 3) := by decide +kernel
theorem dx_Reader_nextWord_50 : decode prog_6_method_11_code 50 = .ok (.putfield 33, 3) := by decide +kernel
theorem dx_Reader_nextWord_53 : decode prog_6_method_11_code 53 = .ok (.goto 39, 3) := by decide +kernel
theorem dx_Reader_nextWord_56 : decode prog_6_method_11_code 56 = .ok (.aload_n 0, 1) := by decide +kernel
theorem dx_Reader_nextWord_57 : decode prog_6_method_11_code 57 = .ok (.ldc 99, 2) := by decide +kernel
theorem dx_Reader_nextWord_59 : decode prog_6_method_11_code 59 = .ok (.invokevirtual 95, 3) := by decide +kernel
theorem dx_Reader_nextWord_62 : decode prog_6_method_11_code 62 = .ok (.ifCond .eq 11, 3) := by decide +kernel
theorem dx_Reader_nextWord_65 : decode prog_6_method_11_code 65 = .ok (.aload_n 0, 1) := by decide +kernel
theorem dx_Reader_nextWord_66 : decode prog_6_method_11_code 66 = .ok (.iconst 2, 1) := by decide +kernel
theorem dx_Reader_nextWord_67 : decode prog_6_method_11_code 67 = .ok (.putfield 33, 3) := by decide +kernel
theorem dx_Reader_nextWord_70 : decode prog_6_method_11_code 70 = .ok (.goto 22, 3) := by decide +kernel
theorem dx_Reader_nextWord_73 : decode prog_6_method_11_code 73 = .ok (.aload_n 0, 1) := by decide +kernel
theorem dx_Reader_nextWord_74 : decode prog_6_method_11_code 74 = .ok (.aload_n 0, 1) := by decide +kernel
theorem dx_Reader_nextWord_75 : decode prog_6_method_11_code 75 = .ok (.ldc 101, 2) := by decide +kernel
theorem dx_Reader_nextWord_77 : decode prog_6_method_11_code 77 = .ok (.invokevirtual 95, 3) := by decide +kernel
theorem dx_Reader_nextWord_8 : decode prog_6_method_11_code 8 = .ok (.if_icmp .ge 31, 3) := by decide +kernel
theorem dx_Reader_nextWord_80 : decode prog_6_method_11_code 80 = .ok (.ifCond .eq 7, 3) := by decide +kernel
theorem dx_Reader_nextWord_83 : decode prog_6_method_11_code 83 = .ok (.iconst 3, 1) := by decide +kernel
theorem dx_Reader_nextWord_84 : decode prog_6_method_11_code 84 = .ok (.goto 5, 3) := by decide +kernel
theorem dx_Reader_nextWord_87 : decode prog_6_method_11_code 87 = .ok (.bipush 6, 2) := by decide +kernel
theorem dx_Reader_nextWord_89 : decode prog_6_method_11_code 89 = .ok (.putfield 33, 3) := by decide +kernel
theorem dx_Reader_nextWord_92 : decode prog_6_method_11_code 92 = .ok (.return_, 1) := by decide +kernel
theorem dx_Reader_next_0 : decode prog_6_method_10_code 0 = .ok (.aload_n 0, 1) := by decide +kernel
theorem dx_Reader_next_1 : decode prog_6_method_10_code 1 = .ok (.getfield 21, 3) := by decide +kernel
theorem dx_Reader_next_102 : decode prog_6_method_10_code 102 = .ok (.aload_n 0, 1) := by decide +kernel
theorem dx_Reader_next_103 : decode prog_6_method_10_code 103 = .ok (.invokevirtual 90, 3) := by decide +kernel
theorem dx_Reader_next_106 : decode prog_6_method_10_code 106 = .ok (.goto 37, 3) := by decide +kernel
theorem dx_Reader_next_109 : decode prog_6_method_10_code 109 = .ok (.aload_n 0, 1) := by decide +kernel
theorem dx_Reader_next_11 : decode prog_6_method_10_code 11 = .ok (.aload_n 0, 1) := by decide +kernel
theorem dx_Reader_next_110 : decode prog_6_method_10_code 110 = .ok (.aload_n 0, 1) := by decide +kernel
theorem dx_Reader_next_111 : decode prog_6_method_10_code 111 = .ok (.getfield 9, 3) := by decide +kernel
theorem dx_Reader_next_114 : decode prog_6_method_10_code 114 = .ok (.aload_n 0, 1) := by decide +kernel
theorem dx_Reader_next_115 : decode prog_6_method_10_code 115 = .ok (.getfield 21, 3) := by decide +kernel
theorem dx_Reader_next_118 : decode prog_6_method_10_code 118 = .ok (.iaload, 1) := by decide +kernel
theorem dx_Reader_next_119 : decode prog_6_method_10_code 119 = .ok (.bipush 59, 2) := by decide +kernel
theorem dx_Reader_next_12 : decode prog_6_method_10_code 12 = .ok (.getfield 9, 3) := by decide +kernel
theorem dx_Reader_next_121 : decode prog_6_method_10_code 121 = .ok (.if_icmp .ne 7, 3) := by decide +kernel
theorem dx_Reader_next_124 : decode prog_6_method_10_code 124 = .ok (.iconst 5, 1) := by decide +kernel
theorem dx_Reader_next_125 : decode prog_6_method_10_code 125 = .ok (.goto 5, 3) := by decide +kernel
theorem dx_Reader_next_128 : decode prog_6_method_10_code 128 = .ok (.bipush 6, 2) := by decide +kernel
theorem dx_Reader_next_130 : decode prog_6_method_10_code 130 = .ok (.putfield 33, 3) := by decide +kernel
theorem dx_Reader_next_133 : decode prog_6_method_10_code 133 = .ok (.aload_n 0, 1) := by decide +kernel
theorem dx_Reader_next_134 : decode prog_6_method_10_code 134 = .ok (.dup, 1) := by decide +kernel
theorem dx_Reader_next_135 : decode prog_6_method_10_code 135 = .ok (.getfield 21, 3) := by decide +kernel
theorem dx_Reader_next_138 : decode prog_6_method_10_code 138 = .ok (.iconst 1, 1) := by decide +kernel
theorem dx_Reader_next_139 : decode prog_6_method_10_code 139 = .ok (.iadd, 1) := by decide +kernel
theorem dx_Reader_next_140 : decode prog_6_method_10_code 140 = .ok (.putfield 21, 3) := by decide +kernel
theorem dx_Reader_next_143 : decode prog_6_method_10_code 143 = .ok (.return_, 1) := by decide +kernel
theorem dx_Reader_next_15 : decode prog_6_method_10_code 15 = .ok (.aload_n 0, 1) := by decide +kernel
theorem dx_Reader_next_16 : decode prog_6_method_10_code 16 = .ok (.getfield 21, 3) := by decide +kernel
theorem dx_Reader_next_19 : decode prog_6_method_10_code 19 = .ok (.iaload, 1) := by decide +kernel
theorem dx_Reader_next_20 : decode prog_6_method_10_code 20 = .ok (.bipush 32, 2) := by decide +kernel
theorem dx_Reader_next_22 : decode prog_6_method_10_code 22 = .ok (.if_icmp .ne 16, 3) := by decide +kernel
theorem dx_Reader_next_25 : decode prog_6_method_10_code 25 = .ok (.aload_n 0, 1) := by decide +kernel
theorem dx_Reader_next_26 : decode prog_6_method_10_code 26 = .ok (.dup, 1) := by decide +kernel
theorem dx_Reader_next_27 : decode prog_6_method_10_code 27 = .ok (.getfield 21, 3) := by decide +kernel
theorem dx_Reader_next_30 : decode prog_6_method_10_code 30 = .ok (.iconst 1, 1) := by decide +kernel
theorem dx_Reader_next_31 : decode prog_6_method_10_code 31 = .ok (.iadd, 1) := by decide +kernel
theorem dx_Reader_next_32 : decode prog_6_method_10_code 32 = .ok (.putfield 21, 3) := by decide +kernel
theorem dx_Reader_next_35 : decode prog_6_method_10_code 35 = .ok (.goto (-35), 3) := by decide +kernel
theorem dx_Reader_next_38 : decode prog_6_method_10_code 38 = .ok (.aload_n 0, 1) := by decide +kernel
theorem dx_Reader_next_39 : decode prog_6_method_10_code 39 = .ok (.aload_n 0, 1) := by decide +kernel
theorem dx_Reader_next_4 : decode prog_6_method_10_code 4 = .ok (.aload_n 0, 1) := by decide +kernel
theorem dx_Reader_next_40 : decode prog_6_method_10_code 40 = .ok (.getfield 21, 3) := by decide +kernel
theorem dx_Reader_next_43 : decode prog_6_method_10_code 43 = .ok (.putfield 46, 3) := by decide +kernel
theorem dx_Reader_next_46 : decode prog_6_method_10_code 46 = .ok (.aload_n 0, 1) := by decide +kernel
theorem dx_Reader_next_47 : decode prog_6_method_10_code 47 = .ok (.getfield 21, 3) := by decide +kernel
theorem dx_Reader_next_5 : decode prog_6_method_10_code 5 = .ok (.getfield 15, 3) := by decide +kernel
theorem dx_Reader_next_50 : decode prog_6_method_10_code 50 = .ok (.aload_n 0, 1) := by decide +kernel
theorem dx_Reader_next_51 : decode prog_6_method_10_code 51 = .ok (.getfield 15, 3) := by decide +kernel
theorem dx_Reader_next_54 : decode prog_6_method_10_code 54 = .ok (.if_icmp .lt 11, 3) := by decide +kernel
theorem dx_Reader_next_57 : decode prog_6_method_10_code 57 = .ok (.aload_n 0, 1) := by decide +kernel
theorem dx_Reader_next_58 : decode prog_6_method_10_code 58 = .ok (.iconst 0, 1) := by decide +kernel
theorem dx_Reader_next_59 : decode prog_6_method_10_code 59 = .ok (.putfield 33, 3) := by decide +kernel
theorem dx_Reader_next_62 : decode prog_6_method_10_code 62 = .ok (.goto 81, 3) := by decide +kernel
theorem dx_Reader_next_65 : decode prog_6_method_10_code 65 = .ok (.aload_n 0, 1) := by decide +kernel
theorem dx_Reader_next_66 : decode prog_6_method_10_code 66 = .ok (.getfield 9, 3) := by decide +kernel
theorem dx_Reader_next_69 : decode prog_6_method_10_code 69 = .ok (.aload_n 0, 1) := by decide +kernel
theorem dx_Reader_next_70 : decode prog_6_method_10_code 70 = .ok (.getfield 21, 3) := by decide +kernel
theorem dx_Reader_next_73 : decode prog_6_method_10_code 73 = .ok (.iaload, 1) := by decide +kernel
theorem dx_Reader_next_74 : decode prog_6_method_10_code 74 = .ok (.invokestatic 81, 3) := by decide +kernel
theorem dx_Reader_next_77 : decode prog_6_method_10_code 77 = .ok (.ifCond .eq 10, 3) := by decide +kernel
theorem dx_Reader_next_8 : decode prog_6_method_10_code 8 = .ok (.if_icmp .ge 30, 3) := by decide +kernel
theorem dx_Reader_next_80 : decode prog_6_method_10_code 80 = .ok (.aload_n 0, 1) := by decide +kernel
theorem dx_Reader_next_81 : decode prog_6_method_10_code 81 = .ok (.invokevirtual 84, 3) := by decide +kernel
theorem dx_Reader_next_84 : decode prog_6_method_10_code 84 = .ok (.goto 59, 3) := by decide +kernel
theorem dx_Reader_next_87 : decode prog_6_method_10_code 87 = .ok (.aload_n 0, 1) := by decide +kernel
theorem dx_Reader_next_88 : decode prog_6_method_10_code 88 = .ok (.getfield 9, 3) := by decide +kernel
theorem dx_Reader_next_91 : decode prog_6_method_10_code 91 = .ok (.aload_n 0, 1) := by decide +kernel
theorem dx_Reader_next_92 : decode prog_6_method_10_code 92 = .ok (.getfield 21, 3) := by decide +kernel
theorem dx_Reader_next_95 : decode prog_6_method_10_code 95 = .ok (.iaload, 1) := by decide +kernel
theorem dx_Reader_next_96 : decode prog_6_method_10_code 96 = .ok (.invokestatic 87, 3) := by decide +kernel
theorem dx_Reader_next_99 : decode prog_6_method_10_code 99 = .ok (.ifCond .eq 10, 3) := by decide +kernel
theorem dx_Reader_number_0 : decode prog_6_method_8_code 0 = .ok (.aload_n 0, 1) := by decide +kernel
theorem dx_Reader_number_1 : decode prog_6_method_8_code 1 = .ok (.invokevirtual 30, 3) := by decide +kernel
theorem dx_Reader_number_12 : decode prog_6_method_8_code 12 = .ok (.aload_n 0, 1) := by decide +kernel
theorem dx_Reader_number_13 : decode prog_6_method_8_code 13 = .ok (.getfield 53, 3) := by decide +kernel
theorem dx_Reader_number_16 : decode prog_6_method_8_code 16 = .ok (.iload_n 1, 1) := by decide +kernel
theorem dx_Reader_number_17 : decode prog_6_method_8_code 17 = .ok (.if_icmp .gt 7, 3) := by decide +kernel
theorem dx_Reader_number_20 : decode prog_6_method_8_code 20 = .ok (.iconst 1, 1) := by decide +kernel
theorem dx_Reader_number_21 : decode prog_6_method_8_code 21 = .ok (.goto 4, 3) := by decide +kernel
theorem dx_Reader_number_24 : decode prog_6_method_8_code 24 = .ok (.iconst 0, 1) := by decide +kernel
theorem dx_Reader_number_25 : decode prog_6_method_8_code 25 = .ok (.ireturn, 1) := by decide +kernel
theorem dx_Reader_number_4 : decode prog_6_method_8_code 4 = .ok (.aload_n 0, 1) := by decide +kernel
theorem dx_Reader_number_5 : decode prog_6_method_8_code 5 = .ok (.getfield 33, 3) := by decide +kernel
theorem dx_Reader_number_8 : decode prog_6_method_8_code 8 = .ok (.iconst 4, 1) := by decide +kernel
theorem dx_Reader_number_9 : decode prog_6_method_8_code 9 = .ok (.if_icmp .ne 15, 3) := by decide +kernel
theorem dx_Reader_readInto_0 : decode prog_6_method_3_code 0 = .ok (.aload_n 0, 1) := by decide +kernel
theorem dx_Reader_readInto_1 : decode prog_6_method_3_code 1 = .ok (.iconst 0, 1) := by decide +kernel
theorem dx_Reader_readInto_10 : decode prog_6_method_3_code 10 = .ok (.aload_n 0, 1) := by decide +kernel
theorem dx_Reader_readInto_102 : decode prog_6_method_3_code 102 = .ok (.bipush (-10), 2) := by decide +kernel
theorem dx_Reader_readInto_104 : decode prog_6_method_3_code 104 = .ok (.aload_n 0, 1) := by decide +kernel
theorem dx_Reader_readInto_105 : decode prog_6_method_3_code 105 = .ok (.getfield 46, 3) := by decide +kernel
theorem dx_Reader_readInto_108 : decode prog_6_method_3_code 108 = .ok (.isub, 1) := by decide +kernel
theorem dx_Reader_readInto_109 : decode prog_6_method_3_code 109 = .ok (.ireturn, 1) := by decide +kernel
theorem dx_Reader_readInto_11 : decode prog_6_method_3_code 11 = .ok (.iconst 0, 1) := by decide +kernel
theorem dx_Reader_readInto_12 : decode prog_6_method_3_code 12 = .ok (.putfield 27, 3) := by decide +kernel
theorem dx_Reader_readInto_15 : decode prog_6_method_3_code 15 = .ok (.iconst 0, 1) := by decide +kernel
theorem dx_Reader_readInto_16 : decode prog_6_method_3_code 16 = .ok (.istore_n 2, 1) := by decide +kernel
theorem dx_Reader_readInto_17 : decode prog_6_method_3_code 17 = .ok (.iload_n 2, 1) := by decide +kernel
theorem dx_Reader_readInto_18 : decode prog_6_method_3_code 18 = .ok (.sipush 200, 3) := by decide +kernel
theorem dx_Reader_readInto_2 : decode prog_6_method_3_code 2 = .ok (.putfield 21, 3) := by decide +kernel
theorem dx_Reader_readInto_21 : decode prog_6_method_3_code 21 = .ok (.if_icmp .gt 81, 3) := by decide +kernel
theorem dx_Reader_readInto_24 : decode prog_6_method_3_code 24 = .ok (.aload_n 0, 1) := by decide +kernel
theorem dx_Reader_readInto_25 : decode prog_6_method_3_code 25 = .ok (.invokevirtual 30, 3) := by decide +kernel
theorem dx_Reader_readInto_28 : decode prog_6_method_3_code 28 = .ok (.aload_n 0, 1) := by decide +kernel
theorem dx_Reader_readInto_29 : decode prog_6_method_3_code 29 = .ok (.getfield 33, 3) := by decide +kernel
theorem dx_Reader_readInto_32 : decode prog_6_method_3_code 32 = .ok (.ifCond .ne 5, 3) := by decide +kernel
theorem dx_Reader_readInto_35 : decode prog_6_method_3_code 35 = .ok (.iload_n 2, 1) := by decide +kernel
theorem dx_Reader_readInto_36 : decode prog_6_method_3_code 36 = .ok (.ireturn, 1) := by decide +kernel
theorem dx_Reader_readInto_37 : decode prog_6_method_3_code 37 = .ok (.aload_n 0, 1) := by decide +kernel
theorem dx_Reader_readInto_38 : decode prog_6_method_3_code 38 = .ok (.getfield 33, 3) := by decide +kernel
theorem dx_Reader_readInto_41 : decode prog_6_method_3_code 41 = .ok (.istore_n 3, 1) := by decide +kernel
theorem dx_Reader_readInto_42 : decode prog_6_method_3_code 42 = .ok (.iload_n 3, 1) := by decide +kernel
theorem dx_Reader_readInto_43 : decode prog_6_method_3_code 43 = .ok (.iconst 1, 1) := by decide +kernel
theorem dx_Reader_readInto_44 : decode prog_6_method_3_code 44 = .ok (.if_icmp .ne 11, 3) := by decide +kernel
theorem dx_Reader_readInto_47 : decode prog_6_method_3_code 47 = .ok (.aload_n 0, 1) := by decide +kernel
theorem dx_Reader_readInto_48 : decode prog_6_method_3_code 48 = .ok (.aload_n 1, 1) := by decide +kernel
theorem dx_Reader_readInto_49 : decode prog_6_method_3_code 49 = .ok (.invokevirtual 36, 3) := by decide +kernel
theorem dx_Reader_readInto_5 : decode prog_6_method_3_code 5 = .ok (.aload_n 0, 1) := by decide +kernel
theorem dx_Reader_readInto_52 : decode prog_6_method_3_code 52 = .ok (.ifCond .ne 29, 3) := by decide +kernel
theorem dx_Reader_readInto_55 : decode prog_6_method_3_code 55 = .ok (.iload_n 3, 1) := by decide +kernel
theorem dx_Reader_readInto_56 : decode prog_6_method_3_code 56 = .ok (.iconst 2, 1) := by decide +kernel
theorem dx_Reader_readInto_57 : decode prog_6_method_3_code 57 = .ok (.if_icmp .ne 11, 3) := by decide +kernel
theorem dx_Reader_readInto_6 : decode prog_6_method_3_code 6 = .ok (.iconst 0, 1) := by decide +kernel
theorem dx_Reader_readInto_60 : decode prog_6_method_3_code 60 = .ok (.aload_n 0, 1) := by decide +kernel
theorem dx_Reader_readInto_61 : decode prog_6_method_3_code 61 = .ok (.aload_n 1, 1) := by decide +kernel
theorem dx_Reader_readInto_62 : decode prog_6_method_3_code 62 = .ok (.invokevirtual 40, 3) := by decide +kernel
theorem dx_Reader_readInto_65 : decode prog_6_method_3_code 65 = .ok (.ifCond .ne 16, 3) := by decide +kernel
theorem dx_Reader_readInto_68 : decode prog_6_method_3_code 68 = .ok (.iload_n 3, 1) := by decide +kernel
theorem dx_Reader_readInto_69 : decode prog_6_method_3_code 69 = .ok (.iconst 3, 1) := by decide +kernel
theorem dx_Reader_readInto_7 : decode prog_6_method_3_code 7 = .ok (.putfield 24, 3) := by decide +kernel
theorem dx_Reader_readInto_70 : decode prog_6_method_3_code 70 = .ok (.if_icmp .ne 15, 3) := by decide +kernel
theorem dx_Reader_readInto_73 : decode prog_6_method_3_code 73 = .ok (.aload_n 0, 1) := by decide +kernel
theorem dx_Reader_readInto_74 : decode prog_6_method_3_code 74 = .ok (.aload_n 1, 1) := by decide +kernel
theorem dx_Reader_readInto_75 : decode prog_6_method_3_code 75 = .ok (.invokevirtual 43, 3) := by decide +kernel
theorem dx_Reader_readInto_78 : decode prog_6_method_3_code 78 = .ok (.ifCond .eq 7, 3) := by decide +kernel
theorem dx_Reader_readInto_81 : decode prog_6_method_3_code 81 = .ok (.iconst 1, 1) := by decide +kernel
theorem dx_Reader_readInto_82 : decode prog_6_method_3_code 82 = .ok (.goto 4, 3) := by decide +kernel
theorem dx_Reader_readInto_85 : decode prog_6_method_3_code 85 = .ok (.iconst 0, 1) := by decide +kernel
theorem dx_Reader_readInto_86 : decode prog_6_method_3_code 86 = .ok (.istore 4, 2) := by decide +kernel
theorem dx_Reader_readInto_88 : decode prog_6_method_3_code 88 = .ok (.iload 4, 2) := by decide +kernel
theorem dx_Reader_readInto_90 : decode prog_6_method_3_code 90 = .ok (.ifCond .ne 6, 3) := by decide +kernel
theorem dx_Reader_readInto_93 : decode prog_6_method_3_code 93 = .ok (.goto 9, 3) := by decide +kernel
theorem dx_Reader_readInto_96 : decode prog_6_method_3_code 96 = .ok (.iinc 2 1, 3) := by decide +kernel
theorem dx_Reader_readInto_99 : decode prog_6_method_3_code 99 = .ok (.goto (-82), 3) := by decide +kernel
theorem dx_Reader_spells_0 : decode prog_6_method_12_code 0 = .ok (.aload_n 0, 1) := by decide +kernel
theorem dx_Reader_spells_1 : decode prog_6_method_12_code 1 = .ok (.getfield 21, 3) := by decide +kernel
theorem dx_Reader_spells_10 : decode prog_6_method_12_code 10 = .ok (.invokevirtual 103, 3) := by decide +kernel
theorem dx_Reader_spells_13 : decode prog_6_method_12_code 13 = .ok (.if_icmp .eq 5, 3) := by decide +kernel
theorem dx_Reader_spells_16 : decode prog_6_method_12_code 16 = .ok (.iconst 0, 1) := by decide +kernel
theorem dx_Reader_spells_17 : decode prog_6_method_12_code 17 = .ok (.ireturn, 1) := by decide +kernel
theorem dx_Reader_spells_18 : decode prog_6_method_12_code 18 = .ok (.iconst 0, 1) := by decide +kernel
theorem dx_Reader_spells_19 : decode prog_6_method_12_code 19 = .ok (.istore_n 2, 1) := by decide +kernel
theorem dx_Reader_spells_20 : decode prog_6_method_12_code 20 = .ok (.iload_n 2, 1) := by decide +kernel
theorem dx_Reader_spells_21 : decode prog_6_method_12_code 21 = .ok (.aload_n 1, 1) := by decide +kernel
theorem dx_Reader_spells_22 : decode prog_6_method_12_code 22 = .ok (.invokevirtual 103, 3) := by decide +kernel
theorem dx_Reader_spells_25 : decode prog_6_method_12_code 25 = .ok (.if_icmp .ge 30, 3) := by decide +kernel
theorem dx_Reader_spells_28 : decode prog_6_method_12_code 28 = .ok (.aload_n 0, 1) := by decide +kernel
theorem dx_Reader_spells_29 : decode prog_6_method_12_code 29 = .ok (.getfield 9, 3) := by decide +kernel
theorem dx_Reader_spells_32 : decode prog_6_method_12_code 32 = .ok (.aload_n 0, 1) := by decide +kernel
theorem dx_Reader_spells_33 : decode prog_6_method_12_code 33 = .ok (.getfield 46, 3) := by decide +kernel
theorem dx_Reader_spells_36 : decode prog_6_method_12_code 36 = .ok (.iload_n 2, 1) := by decide +kernel
theorem dx_Reader_spells_37 : decode prog_6_method_12_code 37 = .ok (.iadd, 1) := by decide +kernel
theorem dx_Reader_spells_38 : decode prog_6_method_12_code 38 = .ok (.iaload, 1) := by decide +kernel
theorem dx_Reader_spells_39 : decode prog_6_method_12_code 39 = .ok (.aload_n 1, 1) := by decide +kernel
theorem dx_Reader_spells_4 : decode prog_6_method_12_code 4 = .ok (.aload_n 0, 1) := by decide +kernel
theorem dx_Reader_spells_40 : decode prog_6_method_12_code 40 = .ok (.iload_n 2, 1) := by decide +kernel
theorem dx_Reader_spells_41 : decode prog_6_method_12_code 41 = .ok (.invokevirtual 108, 3) := by decide +kernel
theorem dx_Reader_spells_44 : decode prog_6_method_12_code 44 = .ok (.if_icmp .eq 5, 3) := by decide +kernel
theorem dx_Reader_spells_47 : decode prog_6_method_12_code 47 = .ok (.iconst 0, 1) := by decide +kernel
theorem dx_Reader_spells_48 : decode prog_6_method_12_code 48 = .ok (.ireturn, 1) := by decide +kernel
theorem dx_Reader_spells_49 : decode prog_6_method_12_code 49 = .ok (.iinc 2 1, 3) := by decide +kernel
theorem dx_Reader_spells_5 : decode prog_6_method_12_code 5 = .ok (.getfield 46, 3) := by decide +kernel
theorem dx_Reader_spells_52 : decode prog_6_method_12_code 52 = .ok (.goto (-32), 3) := by decide +kernel
theorem dx_Reader_spells_55 : decode prog_6_method_12_code 55 = .ok (.iconst 1, 1) := by decide +kernel
theorem dx_Reader_spells_56 : decode prog_6_method_12_code 56 = .ok (.ireturn, 1) := by decide +kernel
theorem dx_Reader_spells_8 : decode prog_6_method_12_code 8 = .ok (.isub, 1) := by decide +kernel
theorem dx_Reader_spells_9 : decode prog_6_method_12_code 9 = .ok (.aload_n 1, 1) := by decide +kernel
theorem dx_Reader_stop_0 : decode prog_6_method_9_code 0 = .ok (.aload_n 0, 1) := by decide +kernel
theorem dx_Reader_stop_1 : decode prog_6_method_9_code 1 = .ok (.invokevirtual 30, 3) := by decide +kernel
theorem dx_Reader_stop_12 : decode prog_6_method_9_code 12 = .ok (.iconst 1, 1) := by decide +kernel
theorem dx_Reader_stop_13 : decode prog_6_method_9_code 13 = .ok (.goto 4, 3) := by decide +kernel
theorem dx_Reader_stop_16 : decode prog_6_method_9_code 16 = .ok (.iconst 0, 1) := by decide +kernel
theorem dx_Reader_stop_17 : decode prog_6_method_9_code 17 = .ok (.ireturn, 1) := by decide +kernel
theorem dx_Reader_stop_4 : decode prog_6_method_9_code 4 = .ok (.aload_n 0, 1) := by decide +kernel
theorem dx_Reader_stop_5 : decode prog_6_method_9_code 5 = .ok (.getfield 33, 3) := by decide +kernel
theorem dx_Reader_stop_8 : decode prog_6_method_9_code 8 = .ok (.iconst 5, 1) := by decide +kernel
theorem dx_Reader_stop_9 : decode prog_6_method_9_code 9 = .ok (.if_icmp .ne 7, 3) := by decide +kernel
theorem dx_Reader_thingItem_0 : decode prog_6_method_5_code 0 = .ok (.aload_n 0, 1) := by decide +kernel
theorem dx_Reader_thingItem_1 : decode prog_6_method_5_code 1 = .ok (.getfield 27, 3) := by decide +kernel
theorem dx_Reader_thingItem_11 : decode prog_6_method_5_code 11 = .ok (.invokevirtual 49, 3) := by decide +kernel
theorem dx_Reader_thingItem_14 : decode prog_6_method_5_code 14 = .ok (.ifCond .eq 10, 3) := by decide +kernel
theorem dx_Reader_thingItem_17 : decode prog_6_method_5_code 17 = .ok (.aload_n 0, 1) := by decide +kernel
theorem dx_Reader_thingItem_18 : decode prog_6_method_5_code 18 = .ok (.invokevirtual 56, 3) := by decide +kernel
theorem dx_Reader_thingItem_21 : decode prog_6_method_5_code 21 = .ok (.ifCond .ne 5, 3) := by decide +kernel
theorem dx_Reader_thingItem_24 : decode prog_6_method_5_code 24 = .ok (.iconst 0, 1) := by decide +kernel
theorem dx_Reader_thingItem_25 : decode prog_6_method_5_code 25 = .ok (.ireturn, 1) := by decide +kernel
theorem dx_Reader_thingItem_26 : decode prog_6_method_5_code 26 = .ok (.aload_n 0, 1) := by decide +kernel
theorem dx_Reader_thingItem_27 : decode prog_6_method_5_code 27 = .ok (.dup, 1) := by decide +kernel
theorem dx_Reader_thingItem_28 : decode prog_6_method_5_code 28 = .ok (.getfield 27, 3) := by decide +kernel
theorem dx_Reader_thingItem_31 : decode prog_6_method_5_code 31 = .ok (.iconst 1, 1) := by decide +kernel
theorem dx_Reader_thingItem_32 : decode prog_6_method_5_code 32 = .ok (.iadd, 1) := by decide +kernel
theorem dx_Reader_thingItem_33 : decode prog_6_method_5_code 33 = .ok (.putfield 27, 3) := by decide +kernel
theorem dx_Reader_thingItem_36 : decode prog_6_method_5_code 36 = .ok (.aload_n 1, 1) := by decide +kernel
theorem dx_Reader_thingItem_37 : decode prog_6_method_5_code 37 = .ok (.ifnull 11, 3) := by decide +kernel
theorem dx_Reader_thingItem_4 : decode prog_6_method_5_code 4 = .ok (.iconst 4, 1) := by decide +kernel
theorem dx_Reader_thingItem_40 : decode prog_6_method_5_code 40 = .ok (.aload_n 1, 1) := by decide +kernel
theorem dx_Reader_thingItem_41 : decode prog_6_method_5_code 41 = .ok (.aload_n 0, 1) := by decide +kernel
theorem dx_Reader_thingItem_42 : decode prog_6_method_5_code 42 = .ok (.getfield 53, 3) := by decide +kernel
theorem dx_Reader_thingItem_45 : decode prog_6_method_5_code 45 = .ok (.invokevirtual 66, 3) := by decide +kernel
theorem dx_Reader_thingItem_48 : decode prog_6_method_5_code 48 = .ok (.iconst 1, 1) := by decide +kernel
theorem dx_Reader_thingItem_49 : decode prog_6_method_5_code 49 = .ok (.ireturn, 1) := by decide +kernel
theorem dx_Reader_thingItem_5 : decode prog_6_method_5_code 5 = .ok (.if_icmp .ge 19, 3) := by decide +kernel
theorem dx_Reader_thingItem_8 : decode prog_6_method_5_code 8 = .ok (.aload_n 0, 1) := by decide +kernel
theorem dx_Reader_thingItem_9 : decode prog_6_method_5_code 9 = .ok (.bipush 12, 2) := by decide +kernel
theorem dx_Reader_touchItem_0 : decode prog_6_method_6_code 0 = .ok (.aload_n 0, 1) := by decide +kernel
theorem dx_Reader_touchItem_1 : decode prog_6_method_6_code 1 = .ok (.bipush 7, 2) := by decide +kernel
theorem dx_Reader_touchItem_10 : decode prog_6_method_6_code 10 = .ok (.aload_n 0, 1) := by decide +kernel
theorem dx_Reader_touchItem_100 : decode prog_6_method_6_code 100 = .ok (.getfield 53, 3) := by decide +kernel
theorem dx_Reader_touchItem_103 : decode prog_6_method_6_code 103 = .ok (.invokestatic 77, 3) := by decide +kernel
theorem dx_Reader_touchItem_106 : decode prog_6_method_6_code 106 = .ok (.iconst 1, 1) := by decide +kernel
theorem dx_Reader_touchItem_107 : decode prog_6_method_6_code 107 = .ok (.ireturn, 1) := by decide +kernel
theorem dx_Reader_touchItem_11 : decode prog_6_method_6_code 11 = .ok (.getfield 53, 3) := by decide +kernel
theorem dx_Reader_touchItem_14 : decode prog_6_method_6_code 14 = .ok (.invokevirtual 70, 3) := by decide +kernel
theorem dx_Reader_touchItem_17 : decode prog_6_method_6_code 17 = .ok (.ifCond .ne 5, 3) := by decide +kernel
theorem dx_Reader_touchItem_20 : decode prog_6_method_6_code 20 = .ok (.iconst 0, 1) := by decide +kernel
theorem dx_Reader_touchItem_21 : decode prog_6_method_6_code 21 = .ok (.ireturn, 1) := by decide +kernel
theorem dx_Reader_touchItem_22 : decode prog_6_method_6_code 22 = .ok (.aload_n 0, 1) := by decide +kernel
theorem dx_Reader_touchItem_23 : decode prog_6_method_6_code 23 = .ok (.getfield 53, 3) := by decide +kernel
theorem dx_Reader_touchItem_26 : decode prog_6_method_6_code 26 = .ok (.istore_n 2, 1) := by decide +kernel
theorem dx_Reader_touchItem_27 : decode prog_6_method_6_code 27 = .ok (.aload_n 0, 1) := by decide +kernel
theorem dx_Reader_touchItem_28 : decode prog_6_method_6_code 28 = .ok (.bipush 7, 2) := by decide +kernel
theorem dx_Reader_touchItem_3 : decode prog_6_method_6_code 3 = .ok (.invokevirtual 49, 3) := by decide +kernel
theorem dx_Reader_touchItem_30 : decode prog_6_method_6_code 30 = .ok (.invokevirtual 49, 3) := by decide +kernel
theorem dx_Reader_touchItem_33 : decode prog_6_method_6_code 33 = .ok (.ifCond .eq 22, 3) := by decide +kernel
theorem dx_Reader_touchItem_36 : decode prog_6_method_6_code 36 = .ok (.aload_n 0, 1) := by decide +kernel
theorem dx_Reader_touchItem_37 : decode prog_6_method_6_code 37 = .ok (.aload_n 0, 1) := by decide +kernel
theorem dx_Reader_touchItem_38 : decode prog_6_method_6_code 38 = .ok (.getfield 53, 3) := by decide +kernel
theorem dx_Reader_touchItem_41 : decode prog_6_method_6_code 41 = .ok (.invokevirtual 70, 3) := by decide +kernel
theorem dx_Reader_touchItem_44 : decode prog_6_method_6_code 44 = .ok (.ifCond .eq 11, 3) := by decide +kernel
theorem dx_Reader_touchItem_47 : decode prog_6_method_6_code 47 = .ok (.aload_n 0, 1) := by decide +kernel
theorem dx_Reader_touchItem_48 : decode prog_6_method_6_code 48 = .ok (.getfield 53, 3) := by decide +kernel
theorem dx_Reader_touchItem_51 : decode prog_6_method_6_code 51 = .ok (.iload_n 2, 1) := by decide +kernel
theorem dx_Reader_touchItem_52 : decode prog_6_method_6_code 52 = .ok (.if_icmp .ne 5, 3) := by decide +kernel
theorem dx_Reader_touchItem_55 : decode prog_6_method_6_code 55 = .ok (.iconst 0, 1) := by decide +kernel
theorem dx_Reader_touchItem_56 : decode prog_6_method_6_code 56 = .ok (.ireturn, 1) := by decide +kernel
theorem dx_Reader_touchItem_57 : decode prog_6_method_6_code 57 = .ok (.aload_n 0, 1) := by decide +kernel
theorem dx_Reader_touchItem_58 : decode prog_6_method_6_code 58 = .ok (.getfield 53, 3) := by decide +kernel
theorem dx_Reader_touchItem_6 : decode prog_6_method_6_code 6 = .ok (.ifCond .eq 14, 3) := by decide +kernel
theorem dx_Reader_touchItem_61 : decode prog_6_method_6_code 61 = .ok (.istore_n 3, 1) := by decide +kernel
theorem dx_Reader_touchItem_62 : decode prog_6_method_6_code 62 = .ok (.iload_n 2, 1) := by decide +kernel
theorem dx_Reader_touchItem_63 : decode prog_6_method_6_code 63 = .ok (.iconst 4, 1) := by decide +kernel
theorem dx_Reader_touchItem_64 : decode prog_6_method_6_code 64 = .ok (.if_icmp .lt 8, 3) := by decide +kernel
theorem dx_Reader_touchItem_67 : decode prog_6_method_6_code 67 = .ok (.iload_n 3, 1) := by decide +kernel
theorem dx_Reader_touchItem_68 : decode prog_6_method_6_code 68 = .ok (.iconst 4, 1) := by decide +kernel
theorem dx_Reader_touchItem_69 : decode prog_6_method_6_code 69 = .ok (.if_icmp .ge 18, 3) := by decide +kernel
theorem dx_Reader_touchItem_72 : decode prog_6_method_6_code 72 = .ok (.aload_n 0, 1) := by decide +kernel
theorem dx_Reader_touchItem_73 : decode prog_6_method_6_code 73 = .ok (.iconst 3, 1) := by decide +kernel
theorem dx_Reader_touchItem_74 : decode prog_6_method_6_code 74 = .ok (.invokevirtual 49, 3) := by decide +kernel
theorem dx_Reader_touchItem_77 : decode prog_6_method_6_code 77 = .ok (.ifCond .eq 10, 3) := by decide +kernel
theorem dx_Reader_touchItem_80 : decode prog_6_method_6_code 80 = .ok (.aload_n 0, 1) := by decide +kernel
theorem dx_Reader_touchItem_81 : decode prog_6_method_6_code 81 = .ok (.invokevirtual 56, 3) := by decide +kernel
theorem dx_Reader_touchItem_84 : decode prog_6_method_6_code 84 = .ok (.ifCond .ne 5, 3) := by decide +kernel
theorem dx_Reader_touchItem_87 : decode prog_6_method_6_code 87 = .ok (.iconst 0, 1) := by decide +kernel
theorem dx_Reader_touchItem_88 : decode prog_6_method_6_code 88 = .ok (.ireturn, 1) := by decide +kernel
theorem dx_Reader_touchItem_89 : decode prog_6_method_6_code 89 = .ok (.aload_n 1, 1) := by decide +kernel
theorem dx_Reader_touchItem_9 : decode prog_6_method_6_code 9 = .ok (.aload_n 0, 1) := by decide +kernel
theorem dx_Reader_touchItem_90 : decode prog_6_method_6_code 90 = .ok (.ifnull 16, 3) := by decide +kernel
theorem dx_Reader_touchItem_93 : decode prog_6_method_6_code 93 = .ok (.aload_n 1, 1) := by decide +kernel
theorem dx_Reader_touchItem_94 : decode prog_6_method_6_code 94 = .ok (.getfield 73, 3) := by decide +kernel
theorem dx_Reader_touchItem_97 : decode prog_6_method_6_code 97 = .ok (.iload_n 2, 1) := by decide +kernel
theorem dx_Reader_touchItem_98 : decode prog_6_method_6_code 98 = .ok (.iload_n 3, 1) := by decide +kernel
theorem dx_Reader_touchItem_99 : decode prog_6_method_6_code 99 = .ok (.aload_n 0, 1) := by decide +kernel
theorem dx_Resting_fill_0 : decode prog_7_method_3_code 0 = .ok (.iconst 0, 1) := by decide +kernel
theorem dx_Resting_fill_1 : decode prog_7_method_3_code 1 = .ok (.istore_n 2, 1) := by decide +kernel
theorem dx_Resting_fill_100 : decode prog_7_method_3_code 100 = .ok (.getfield 11, 3) := by decide +kernel
theorem dx_Resting_fill_103 : decode prog_7_method_3_code 103 = .ok (.iload_n 2, 1) := by decide +kernel
theorem dx_Resting_fill_104 : decode prog_7_method_3_code 104 = .ok (.aaload, 1) := by decide +kernel
theorem dx_Resting_fill_105 : decode prog_7_method_3_code 105 = .ok (.iload_n 2, 1) := by decide +kernel
theorem dx_Resting_fill_106 : decode prog_7_method_3_code 106 = .ok (.iload_n 3, 1) := by decide +kernel
theorem dx_Resting_fill_107 : decode prog_7_method_3_code 107 = .ok (.ifCond .eq 7, 3) := by decide +kernel
theorem dx_Resting_fill_110 : decode prog_7_method_3_code 110 = .ok (.iconst 1, 1) := by decide +kernel
theorem dx_Resting_fill_111 : decode prog_7_method_3_code 111 = .ok (.goto 18, 3) := by decide +kernel
theorem dx_Resting_fill_114 : decode prog_7_method_3_code 114 = .ok (.aload_n 1, 1) := by decide +kernel
theorem dx_Resting_fill_115 : decode prog_7_method_3_code 115 = .ok (.getfield 35, 3) := by decide +kernel
theorem dx_Resting_fill_118 : decode prog_7_method_3_code 118 = .ok (.iload_n 2, 1) := by decide +kernel
theorem dx_Resting_fill_119 : decode prog_7_method_3_code 119 = .ok (.iaload, 1) := by decide +kernel
theorem dx_Resting_fill_12 : decode prog_7_method_3_code 12 = .ok (.if_icmp .ge 12, 3) := by decide +kernel
theorem dx_Resting_fill_120 : decode prog_7_method_3_code 120 = .ok (.aload_n 1, 1) := by decide +kernel
theorem dx_Resting_fill_121 : decode prog_7_method_3_code 121 = .ok (.getfield 43, 3) := by decide +kernel
theorem dx_Resting_fill_124 : decode prog_7_method_3_code 124 = .ok (.iload_n 2, 1) := by decide +kernel
theorem dx_Resting_fill_125 : decode prog_7_method_3_code 125 = .ok (.aaload, 1) := by decide +kernel
theorem dx_Resting_fill_126 : decode prog_7_method_3_code 126 = .ok (.iload_n 2, 1) := by decide +kernel
theorem dx_Resting_fill_127 : decode prog_7_method_3_code 127 = .ok (.iaload, 1) := by decide +kernel
theorem dx_Resting_fill_128 : decode prog_7_method_3_code 128 = .ok (.isub, 1) := by decide +kernel
theorem dx_Resting_fill_129 : decode prog_7_method_3_code 129 = .ok (.iastore, 1) := by decide +kernel
theorem dx_Resting_fill_130 : decode prog_7_method_3_code 130 = .ok (.iinc 2 1, 3) := by decide +kernel
theorem dx_Resting_fill_133 : decode prog_7_method_3_code 133 = .ok (.goto (-131), 3) := by decide +kernel
theorem dx_Resting_fill_136 : decode prog_7_method_3_code 136 = .ok (.return_, 1) := by decide +kernel
theorem dx_Resting_fill_15 : decode prog_7_method_3_code 15 = .ok (.aload_n 1, 1) := by decide +kernel
theorem dx_Resting_fill_16 : decode prog_7_method_3_code 16 = .ok (.getfield 35, 3) := by decide +kernel
theorem dx_Resting_fill_19 : decode prog_7_method_3_code 19 = .ok (.iload_n 2, 1) := by decide +kernel
theorem dx_Resting_fill_2 : decode prog_7_method_3_code 2 = .ok (.iload_n 2, 1) := by decide +kernel
theorem dx_Resting_fill_20 : decode prog_7_method_3_code 20 = .ok (.iaload, 1) := by decide +kernel
theorem dx_Resting_fill_21 : decode prog_7_method_3_code 21 = .ok (.ifCond .ne 7, 3) := by decide +kernel
theorem dx_Resting_fill_24 : decode prog_7_method_3_code 24 = .ok (.iconst 1, 1) := by decide +kernel
theorem dx_Resting_fill_25 : decode prog_7_method_3_code 25 = .ok (.goto 4, 3) := by decide +kernel
theorem dx_Resting_fill_28 : decode prog_7_method_3_code 28 = .ok (.iconst 0, 1) := by decide +kernel
theorem dx_Resting_fill_29 : decode prog_7_method_3_code 29 = .ok (.istore_n 3, 1) := by decide +kernel
theorem dx_Resting_fill_3 : decode prog_7_method_3_code 3 = .ok (.iconst 4, 1) := by decide +kernel
theorem dx_Resting_fill_30 : decode prog_7_method_3_code 30 = .ok (.iconst 0, 1) := by decide +kernel
theorem dx_Resting_fill_31 : decode prog_7_method_3_code 31 = .ok (.istore 4, 2) := by decide +kernel
theorem dx_Resting_fill_33 : decode prog_7_method_3_code 33 = .ok (.iload 4, 2) := by decide +kernel
theorem dx_Resting_fill_35 : decode prog_7_method_3_code 35 = .ok (.iconst 4, 1) := by decide +kernel
theorem dx_Resting_fill_36 : decode prog_7_method_3_code 36 = .ok (.if_icmp .ge 63, 3) := by decide +kernel
theorem dx_Resting_fill_39 : decode prog_7_method_3_code 39 = .ok (.iload_n 3, 1) := by decide +kernel
theorem dx_Resting_fill_4 : decode prog_7_method_3_code 4 = .ok (.if_icmp .ge 132, 3) := by decide +kernel
theorem dx_Resting_fill_40 : decode prog_7_method_3_code 40 = .ok (.ifCond .ne 22, 3) := by decide +kernel
theorem dx_Resting_fill_43 : decode prog_7_method_3_code 43 = .ok (.iload 4, 2) := by decide +kernel
theorem dx_Resting_fill_45 : decode prog_7_method_3_code 45 = .ok (.iload_n 2, 1) := by decide +kernel
theorem dx_Resting_fill_46 : decode prog_7_method_3_code 46 = .ok (.if_icmp .eq 16, 3) := by decide +kernel
theorem dx_Resting_fill_49 : decode prog_7_method_3_code 49 = .ok (.iload 4, 2) := by decide +kernel
theorem dx_Resting_fill_51 : decode prog_7_method_3_code 51 = .ok (.aload_n 1, 1) := by decide +kernel
theorem dx_Resting_fill_52 : decode prog_7_method_3_code 52 = .ok (.getfield 29, 3) := by decide +kernel
theorem dx_Resting_fill_55 : decode prog_7_method_3_code 55 = .ok (.if_icmp .ge 7, 3) := by decide +kernel
theorem dx_Resting_fill_58 : decode prog_7_method_3_code 58 = .ok (.iconst 1, 1) := by decide +kernel
theorem dx_Resting_fill_59 : decode prog_7_method_3_code 59 = .ok (.goto 4, 3) := by decide +kernel
theorem dx_Resting_fill_62 : decode prog_7_method_3_code 62 = .ok (.iconst 0, 1) := by decide +kernel
theorem dx_Resting_fill_63 : decode prog_7_method_3_code 63 = .ok (.istore 5, 2) := by decide +kernel
theorem dx_Resting_fill_65 : decode prog_7_method_3_code 65 = .ok (.aload_n 0, 1) := by decide +kernel
theorem dx_Resting_fill_66 : decode prog_7_method_3_code 66 = .ok (.getfield 11, 3) := by decide +kernel
theorem dx_Resting_fill_69 : decode prog_7_method_3_code 69 = .ok (.iload_n 2, 1) := by decide +kernel
theorem dx_Resting_fill_7 : decode prog_7_method_3_code 7 = .ok (.iload_n 2, 1) := by decide +kernel
theorem dx_Resting_fill_70 : decode prog_7_method_3_code 70 = .ok (.aaload, 1) := by decide +kernel
theorem dx_Resting_fill_71 : decode prog_7_method_3_code 71 = .ok (.iload 4, 2) := by decide +kernel
theorem dx_Resting_fill_73 : decode prog_7_method_3_code 73 = .ok (.iload 5, 2) := by decide +kernel
theorem dx_Resting_fill_75 : decode prog_7_method_3_code 75 = .ok (.ifCond .eq 16, 3) := by decide +kernel
theorem dx_Resting_fill_78 : decode prog_7_method_3_code 78 = .ok (.aload_n 1, 1) := by decide +kernel
theorem dx_Resting_fill_79 : decode prog_7_method_3_code 79 = .ok (.getfield 43, 3) := by decide +kernel
theorem dx_Resting_fill_8 : decode prog_7_method_3_code 8 = .ok (.aload_n 1, 1) := by decide +kernel
theorem dx_Resting_fill_82 : decode prog_7_method_3_code 82 = .ok (.iload_n 2, 1) := by decide +kernel
theorem dx_Resting_fill_83 : decode prog_7_method_3_code 83 = .ok (.aaload, 1) := by decide +kernel
theorem dx_Resting_fill_84 : decode prog_7_method_3_code 84 = .ok (.iload 4, 2) := by decide +kernel
theorem dx_Resting_fill_86 : decode prog_7_method_3_code 86 = .ok (.iaload, 1) := by decide +kernel
theorem dx_Resting_fill_87 : decode prog_7_method_3_code 87 = .ok (.ineg, 1) := by decide +kernel
theorem dx_Resting_fill_88 : decode prog_7_method_3_code 88 = .ok (.goto 4, 3) := by decide +kernel
theorem dx_Resting_fill_9 : decode prog_7_method_3_code 9 = .ok (.getfield 29, 3) := by decide +kernel
theorem dx_Resting_fill_91 : decode prog_7_method_3_code 91 = .ok (.iconst 0, 1) := by decide +kernel
theorem dx_Resting_fill_92 : decode prog_7_method_3_code 92 = .ok (.iastore, 1) := by decide +kernel
theorem dx_Resting_fill_93 : decode prog_7_method_3_code 93 = .ok (.iinc 4 1, 3) := by decide +kernel
theorem dx_Resting_fill_96 : decode prog_7_method_3_code 96 = .ok (.goto (-63), 3) := by decide +kernel
theorem dx_Resting_fill_99 : decode prog_7_method_3_code 99 = .ok (.aload_n 0, 1) := by decide +kernel
theorem dx_Resting_minor_0 : decode prog_7_method_4_code 0 = .ok (.aload_n 0, 1) := by decide +kernel
theorem dx_Resting_minor_1 : decode prog_7_method_4_code 1 = .ok (.getfield 11, 3) := by decide +kernel
theorem dx_Resting_minor_101 : decode prog_7_method_4_code 101 = .ok (.iload 8, 2) := by decide +kernel
theorem dx_Resting_minor_103 : decode prog_7_method_4_code 103 = .ok (.iaload, 1) := by decide +kernel
theorem dx_Resting_minor_104 : decode prog_7_method_4_code 104 = .ok (.aload 5, 2) := by decide +kernel
theorem dx_Resting_minor_106 : decode prog_7_method_4_code 106 = .ok (.iload 7, 2) := by decide +kernel
theorem dx_Resting_minor_108 : decode prog_7_method_4_code 108 = .ok (.iaload, 1) := by decide +kernel
theorem dx_Resting_minor_109 : decode prog_7_method_4_code 109 = .ok (.imul, 1) := by decide +kernel
theorem dx_Resting_minor_110 : decode prog_7_method_4_code 110 = .ok (.isub, 1) := by decide +kernel
theorem dx_Resting_minor_111 : decode prog_7_method_4_code 111 = .ok (.imul, 1) := by decide +kernel
theorem dx_Resting_minor_112 : decode prog_7_method_4_code 112 = .ok (.aload_n 3, 1) := by decide +kernel
theorem dx_Resting_minor_113 : decode prog_7_method_4_code 113 = .ok (.iload 7, 2) := by decide +kernel
theorem dx_Resting_minor_115 : decode prog_7_method_4_code 115 = .ok (.iaload, 1) := by decide +kernel
theorem dx_Resting_minor_116 : decode prog_7_method_4_code 116 = .ok (.aload 4, 2) := by decide +kernel
theorem dx_Resting_minor_118 : decode prog_7_method_4_code 118 = .ok (.iload 6, 2) := by decide +kernel
theorem dx_Resting_minor_12 : decode prog_7_method_4_code 12 = .ok (.iconst 0, 1) := by decide +kernel
theorem dx_Resting_minor_120 : decode prog_7_method_4_code 120 = .ok (.iaload, 1) := by decide +kernel
theorem dx_Resting_minor_121 : decode prog_7_method_4_code 121 = .ok (.aload 5, 2) := by decide +kernel
theorem dx_Resting_minor_123 : decode prog_7_method_4_code 123 = .ok (.iload 8, 2) := by decide +kernel
theorem dx_Resting_minor_125 : decode prog_7_method_4_code 125 = .ok (.iaload, 1) := by decide +kernel
theorem dx_Resting_minor_126 : decode prog_7_method_4_code 126 = .ok (.imul, 1) := by decide +kernel
theorem dx_Resting_minor_127 : decode prog_7_method_4_code 127 = .ok (.aload 4, 2) := by decide +kernel
theorem dx_Resting_minor_129 : decode prog_7_method_4_code 129 = .ok (.iload 8, 2) := by decide +kernel
theorem dx_Resting_minor_13 : decode prog_7_method_4_code 13 = .ok (.aaload, 1) := by decide +kernel
theorem dx_Resting_minor_131 : decode prog_7_method_4_code 131 = .ok (.iaload, 1) := by decide +kernel
theorem dx_Resting_minor_132 : decode prog_7_method_4_code 132 = .ok (.aload 5, 2) := by decide +kernel
theorem dx_Resting_minor_134 : decode prog_7_method_4_code 134 = .ok (.iload 6, 2) := by decide +kernel
theorem dx_Resting_minor_136 : decode prog_7_method_4_code 136 = .ok (.iaload, 1) := by decide +kernel
theorem dx_Resting_minor_137 : decode prog_7_method_4_code 137 = .ok (.imul, 1) := by decide +kernel
theorem dx_Resting_minor_138 : decode prog_7_method_4_code 138 = .ok (.isub, 1) := by decide +kernel
theorem dx_Resting_minor_139 : decode prog_7_method_4_code 139 = .ok (.imul, 1) := by decide +kernel
theorem dx_Resting_minor_14 : decode prog_7_method_4_code 14 = .ok (.astore_n 3, 1) := by decide +kernel
theorem dx_Resting_minor_140 : decode prog_7_method_4_code 140 = .ok (.isub, 1) := by decide +kernel
theorem dx_Resting_minor_141 : decode prog_7_method_4_code 141 = .ok (.aload_n 3, 1) := by decide +kernel
theorem dx_Resting_minor_142 : decode prog_7_method_4_code 142 = .ok (.iload 8, 2) := by decide +kernel
theorem dx_Resting_minor_144 : decode prog_7_method_4_code 144 = .ok (.iaload, 1) := by decide +kernel
theorem dx_Resting_minor_145 : decode prog_7_method_4_code 145 = .ok (.aload 4, 2) := by decide +kernel
theorem dx_Resting_minor_147 : decode prog_7_method_4_code 147 = .ok (.iload 6, 2) := by decide +kernel
theorem dx_Resting_minor_149 : decode prog_7_method_4_code 149 = .ok (.iaload, 1) := by decide +kernel
theorem dx_Resting_minor_15 : decode prog_7_method_4_code 15 = .ok (.aload_n 0, 1) := by decide +kernel
theorem dx_Resting_minor_150 : decode prog_7_method_4_code 150 = .ok (.aload 5, 2) := by decide +kernel
theorem dx_Resting_minor_152 : decode prog_7_method_4_code 152 = .ok (.iload 7, 2) := by decide +kernel
theorem dx_Resting_minor_154 : decode prog_7_method_4_code 154 = .ok (.iaload, 1) := by decide +kernel
theorem dx_Resting_minor_155 : decode prog_7_method_4_code 155 = .ok (.imul, 1) := by decide +kernel
theorem dx_Resting_minor_156 : decode prog_7_method_4_code 156 = .ok (.aload 4, 2) := by decide +kernel
theorem dx_Resting_minor_158 : decode prog_7_method_4_code 158 = .ok (.iload 7, 2) := by decide +kernel
theorem dx_Resting_minor_16 : decode prog_7_method_4_code 16 = .ok (.getfield 11, 3) := by decide +kernel
theorem dx_Resting_minor_160 : decode prog_7_method_4_code 160 = .ok (.iaload, 1) := by decide +kernel
theorem dx_Resting_minor_161 : decode prog_7_method_4_code 161 = .ok (.aload 5, 2) := by decide +kernel
theorem dx_Resting_minor_163 : decode prog_7_method_4_code 163 = .ok (.iload 6, 2) := by decide +kernel
theorem dx_Resting_minor_165 : decode prog_7_method_4_code 165 = .ok (.iaload, 1) := by decide +kernel
theorem dx_Resting_minor_166 : decode prog_7_method_4_code 166 = .ok (.imul, 1) := by decide +kernel
theorem dx_Resting_minor_167 : decode prog_7_method_4_code 167 = .ok (.isub, 1) := by decide +kernel
theorem dx_Resting_minor_168 : decode prog_7_method_4_code 168 = .ok (.imul, 1) := by decide +kernel
theorem dx_Resting_minor_169 : decode prog_7_method_4_code 169 = .ok (.iadd, 1) := by decide +kernel
theorem dx_Resting_minor_170 : decode prog_7_method_4_code 170 = .ok (.ireturn, 1) := by decide +kernel
theorem dx_Resting_minor_19 : decode prog_7_method_4_code 19 = .ok (.iload_n 1, 1) := by decide +kernel
theorem dx_Resting_minor_20 : decode prog_7_method_4_code 20 = .ok (.iconst 1, 1) := by decide +kernel
theorem dx_Resting_minor_21 : decode prog_7_method_4_code 21 = .ok (.if_icmp .gt 7, 3) := by decide +kernel
theorem dx_Resting_minor_24 : decode prog_7_method_4_code 24 = .ok (.iconst 2, 1) := by decide +kernel
theorem dx_Resting_minor_25 : decode prog_7_method_4_code 25 = .ok (.goto 4, 3) := by decide +kernel
theorem dx_Resting_minor_28 : decode prog_7_method_4_code 28 = .ok (.iconst 1, 1) := by decide +kernel
theorem dx_Resting_minor_29 : decode prog_7_method_4_code 29 = .ok (.aaload, 1) := by decide +kernel
theorem dx_Resting_minor_30 : decode prog_7_method_4_code 30 = .ok (.astore 4, 2) := by decide +kernel
theorem dx_Resting_minor_32 : decode prog_7_method_4_code 32 = .ok (.aload_n 0, 1) := by decide +kernel
theorem dx_Resting_minor_33 : decode prog_7_method_4_code 33 = .ok (.getfield 11, 3) := by decide +kernel
theorem dx_Resting_minor_36 : decode prog_7_method_4_code 36 = .ok (.iload_n 1, 1) := by decide +kernel
theorem dx_Resting_minor_37 : decode prog_7_method_4_code 37 = .ok (.iconst 2, 1) := by decide +kernel
theorem dx_Resting_minor_38 : decode prog_7_method_4_code 38 = .ok (.if_icmp .gt 7, 3) := by decide +kernel
theorem dx_Resting_minor_4 : decode prog_7_method_4_code 4 = .ok (.iload_n 1, 1) := by decide +kernel
theorem dx_Resting_minor_41 : decode prog_7_method_4_code 41 = .ok (.iconst 3, 1) := by decide +kernel
theorem dx_Resting_minor_42 : decode prog_7_method_4_code 42 = .ok (.goto 4, 3) := by decide +kernel
theorem dx_Resting_minor_45 : decode prog_7_method_4_code 45 = .ok (.iconst 2, 1) := by decide +kernel
theorem dx_Resting_minor_46 : decode prog_7_method_4_code 46 = .ok (.aaload, 1) := by decide +kernel
theorem dx_Resting_minor_47 : decode prog_7_method_4_code 47 = .ok (.astore 5, 2) := by decide +kernel
theorem dx_Resting_minor_49 : decode prog_7_method_4_code 49 = .ok (.iload_n 2, 1) := by decide +kernel
theorem dx_Resting_minor_5 : decode prog_7_method_4_code 5 = .ok (.ifCond .ne 7, 3) := by decide +kernel
theorem dx_Resting_minor_50 : decode prog_7_method_4_code 50 = .ok (.ifCond .ne 7, 3) := by decide +kernel
theorem dx_Resting_minor_53 : decode prog_7_method_4_code 53 = .ok (.iconst 1, 1) := by decide +kernel
theorem dx_Resting_minor_54 : decode prog_7_method_4_code 54 = .ok (.goto 4, 3) := by decide +kernel
theorem dx_Resting_minor_57 : decode prog_7_method_4_code 57 = .ok (.iconst 0, 1) := by decide +kernel
theorem dx_Resting_minor_58 : decode prog_7_method_4_code 58 = .ok (.istore 6, 2) := by decide +kernel
theorem dx_Resting_minor_60 : decode prog_7_method_4_code 60 = .ok (.iload_n 2, 1) := by decide +kernel
theorem dx_Resting_minor_61 : decode prog_7_method_4_code 61 = .ok (.iconst 1, 1) := by decide +kernel
theorem dx_Resting_minor_62 : decode prog_7_method_4_code 62 = .ok (.if_icmp .gt 7, 3) := by decide +kernel
theorem dx_Resting_minor_65 : decode prog_7_method_4_code 65 = .ok (.iconst 2, 1) := by decide +kernel
theorem dx_Resting_minor_66 : decode prog_7_method_4_code 66 = .ok (.goto 4, 3) := by decide +kernel
theorem dx_Resting_minor_69 : decode prog_7_method_4_code 69 = .ok (.iconst 1, 1) := by decide +kernel
theorem dx_Resting_minor_70 : decode prog_7_method_4_code 70 = .ok (.istore 7, 2) := by decide +kernel
theorem dx_Resting_minor_72 : decode prog_7_method_4_code 72 = .ok (.iload_n 2, 1) := by decide +kernel
theorem dx_Resting_minor_73 : decode prog_7_method_4_code 73 = .ok (.iconst 2, 1) := by decide +kernel
theorem dx_Resting_minor_74 : decode prog_7_method_4_code 74 = .ok (.if_icmp .gt 7, 3) := by decide +kernel
theorem dx_Resting_minor_77 : decode prog_7_method_4_code 77 = .ok (.iconst 3, 1) := by decide +kernel
theorem dx_Resting_minor_78 : decode prog_7_method_4_code 78 = .ok (.goto 4, 3) := by decide +kernel
theorem dx_Resting_minor_8 : decode prog_7_method_4_code 8 = .ok (.iconst 1, 1) := by decide +kernel
theorem dx_Resting_minor_81 : decode prog_7_method_4_code 81 = .ok (.iconst 2, 1) := by decide +kernel
theorem dx_Resting_minor_82 : decode prog_7_method_4_code 82 = .ok (.istore 8, 2) := by decide +kernel
theorem dx_Resting_minor_84 : decode prog_7_method_4_code 84 = .ok (.aload_n 3, 1) := by decide +kernel
theorem dx_Resting_minor_85 : decode prog_7_method_4_code 85 = .ok (.iload 6, 2) := by decide +kernel
theorem dx_Resting_minor_87 : decode prog_7_method_4_code 87 = .ok (.iaload, 1) := by decide +kernel
theorem dx_Resting_minor_88 : decode prog_7_method_4_code 88 = .ok (.aload 4, 2) := by decide +kernel
theorem dx_Resting_minor_9 : decode prog_7_method_4_code 9 = .ok (.goto 4, 3) := by decide +kernel
theorem dx_Resting_minor_90 : decode prog_7_method_4_code 90 = .ok (.iload 7, 2) := by decide +kernel
theorem dx_Resting_minor_92 : decode prog_7_method_4_code 92 = .ok (.iaload, 1) := by decide +kernel
theorem dx_Resting_minor_93 : decode prog_7_method_4_code 93 = .ok (.aload 5, 2) := by decide +kernel
theorem dx_Resting_minor_95 : decode prog_7_method_4_code 95 = .ok (.iload 8, 2) := by decide +kernel
theorem dx_Resting_minor_97 : decode prog_7_method_4_code 97 = .ok (.iaload, 1) := by decide +kernel
theorem dx_Resting_minor_98 : decode prog_7_method_4_code 98 = .ok (.imul, 1) := by decide +kernel
theorem dx_Resting_minor_99 : decode prog_7_method_4_code 99 = .ok (.aload 4, 2) := by decide +kernel
theorem dx_Resting_solve_0 : decode prog_7_method_2_code 0 = .ok (.aload_n 0, 1) := by decide +kernel
theorem dx_Resting_solve_1 : decode prog_7_method_2_code 1 = .ok (.aload_n 1, 1) := by decide +kernel
theorem dx_Resting_solve_10 : decode prog_7_method_2_code 10 = .ok (.istore 4, 2) := by decide +kernel
theorem dx_Resting_solve_100 : decode prog_7_method_2_code 100 = .ok (.ladd, 1) := by decide +kernel
theorem dx_Resting_solve_101 : decode prog_7_method_2_code 101 = .ok (.lastore, 1) := by decide +kernel
theorem dx_Resting_solve_102 : decode prog_7_method_2_code 102 = .ok (.goto 26, 3) := by decide +kernel
theorem dx_Resting_solve_105 : decode prog_7_method_2_code 105 = .ok (.aload_n 3, 1) := by decide +kernel
theorem dx_Resting_solve_106 : decode prog_7_method_2_code 106 = .ok (.getfield 39, 3) := by decide +kernel
theorem dx_Resting_solve_109 : decode prog_7_method_2_code 109 = .ok (.iconst 4, 1) := by decide +kernel
theorem dx_Resting_solve_110 : decode prog_7_method_2_code 110 = .ok (.dup2, 1) := by decide +kernel
theorem dx_Resting_solve_111 : decode prog_7_method_2_code 111 = .ok (.laload, 1) := by decide +kernel
theorem dx_Resting_solve_112 : decode prog_7_method_2_code 112 = .ok (.iload 6, 2) := by decide +kernel
theorem dx_Resting_solve_114 : decode prog_7_method_2_code 114 = .ok (.i2l, 1) := by decide +kernel
theorem dx_Resting_solve_115 : decode prog_7_method_2_code 115 = .ok (.aload_n 1, 1) := by decide +kernel
theorem dx_Resting_solve_116 : decode prog_7_method_2_code 116 = .ok (.getfield 43, 3) := by decide +kernel
theorem dx_Resting_solve_119 : decode prog_7_method_2_code 119 = .ok (.iload 5, 2) := by decide +kernel
theorem dx_Resting_solve_12 : decode prog_7_method_2_code 12 = .ok (.iconst 0, 1) := by decide +kernel
theorem dx_Resting_solve_121 : decode prog_7_method_2_code 121 = .ok (.aaload, 1) := by decide +kernel
theorem dx_Resting_solve_122 : decode prog_7_method_2_code 122 = .ok (.iconst 4, 1) := by decide +kernel
theorem dx_Resting_solve_123 : decode prog_7_method_2_code 123 = .ok (.iaload, 1) := by decide +kernel
theorem dx_Resting_solve_124 : decode prog_7_method_2_code 124 = .ok (.i2l, 1) := by decide +kernel
theorem dx_Resting_solve_125 : decode prog_7_method_2_code 125 = .ok (.lmul, 1) := by decide +kernel
theorem dx_Resting_solve_126 : decode prog_7_method_2_code 126 = .ok (.ladd, 1) := by decide +kernel
theorem dx_Resting_solve_127 : decode prog_7_method_2_code 127 = .ok (.lastore, 1) := by decide +kernel
theorem dx_Resting_solve_128 : decode prog_7_method_2_code 128 = .ok (.iinc 5 1, 3) := by decide +kernel
theorem dx_Resting_solve_13 : decode prog_7_method_2_code 13 = .ok (.istore 5, 2) := by decide +kernel
theorem dx_Resting_solve_131 : decode prog_7_method_2_code 131 = .ok (.goto (-116), 3) := by decide +kernel
theorem dx_Resting_solve_134 : decode prog_7_method_2_code 134 = .ok (.iload 4, 2) := by decide +kernel
theorem dx_Resting_solve_136 : decode prog_7_method_2_code 136 = .ok (.ireturn, 1) := by decide +kernel
theorem dx_Resting_solve_15 : decode prog_7_method_2_code 15 = .ok (.iload 5, 2) := by decide +kernel
theorem dx_Resting_solve_17 : decode prog_7_method_2_code 17 = .ok (.iconst 4, 1) := by decide +kernel
theorem dx_Resting_solve_18 : decode prog_7_method_2_code 18 = .ok (.if_icmp .ge 116, 3) := by decide +kernel
theorem dx_Resting_solve_2 : decode prog_7_method_2_code 2 = .ok (.invokevirtual 16, 3) := by decide +kernel
theorem dx_Resting_solve_21 : decode prog_7_method_2_code 21 = .ok (.iload 5, 2) := by decide +kernel
theorem dx_Resting_solve_23 : decode prog_7_method_2_code 23 = .ok (.iload_n 2, 1) := by decide +kernel
theorem dx_Resting_solve_24 : decode prog_7_method_2_code 24 = .ok (.iadd, 1) := by decide +kernel
theorem dx_Resting_solve_25 : decode prog_7_method_2_code 25 = .ok (.iconst 1, 1) := by decide +kernel
theorem dx_Resting_solve_26 : decode prog_7_method_2_code 26 = .ok (.iand, 1) := by decide +kernel
theorem dx_Resting_solve_27 : decode prog_7_method_2_code 27 = .ok (.ifCond .ne 13, 3) := by decide +kernel
theorem dx_Resting_solve_30 : decode prog_7_method_2_code 30 = .ok (.aload_n 0, 1) := by decide +kernel
theorem dx_Resting_solve_31 : decode prog_7_method_2_code 31 = .ok (.iload 5, 2) := by decide +kernel
theorem dx_Resting_solve_33 : decode prog_7_method_2_code 33 = .ok (.iload_n 2, 1) := by decide +kernel
theorem dx_Resting_solve_34 : decode prog_7_method_2_code 34 = .ok (.invokevirtual 25, 3) := by decide +kernel
theorem dx_Resting_solve_37 : decode prog_7_method_2_code 37 = .ok (.goto 11, 3) := by decide +kernel
theorem dx_Resting_solve_40 : decode prog_7_method_2_code 40 = .ok (.aload_n 0, 1) := by decide +kernel
theorem dx_Resting_solve_41 : decode prog_7_method_2_code 41 = .ok (.iload 5, 2) := by decide +kernel
theorem dx_Resting_solve_43 : decode prog_7_method_2_code 43 = .ok (.iload_n 2, 1) := by decide +kernel
theorem dx_Resting_solve_44 : decode prog_7_method_2_code 44 = .ok (.invokevirtual 25, 3) := by decide +kernel
theorem dx_Resting_solve_47 : decode prog_7_method_2_code 47 = .ok (.ineg, 1) := by decide +kernel
theorem dx_Resting_solve_48 : decode prog_7_method_2_code 48 = .ok (.istore 6, 2) := by decide +kernel
theorem dx_Resting_solve_5 : decode prog_7_method_2_code 5 = .ok (.aload_n 3, 1) := by decide +kernel
theorem dx_Resting_solve_50 : decode prog_7_method_2_code 50 = .ok (.iload 4, 2) := by decide +kernel
theorem dx_Resting_solve_52 : decode prog_7_method_2_code 52 = .ok (.aload_n 0, 1) := by decide +kernel
theorem dx_Resting_solve_53 : decode prog_7_method_2_code 53 = .ok (.getfield 11, 3) := by decide +kernel
theorem dx_Resting_solve_56 : decode prog_7_method_2_code 56 = .ok (.iload 5, 2) := by decide +kernel
theorem dx_Resting_solve_58 : decode prog_7_method_2_code 58 = .ok (.aaload, 1) := by decide +kernel
theorem dx_Resting_solve_59 : decode prog_7_method_2_code 59 = .ok (.iload_n 2, 1) := by decide +kernel
theorem dx_Resting_solve_6 : decode prog_7_method_2_code 6 = .ok (.invokevirtual 20, 3) := by decide +kernel
theorem dx_Resting_solve_60 : decode prog_7_method_2_code 60 = .ok (.iaload, 1) := by decide +kernel
theorem dx_Resting_solve_61 : decode prog_7_method_2_code 61 = .ok (.iload 6, 2) := by decide +kernel
theorem dx_Resting_solve_63 : decode prog_7_method_2_code 63 = .ok (.imul, 1) := by decide +kernel
theorem dx_Resting_solve_64 : decode prog_7_method_2_code 64 = .ok (.iadd, 1) := by decide +kernel
theorem dx_Resting_solve_65 : decode prog_7_method_2_code 65 = .ok (.istore 4, 2) := by decide +kernel
theorem dx_Resting_solve_67 : decode prog_7_method_2_code 67 = .ok (.iload 5, 2) := by decide +kernel
theorem dx_Resting_solve_69 : decode prog_7_method_2_code 69 = .ok (.aload_n 1, 1) := by decide +kernel
theorem dx_Resting_solve_70 : decode prog_7_method_2_code 70 = .ok (.getfield 29, 3) := by decide +kernel
theorem dx_Resting_solve_73 : decode prog_7_method_2_code 73 = .ok (.if_icmp .lt 6, 3) := by decide +kernel
theorem dx_Resting_solve_76 : decode prog_7_method_2_code 76 = .ok (.goto 52, 3) := by decide +kernel
theorem dx_Resting_solve_79 : decode prog_7_method_2_code 79 = .ok (.aload_n 1, 1) := by decide +kernel
theorem dx_Resting_solve_80 : decode prog_7_method_2_code 80 = .ok (.getfield 35, 3) := by decide +kernel
theorem dx_Resting_solve_83 : decode prog_7_method_2_code 83 = .ok (.iload 5, 2) := by decide +kernel
theorem dx_Resting_solve_85 : decode prog_7_method_2_code 85 = .ok (.iaload, 1) := by decide +kernel
theorem dx_Resting_solve_86 : decode prog_7_method_2_code 86 = .ok (.ifCond .ne 19, 3) := by decide +kernel
theorem dx_Resting_solve_89 : decode prog_7_method_2_code 89 = .ok (.aload_n 3, 1) := by decide +kernel
theorem dx_Resting_solve_9 : decode prog_7_method_2_code 9 = .ok (.iconst 0, 1) := by decide +kernel
theorem dx_Resting_solve_90 : decode prog_7_method_2_code 90 = .ok (.getfield 39, 3) := by decide +kernel
theorem dx_Resting_solve_93 : decode prog_7_method_2_code 93 = .ok (.iload 5, 2) := by decide +kernel
theorem dx_Resting_solve_95 : decode prog_7_method_2_code 95 = .ok (.dup2, 1) := by decide +kernel
theorem dx_Resting_solve_96 : decode prog_7_method_2_code 96 = .ok (.laload, 1) := by decide +kernel
theorem dx_Resting_solve_97 : decode prog_7_method_2_code 97 = .ok (.iload 6, 2) := by decide +kernel
theorem dx_Resting_solve_99 : decode prog_7_method_2_code 99 = .ok (.i2l, 1) := by decide +kernel
theorem dx_Shades_compare_0 : decode prog_8_method_5_code 0 = .ok (.iload_n 1, 1) := by decide +kernel
theorem dx_Shades_compare_1 : decode prog_8_method_5_code 1 = .ok (.bipush 20, 2) := by decide +kernel
theorem dx_Shades_compare_10 : decode prog_8_method_5_code 10 = .ok (.istore 5, 2) := by decide +kernel
theorem dx_Shades_compare_102 : decode prog_8_method_5_code 102 = .ok (.lload 6, 2) := by decide +kernel
theorem dx_Shades_compare_104 : decode prog_8_method_5_code 104 = .ok (.lconst 0, 1) := by decide +kernel
theorem dx_Shades_compare_105 : decode prog_8_method_5_code 105 = .ok (.lcmp, 1) := by decide +kernel
theorem dx_Shades_compare_106 : decode prog_8_method_5_code 106 = .ok (.ifCond .ge 7, 3) := by decide +kernel
theorem dx_Shades_compare_109 : decode prog_8_method_5_code 109 = .ok (.iconst (-1), 1) := by decide +kernel
theorem dx_Shades_compare_110 : decode prog_8_method_5_code 110 = .ok (.goto 4, 3) := by decide +kernel
theorem dx_Shades_compare_113 : decode prog_8_method_5_code 113 = .ok (.iconst 1, 1) := by decide +kernel
theorem dx_Shades_compare_114 : decode prog_8_method_5_code 114 = .ok (.ireturn, 1) := by decide +kernel
theorem dx_Shades_compare_115 : decode prog_8_method_5_code 115 = .ok (.iload 8, 2) := by decide +kernel
theorem dx_Shades_compare_117 : decode prog_8_method_5_code 117 = .ok (.ifCond .eq 7, 3) := by decide +kernel
theorem dx_Shades_compare_12 : decode prog_8_method_5_code 12 = .ok (.lconst 0, 1) := by decide +kernel
theorem dx_Shades_compare_120 : decode prog_8_method_5_code 120 = .ok (.iconst 1, 1) := by decide +kernel
theorem dx_Shades_compare_121 : decode prog_8_method_5_code 121 = .ok (.goto 4, 3) := by decide +kernel
theorem dx_Shades_compare_124 : decode prog_8_method_5_code 124 = .ok (.iconst 0, 1) := by decide +kernel
theorem dx_Shades_compare_125 : decode prog_8_method_5_code 125 = .ok (.ireturn, 1) := by decide +kernel
theorem dx_Shades_compare_13 : decode prog_8_method_5_code 13 = .ok (.lstore 6, 2) := by decide +kernel
theorem dx_Shades_compare_15 : decode prog_8_method_5_code 15 = .ok (.iconst 0, 1) := by decide +kernel
theorem dx_Shades_compare_16 : decode prog_8_method_5_code 16 = .ok (.istore 8, 2) := by decide +kernel
theorem dx_Shades_compare_18 : decode prog_8_method_5_code 18 = .ok (.iconst 0, 1) := by decide +kernel
theorem dx_Shades_compare_19 : decode prog_8_method_5_code 19 = .ok (.istore 9, 2) := by decide +kernel
theorem dx_Shades_compare_21 : decode prog_8_method_5_code 21 = .ok (.iload 9, 2) := by decide +kernel
theorem dx_Shades_compare_23 : decode prog_8_method_5_code 23 = .ok (.aload_n 0, 1) := by decide +kernel
theorem dx_Shades_compare_24 : decode prog_8_method_5_code 24 = .ok (.getfield 18, 3) := by decide +kernel
theorem dx_Shades_compare_27 : decode prog_8_method_5_code 27 = .ok (.if_icmp .ge 68, 3) := by decide +kernel
theorem dx_Shades_compare_3 : decode prog_8_method_5_code 3 = .ok (.imul, 1) := by decide +kernel
theorem dx_Shades_compare_30 : decode prog_8_method_5_code 30 = .ok (.lload 6, 2) := by decide +kernel
theorem dx_Shades_compare_32 : decode prog_8_method_5_code 32 = .ok (.aload_n 0, 1) := by decide +kernel
theorem dx_Shades_compare_33 : decode prog_8_method_5_code 33 = .ok (.getfield 9, 3) := by decide +kernel
theorem dx_Shades_compare_36 : decode prog_8_method_5_code 36 = .ok (.iload 4, 2) := by decide +kernel
theorem dx_Shades_compare_38 : decode prog_8_method_5_code 38 = .ok (.iload 9, 2) := by decide +kernel
theorem dx_Shades_compare_4 : decode prog_8_method_5_code 4 = .ok (.istore 4, 2) := by decide +kernel
theorem dx_Shades_compare_40 : decode prog_8_method_5_code 40 = .ok (.iadd, 1) := by decide +kernel
theorem dx_Shades_compare_41 : decode prog_8_method_5_code 41 = .ok (.iaload, 1) := by decide +kernel
theorem dx_Shades_compare_42 : decode prog_8_method_5_code 42 = .ok (.i2l, 1) := by decide +kernel
theorem dx_Shades_compare_43 : decode prog_8_method_5_code 43 = .ok (.ladd, 1) := by decide +kernel
theorem dx_Shades_compare_44 : decode prog_8_method_5_code 44 = .ok (.iload_n 3, 1) := by decide +kernel
theorem dx_Shades_compare_45 : decode prog_8_method_5_code 45 = .ok (.i2l, 1) := by decide +kernel
theorem dx_Shades_compare_46 : decode prog_8_method_5_code 46 = .ok (.aload_n 0, 1) := by decide +kernel
theorem dx_Shades_compare_47 : decode prog_8_method_5_code 47 = .ok (.getfield 9, 3) := by decide +kernel
theorem dx_Shades_compare_50 : decode prog_8_method_5_code 50 = .ok (.iload 5, 2) := by decide +kernel
theorem dx_Shades_compare_52 : decode prog_8_method_5_code 52 = .ok (.iload 9, 2) := by decide +kernel
theorem dx_Shades_compare_54 : decode prog_8_method_5_code 54 = .ok (.iadd, 1) := by decide +kernel
theorem dx_Shades_compare_55 : decode prog_8_method_5_code 55 = .ok (.iaload, 1) := by decide +kernel
theorem dx_Shades_compare_56 : decode prog_8_method_5_code 56 = .ok (.i2l, 1) := by decide +kernel
theorem dx_Shades_compare_57 : decode prog_8_method_5_code 57 = .ok (.lmul, 1) := by decide +kernel
theorem dx_Shades_compare_58 : decode prog_8_method_5_code 58 = .ok (.lsub, 1) := by decide +kernel
theorem dx_Shades_compare_59 : decode prog_8_method_5_code 59 = .ok (.lstore 10, 2) := by decide +kernel
theorem dx_Shades_compare_6 : decode prog_8_method_5_code 6 = .ok (.iload_n 2, 1) := by decide +kernel
theorem dx_Shades_compare_61 : decode prog_8_method_5_code 61 = .ok (.iload 8, 2) := by decide +kernel
theorem dx_Shades_compare_63 : decode prog_8_method_5_code 63 = .ok (.lload 10, 2) := by decide +kernel
theorem dx_Shades_compare_65 : decode prog_8_method_5_code 65 = .ok (.ldc2_w 28, 3) := by decide +kernel
theorem dx_Shades_compare_68 : decode prog_8_method_5_code 68 = .ok (.land, 1) := by decide +kernel
theorem dx_Shades_compare_69 : decode prog_8_method_5_code 69 = .ok (.lconst 0, 1) := by decide +kernel
theorem dx_Shades_compare_7 : decode prog_8_method_5_code 7 = .ok (.bipush 20, 2) := by decide +kernel
theorem dx_Shades_compare_70 : decode prog_8_method_5_code 70 = .ok (.lcmp, 1) := by decide +kernel
theorem dx_Shades_compare_71 : decode prog_8_method_5_code 71 = .ok (.ifCond .eq 7, 3) := by decide +kernel
theorem dx_Shades_compare_74 : decode prog_8_method_5_code 74 = .ok (.iconst 1, 1) := by decide +kernel
theorem dx_Shades_compare_75 : decode prog_8_method_5_code 75 = .ok (.goto 4, 3) := by decide +kernel
theorem dx_Shades_compare_78 : decode prog_8_method_5_code 78 = .ok (.iconst 0, 1) := by decide +kernel
theorem dx_Shades_compare_79 : decode prog_8_method_5_code 79 = .ok (.ior, 1) := by decide +kernel
theorem dx_Shades_compare_80 : decode prog_8_method_5_code 80 = .ok (.istore 8, 2) := by decide +kernel
theorem dx_Shades_compare_82 : decode prog_8_method_5_code 82 = .ok (.lload 10, 2) := by decide +kernel
theorem dx_Shades_compare_84 : decode prog_8_method_5_code 84 = .ok (.bipush 30, 2) := by decide +kernel
theorem dx_Shades_compare_86 : decode prog_8_method_5_code 86 = .ok (.lshr, 1) := by decide +kernel
theorem dx_Shades_compare_87 : decode prog_8_method_5_code 87 = .ok (.lstore 6, 2) := by decide +kernel
theorem dx_Shades_compare_89 : decode prog_8_method_5_code 89 = .ok (.iinc 9 1, 3) := by decide +kernel
theorem dx_Shades_compare_9 : decode prog_8_method_5_code 9 = .ok (.imul, 1) := by decide +kernel
theorem dx_Shades_compare_92 : decode prog_8_method_5_code 92 = .ok (.goto (-71), 3) := by decide +kernel
theorem dx_Shades_compare_95 : decode prog_8_method_5_code 95 = .ok (.lload 6, 2) := by decide +kernel
theorem dx_Shades_compare_97 : decode prog_8_method_5_code 97 = .ok (.lconst 0, 1) := by decide +kernel
theorem dx_Shades_compare_98 : decode prog_8_method_5_code 98 = .ok (.lcmp, 1) := by decide +kernel
theorem dx_Shades_compare_99 : decode prog_8_method_5_code 99 = .ok (.ifCond .eq 16, 3) := by decide +kernel
theorem dx_Shades_copyFrom_0 : decode prog_8_method_3_code 0 = .ok (.aload_n 1, 1) := by decide +kernel
theorem dx_Shades_copyFrom_1 : decode prog_8_method_3_code 1 = .ok (.getfield 9, 3) := by decide +kernel
theorem dx_Shades_copyFrom_10 : decode prog_8_method_3_code 10 = .ok (.bipush 100, 2) := by decide +kernel
theorem dx_Shades_copyFrom_12 : decode prog_8_method_3_code 12 = .ok (.invokestatic 22, 3) := by decide +kernel
theorem dx_Shades_copyFrom_15 : decode prog_8_method_3_code 15 = .ok (.aload_n 0, 1) := by decide +kernel
theorem dx_Shades_copyFrom_16 : decode prog_8_method_3_code 16 = .ok (.aload_n 1, 1) := by decide +kernel
theorem dx_Shades_copyFrom_17 : decode prog_8_method_3_code 17 = .ok (.getfield 18, 3) := by decide +kernel
theorem dx_Shades_copyFrom_20 : decode prog_8_method_3_code 20 = .ok (.putfield 18, 3) := by decide +kernel
theorem dx_Shades_copyFrom_23 : decode prog_8_method_3_code 23 = .ok (.return_, 1) := by decide +kernel
theorem dx_Shades_copyFrom_4 : decode prog_8_method_3_code 4 = .ok (.iconst 0, 1) := by decide +kernel
theorem dx_Shades_copyFrom_5 : decode prog_8_method_3_code 5 = .ok (.aload_n 0, 1) := by decide +kernel
theorem dx_Shades_copyFrom_6 : decode prog_8_method_3_code 6 = .ok (.getfield 9, 3) := by decide +kernel
theorem dx_Shades_copyFrom_9 : decode prog_8_method_3_code 9 = .ok (.iconst 0, 1) := by decide +kernel
theorem dx_Shades_hasAtLeast_0 : decode prog_8_method_6_code 0 = .ok (.aload_n 0, 1) := by decide +kernel
theorem dx_Shades_hasAtLeast_1 : decode prog_8_method_6_code 1 = .ok (.iload_n 1, 1) := by decide +kernel
theorem dx_Shades_hasAtLeast_10 : decode prog_8_method_6_code 10 = .ok (.iconst 1, 1) := by decide +kernel
theorem dx_Shades_hasAtLeast_11 : decode prog_8_method_6_code 11 = .ok (.goto 4, 3) := by decide +kernel
theorem dx_Shades_hasAtLeast_14 : decode prog_8_method_6_code 14 = .ok (.iconst 0, 1) := by decide +kernel
theorem dx_Shades_hasAtLeast_15 : decode prog_8_method_6_code 15 = .ok (.ireturn, 1) := by decide +kernel
theorem dx_Shades_hasAtLeast_2 : decode prog_8_method_6_code 2 = .ok (.iconst 4, 1) := by decide +kernel
theorem dx_Shades_hasAtLeast_3 : decode prog_8_method_6_code 3 = .ok (.iload_n 2, 1) := by decide +kernel
theorem dx_Shades_hasAtLeast_4 : decode prog_8_method_6_code 4 = .ok (.invokevirtual 30, 3) := by decide +kernel
theorem dx_Shades_hasAtLeast_7 : decode prog_8_method_6_code 7 = .ok (.ifCond .lt 7, 3) := by decide +kernel
theorem dx_Shades_hasAtMost_0 : decode prog_8_method_7_code 0 = .ok (.aload_n 0, 1) := by decide +kernel
theorem dx_Shades_hasAtMost_1 : decode prog_8_method_7_code 1 = .ok (.iload_n 1, 1) := by decide +kernel
theorem dx_Shades_hasAtMost_10 : decode prog_8_method_7_code 10 = .ok (.iconst 1, 1) := by decide +kernel
theorem dx_Shades_hasAtMost_11 : decode prog_8_method_7_code 11 = .ok (.goto 4, 3) := by decide +kernel
theorem dx_Shades_hasAtMost_14 : decode prog_8_method_7_code 14 = .ok (.iconst 0, 1) := by decide +kernel
theorem dx_Shades_hasAtMost_15 : decode prog_8_method_7_code 15 = .ok (.ireturn, 1) := by decide +kernel
theorem dx_Shades_hasAtMost_2 : decode prog_8_method_7_code 2 = .ok (.iconst 4, 1) := by decide +kernel
theorem dx_Shades_hasAtMost_3 : decode prog_8_method_7_code 3 = .ok (.iload_n 2, 1) := by decide +kernel
theorem dx_Shades_hasAtMost_4 : decode prog_8_method_7_code 4 = .ok (.invokevirtual 30, 3) := by decide +kernel
theorem dx_Shades_hasAtMost_7 : decode prog_8_method_7_code 7 = .ok (.ifCond .gt 7, 3) := by decide +kernel
theorem dx_Shades_putParts_0 : decode prog_8_method_4_code 0 = .ok (.lconst 0, 1) := by decide +kernel
theorem dx_Shades_putParts_1 : decode prog_8_method_4_code 1 = .ok (.lstore_n 3, 1) := by decide +kernel
theorem dx_Shades_putParts_11 : decode prog_8_method_4_code 11 = .ok (.if_icmp .ge 52, 3) := by decide +kernel
theorem dx_Shades_putParts_14 : decode prog_8_method_4_code 14 = .ok (.lload_n 3, 1) := by decide +kernel
theorem dx_Shades_putParts_15 : decode prog_8_method_4_code 15 = .ok (.iload_n 2, 1) := by decide +kernel
theorem dx_Shades_putParts_16 : decode prog_8_method_4_code 16 = .ok (.i2l, 1) := by decide +kernel
theorem dx_Shades_putParts_17 : decode prog_8_method_4_code 17 = .ok (.aload_n 0, 1) := by decide +kernel
theorem dx_Shades_putParts_18 : decode prog_8_method_4_code 18 = .ok (.getfield 9, 3) := by decide +kernel
theorem dx_Shades_putParts_2 : decode prog_8_method_4_code 2 = .ok (.iconst 0, 1) := by decide +kernel
theorem dx_Shades_putParts_21 : decode prog_8_method_4_code 21 = .ok (.bipush 80, 2) := by decide +kernel
theorem dx_Shades_putParts_23 : decode prog_8_method_4_code 23 = .ok (.iload 5, 2) := by decide +kernel
theorem dx_Shades_putParts_25 : decode prog_8_method_4_code 25 = .ok (.iadd, 1) := by decide +kernel
theorem dx_Shades_putParts_26 : decode prog_8_method_4_code 26 = .ok (.iaload, 1) := by decide +kernel
theorem dx_Shades_putParts_27 : decode prog_8_method_4_code 27 = .ok (.i2l, 1) := by decide +kernel
theorem dx_Shades_putParts_28 : decode prog_8_method_4_code 28 = .ok (.lmul, 1) := by decide +kernel
theorem dx_Shades_putParts_29 : decode prog_8_method_4_code 29 = .ok (.ladd, 1) := by decide +kernel
theorem dx_Shades_putParts_3 : decode prog_8_method_4_code 3 = .ok (.istore 5, 2) := by decide +kernel
theorem dx_Shades_putParts_30 : decode prog_8_method_4_code 30 = .ok (.lstore 6, 2) := by decide +kernel
theorem dx_Shades_putParts_32 : decode prog_8_method_4_code 32 = .ok (.aload_n 0, 1) := by decide +kernel
theorem dx_Shades_putParts_33 : decode prog_8_method_4_code 33 = .ok (.getfield 9, 3) := by decide +kernel
theorem dx_Shades_putParts_36 : decode prog_8_method_4_code 36 = .ok (.iload_n 1, 1) := by decide +kernel
theorem dx_Shades_putParts_37 : decode prog_8_method_4_code 37 = .ok (.bipush 20, 2) := by decide +kernel
theorem dx_Shades_putParts_39 : decode prog_8_method_4_code 39 = .ok (.imul, 1) := by decide +kernel
theorem dx_Shades_putParts_40 : decode prog_8_method_4_code 40 = .ok (.iload 5, 2) := by decide +kernel
theorem dx_Shades_putParts_42 : decode prog_8_method_4_code 42 = .ok (.iadd, 1) := by decide +kernel
theorem dx_Shades_putParts_43 : decode prog_8_method_4_code 43 = .ok (.lload 6, 2) := by decide +kernel
theorem dx_Shades_putParts_45 : decode prog_8_method_4_code 45 = .ok (.ldc2_w 28, 3) := by decide +kernel
theorem dx_Shades_putParts_48 : decode prog_8_method_4_code 48 = .ok (.land, 1) := by decide +kernel
theorem dx_Shades_putParts_49 : decode prog_8_method_4_code 49 = .ok (.l2i, 1) := by decide +kernel
theorem dx_Shades_putParts_5 : decode prog_8_method_4_code 5 = .ok (.iload 5, 2) := by decide +kernel
theorem dx_Shades_putParts_50 : decode prog_8_method_4_code 50 = .ok (.iastore, 1) := by decide +kernel
theorem dx_Shades_putParts_51 : decode prog_8_method_4_code 51 = .ok (.lload 6, 2) := by decide +kernel
theorem dx_Shades_putParts_53 : decode prog_8_method_4_code 53 = .ok (.bipush 30, 2) := by decide +kernel
theorem dx_Shades_putParts_55 : decode prog_8_method_4_code 55 = .ok (.lshr, 1) := by decide +kernel
theorem dx_Shades_putParts_56 : decode prog_8_method_4_code 56 = .ok (.lstore_n 3, 1) := by decide +kernel
theorem dx_Shades_putParts_57 : decode prog_8_method_4_code 57 = .ok (.iinc 5 1, 3) := by decide +kernel
theorem dx_Shades_putParts_60 : decode prog_8_method_4_code 60 = .ok (.goto (-55), 3) := by decide +kernel
theorem dx_Shades_putParts_63 : decode prog_8_method_4_code 63 = .ok (.return_, 1) := by decide +kernel
theorem dx_Shades_putParts_7 : decode prog_8_method_4_code 7 = .ok (.aload_n 0, 1) := by decide +kernel
theorem dx_Shades_putParts_8 : decode prog_8_method_4_code 8 = .ok (.getfield 18, 3) := by decide +kernel
theorem dx_Shades_reset_0 : decode prog_8_method_2_code 0 = .ok (.aload_n 0, 1) := by decide +kernel
theorem dx_Shades_reset_1 : decode prog_8_method_2_code 1 = .ok (.getfield 9, 3) := by decide +kernel
theorem dx_Shades_reset_10 : decode prog_8_method_2_code 10 = .ok (.putfield 18, 3) := by decide +kernel
theorem dx_Shades_reset_13 : decode prog_8_method_2_code 13 = .ok (.return_, 1) := by decide +kernel
theorem dx_Shades_reset_4 : decode prog_8_method_2_code 4 = .ok (.bipush 80, 2) := by decide +kernel
theorem dx_Shades_reset_6 : decode prog_8_method_2_code 6 = .ok (.iconst 1, 1) := by decide +kernel
theorem dx_Shades_reset_7 : decode prog_8_method_2_code 7 = .ok (.iastore, 1) := by decide +kernel
theorem dx_Shades_reset_8 : decode prog_8_method_2_code 8 = .ok (.aload_n 0, 1) := by decide +kernel
theorem dx_Shades_reset_9 : decode prog_8_method_2_code 9 = .ok (.iconst 1, 1) := by decide +kernel
theorem dx_Shades_settle_0 : decode prog_8_method_8_code 0 = .ok (.aload_n 0, 1) := by decide +kernel
theorem dx_Shades_settle_1 : decode prog_8_method_8_code 1 = .ok (.getfield 9, 3) := by decide +kernel
theorem dx_Shades_settle_10 : decode prog_8_method_8_code 10 = .ok (.iaload, 1) := by decide +kernel
theorem dx_Shades_settle_11 : decode prog_8_method_8_code 11 = .ok (.i2l, 1) := by decide +kernel
theorem dx_Shades_settle_12 : decode prog_8_method_8_code 12 = .ok (.lconst 1, 1) := by decide +kernel
theorem dx_Shades_settle_13 : decode prog_8_method_8_code 13 = .ok (.ladd, 1) := by decide +kernel
theorem dx_Shades_settle_14 : decode prog_8_method_8_code 14 = .ok (.lstore_n 2, 1) := by decide +kernel
theorem dx_Shades_settle_15 : decode prog_8_method_8_code 15 = .ok (.aload_n 0, 1) := by decide +kernel
theorem dx_Shades_settle_16 : decode prog_8_method_8_code 16 = .ok (.getfield 9, 3) := by decide +kernel
theorem dx_Shades_settle_19 : decode prog_8_method_8_code 19 = .ok (.bipush 80, 2) := by decide +kernel
theorem dx_Shades_settle_21 : decode prog_8_method_8_code 21 = .ok (.iload_n 1, 1) := by decide +kernel
theorem dx_Shades_settle_22 : decode prog_8_method_8_code 22 = .ok (.iadd, 1) := by decide +kernel
theorem dx_Shades_settle_23 : decode prog_8_method_8_code 23 = .ok (.iaload, 1) := by decide +kernel
theorem dx_Shades_settle_24 : decode prog_8_method_8_code 24 = .ok (.ifCond .ne 15, 3) := by decide +kernel
theorem dx_Shades_settle_27 : decode prog_8_method_8_code 27 = .ok (.lload_n 2, 1) := by decide +kernel
theorem dx_Shades_settle_28 : decode prog_8_method_8_code 28 = .ok (.ldc2_w 34, 3) := by decide +kernel
theorem dx_Shades_settle_31 : decode prog_8_method_8_code 31 = .ok (.lmul, 1) := by decide +kernel
theorem dx_Shades_settle_32 : decode prog_8_method_8_code 32 = .ok (.ldc2_w 36, 3) := by decide +kernel
theorem dx_Shades_settle_35 : decode prog_8_method_8_code 35 = .ok (.lcmp, 1) := by decide +kernel
theorem dx_Shades_settle_36 : decode prog_8_method_8_code 36 = .ok (.ifCond .le 7, 3) := by decide +kernel
theorem dx_Shades_settle_39 : decode prog_8_method_8_code 39 = .ok (.iconst 1, 1) := by decide +kernel
theorem dx_Shades_settle_4 : decode prog_8_method_8_code 4 = .ok (.bipush 80, 2) := by decide +kernel
theorem dx_Shades_settle_40 : decode prog_8_method_8_code 40 = .ok (.goto 4, 3) := by decide +kernel
theorem dx_Shades_settle_43 : decode prog_8_method_8_code 43 = .ok (.iconst 0, 1) := by decide +kernel
theorem dx_Shades_settle_44 : decode prog_8_method_8_code 44 = .ok (.istore 4, 2) := by decide +kernel
theorem dx_Shades_settle_46 : decode prog_8_method_8_code 46 = .ok (.aload_n 0, 1) := by decide +kernel
theorem dx_Shades_settle_47 : decode prog_8_method_8_code 47 = .ok (.iload 4, 2) := by decide +kernel
theorem dx_Shades_settle_49 : decode prog_8_method_8_code 49 = .ok (.ifCond .eq 17, 3) := by decide +kernel
theorem dx_Shades_settle_52 : decode prog_8_method_8_code 52 = .ok (.iload_n 1, 1) := by decide +kernel
theorem dx_Shades_settle_53 : decode prog_8_method_8_code 53 = .ok (.iconst 1, 1) := by decide +kernel
theorem dx_Shades_settle_54 : decode prog_8_method_8_code 54 = .ok (.iadd, 1) := by decide +kernel
theorem dx_Shades_settle_55 : decode prog_8_method_8_code 55 = .ok (.bipush 20, 2) := by decide +kernel
theorem dx_Shades_settle_57 : decode prog_8_method_8_code 57 = .ok (.if_icmp .ge 9, 3) := by decide +kernel
theorem dx_Shades_settle_6 : decode prog_8_method_8_code 6 = .ok (.iload_n 1, 1) := by decide +kernel
theorem dx_Shades_settle_60 : decode prog_8_method_8_code 60 = .ok (.iload_n 1, 1) := by decide +kernel
theorem dx_Shades_settle_61 : decode prog_8_method_8_code 61 = .ok (.iconst 1, 1) := by decide +kernel
theorem dx_Shades_settle_62 : decode prog_8_method_8_code 62 = .ok (.iadd, 1) := by decide +kernel
theorem dx_Shades_settle_63 : decode prog_8_method_8_code 63 = .ok (.goto 4, 3) := by decide +kernel
theorem dx_Shades_settle_66 : decode prog_8_method_8_code 66 = .ok (.iload_n 1, 1) := by decide +kernel
theorem dx_Shades_settle_67 : decode prog_8_method_8_code 67 = .ok (.putfield 18, 3) := by decide +kernel
theorem dx_Shades_settle_7 : decode prog_8_method_8_code 7 = .ok (.iadd, 1) := by decide +kernel
theorem dx_Shades_settle_70 : decode prog_8_method_8_code 70 = .ok (.return_, 1) := by decide +kernel
theorem dx_Shades_settle_8 : decode prog_8_method_8_code 8 = .ok (.iconst 1, 1) := by decide +kernel
theorem dx_Shades_settle_9 : decode prog_8_method_8_code 9 = .ok (.isub, 1) := by decide +kernel
theorem dx_Sum_begin_0 : decode prog_9_method_2_code 0 = .ok (.iconst 0, 1) := by decide +kernel
theorem dx_Sum_begin_1 : decode prog_9_method_2_code 1 = .ok (.istore_n 1, 1) := by decide +kernel
theorem dx_Sum_begin_11 : decode prog_9_method_2_code 11 = .ok (.iload_n 1, 1) := by decide +kernel
theorem dx_Sum_begin_12 : decode prog_9_method_2_code 12 = .ok (.lconst 0, 1) := by decide +kernel
theorem dx_Sum_begin_13 : decode prog_9_method_2_code 13 = .ok (.lastore, 1) := by decide +kernel
theorem dx_Sum_begin_14 : decode prog_9_method_2_code 14 = .ok (.iinc 1 1, 3) := by decide +kernel
theorem dx_Sum_begin_17 : decode prog_9_method_2_code 17 = .ok (.goto (-15), 3) := by decide +kernel
theorem dx_Sum_begin_2 : decode prog_9_method_2_code 2 = .ok (.iload_n 1, 1) := by decide +kernel
theorem dx_Sum_begin_20 : decode prog_9_method_2_code 20 = .ok (.return_, 1) := by decide +kernel
theorem dx_Sum_begin_3 : decode prog_9_method_2_code 3 = .ok (.iconst 5, 1) := by decide +kernel
theorem dx_Sum_begin_4 : decode prog_9_method_2_code 4 = .ok (.if_icmp .ge 16, 3) := by decide +kernel
theorem dx_Sum_begin_7 : decode prog_9_method_2_code 7 = .ok (.aload_n 0, 1) := by decide +kernel
theorem dx_Sum_begin_8 : decode prog_9_method_2_code 8 = .ok (.getfield 9, 3) := by decide +kernel
theorem dx_Sum_isZeroIn_0 : decode prog_9_method_4_code 0 = .ok (.lconst 0, 1) := by decide +kernel
theorem dx_Sum_isZeroIn_1 : decode prog_9_method_4_code 1 = .ok (.lstore_n 2, 1) := by decide +kernel
theorem dx_Sum_isZeroIn_11 : decode prog_9_method_4_code 11 = .ok (.if_icmp .ge 73, 3) := by decide +kernel
theorem dx_Sum_isZeroIn_14 : decode prog_9_method_4_code 14 = .ok (.lload_n 2, 1) := by decide +kernel
theorem dx_Sum_isZeroIn_15 : decode prog_9_method_4_code 15 = .ok (.lstore 5, 2) := by decide +kernel
theorem dx_Sum_isZeroIn_17 : decode prog_9_method_4_code 17 = .ok (.iconst 0, 1) := by decide +kernel
theorem dx_Sum_isZeroIn_18 : decode prog_9_method_4_code 18 = .ok (.istore 7, 2) := by decide +kernel
theorem dx_Sum_isZeroIn_2 : decode prog_9_method_4_code 2 = .ok (.iconst 0, 1) := by decide +kernel
theorem dx_Sum_isZeroIn_20 : decode prog_9_method_4_code 20 = .ok (.iload 7, 2) := by decide +kernel
theorem dx_Sum_isZeroIn_22 : decode prog_9_method_4_code 22 = .ok (.iconst 5, 1) := by decide +kernel
theorem dx_Sum_isZeroIn_23 : decode prog_9_method_4_code 23 = .ok (.if_icmp .ge 36, 3) := by decide +kernel
theorem dx_Sum_isZeroIn_26 : decode prog_9_method_4_code 26 = .ok (.lload 5, 2) := by decide +kernel
theorem dx_Sum_isZeroIn_28 : decode prog_9_method_4_code 28 = .ok (.aload_n 0, 1) := by decide +kernel
theorem dx_Sum_isZeroIn_29 : decode prog_9_method_4_code 29 = .ok (.getfield 9, 3) := by decide +kernel
theorem dx_Sum_isZeroIn_3 : decode prog_9_method_4_code 3 = .ok (.istore 4, 2) := by decide +kernel
theorem dx_Sum_isZeroIn_32 : decode prog_9_method_4_code 32 = .ok (.iload 7, 2) := by decide +kernel
theorem dx_Sum_isZeroIn_34 : decode prog_9_method_4_code 34 = .ok (.laload, 1) := by decide +kernel
theorem dx_Sum_isZeroIn_35 : decode prog_9_method_4_code 35 = .ok (.aload_n 1, 1) := by decide +kernel
theorem dx_Sum_isZeroIn_36 : decode prog_9_method_4_code 36 = .ok (.getfield 24, 3) := by decide +kernel
theorem dx_Sum_isZeroIn_39 : decode prog_9_method_4_code 39 = .ok (.iload 7, 2) := by decide +kernel
theorem dx_Sum_isZeroIn_41 : decode prog_9_method_4_code 41 = .ok (.bipush 20, 2) := by decide +kernel
theorem dx_Sum_isZeroIn_43 : decode prog_9_method_4_code 43 = .ok (.imul, 1) := by decide +kernel
theorem dx_Sum_isZeroIn_44 : decode prog_9_method_4_code 44 = .ok (.iload 4, 2) := by decide +kernel
theorem dx_Sum_isZeroIn_46 : decode prog_9_method_4_code 46 = .ok (.iadd, 1) := by decide +kernel
theorem dx_Sum_isZeroIn_47 : decode prog_9_method_4_code 47 = .ok (.iaload, 1) := by decide +kernel
theorem dx_Sum_isZeroIn_48 : decode prog_9_method_4_code 48 = .ok (.i2l, 1) := by decide +kernel
theorem dx_Sum_isZeroIn_49 : decode prog_9_method_4_code 49 = .ok (.lmul, 1) := by decide +kernel
theorem dx_Sum_isZeroIn_5 : decode prog_9_method_4_code 5 = .ok (.iload 4, 2) := by decide +kernel
theorem dx_Sum_isZeroIn_50 : decode prog_9_method_4_code 50 = .ok (.ladd, 1) := by decide +kernel
theorem dx_Sum_isZeroIn_51 : decode prog_9_method_4_code 51 = .ok (.lstore 5, 2) := by decide +kernel
theorem dx_Sum_isZeroIn_53 : decode prog_9_method_4_code 53 = .ok (.iinc 7 1, 3) := by decide +kernel
theorem dx_Sum_isZeroIn_56 : decode prog_9_method_4_code 56 = .ok (.goto (-36), 3) := by decide +kernel
theorem dx_Sum_isZeroIn_59 : decode prog_9_method_4_code 59 = .ok (.lload 5, 2) := by decide +kernel
theorem dx_Sum_isZeroIn_61 : decode prog_9_method_4_code 61 = .ok (.ldc2_w 28, 3) := by decide +kernel
theorem dx_Sum_isZeroIn_64 : decode prog_9_method_4_code 64 = .ok (.land, 1) := by decide +kernel
theorem dx_Sum_isZeroIn_65 : decode prog_9_method_4_code 65 = .ok (.lconst 0, 1) := by decide +kernel
theorem dx_Sum_isZeroIn_66 : decode prog_9_method_4_code 66 = .ok (.lcmp, 1) := by decide +kernel
theorem dx_Sum_isZeroIn_67 : decode prog_9_method_4_code 67 = .ok (.ifCond .eq 5, 3) := by decide +kernel
theorem dx_Sum_isZeroIn_7 : decode prog_9_method_4_code 7 = .ok (.aload_n 1, 1) := by decide +kernel
theorem dx_Sum_isZeroIn_70 : decode prog_9_method_4_code 70 = .ok (.iconst 0, 1) := by decide +kernel
theorem dx_Sum_isZeroIn_71 : decode prog_9_method_4_code 71 = .ok (.ireturn, 1) := by decide +kernel
theorem dx_Sum_isZeroIn_72 : decode prog_9_method_4_code 72 = .ok (.lload 5, 2) := by decide +kernel
theorem dx_Sum_isZeroIn_74 : decode prog_9_method_4_code 74 = .ok (.bipush 30, 2) := by decide +kernel
theorem dx_Sum_isZeroIn_76 : decode prog_9_method_4_code 76 = .ok (.lshr, 1) := by decide +kernel
theorem dx_Sum_isZeroIn_77 : decode prog_9_method_4_code 77 = .ok (.lstore_n 2, 1) := by decide +kernel
theorem dx_Sum_isZeroIn_78 : decode prog_9_method_4_code 78 = .ok (.iinc 4 1, 3) := by decide +kernel
theorem dx_Sum_isZeroIn_8 : decode prog_9_method_4_code 8 = .ok (.getfield 18, 3) := by decide +kernel
theorem dx_Sum_isZeroIn_81 : decode prog_9_method_4_code 81 = .ok (.goto (-76), 3) := by decide +kernel
theorem dx_Sum_isZeroIn_84 : decode prog_9_method_4_code 84 = .ok (.lload_n 2, 1) := by decide +kernel
theorem dx_Sum_isZeroIn_85 : decode prog_9_method_4_code 85 = .ok (.lconst 0, 1) := by decide +kernel
theorem dx_Sum_isZeroIn_86 : decode prog_9_method_4_code 86 = .ok (.lcmp, 1) := by decide +kernel
theorem dx_Sum_isZeroIn_87 : decode prog_9_method_4_code 87 = .ok (.ifCond .ne 7, 3) := by decide +kernel
theorem dx_Sum_isZeroIn_90 : decode prog_9_method_4_code 90 = .ok (.iconst 1, 1) := by decide +kernel
theorem dx_Sum_isZeroIn_91 : decode prog_9_method_4_code 91 = .ok (.goto 4, 3) := by decide +kernel
theorem dx_Sum_isZeroIn_94 : decode prog_9_method_4_code 94 = .ok (.iconst 0, 1) := by decide +kernel
theorem dx_Sum_isZeroIn_95 : decode prog_9_method_4_code 95 = .ok (.ireturn, 1) := by decide +kernel
theorem dx_Sum_write_0 : decode prog_9_method_3_code 0 = .ok (.iconst 0, 1) := by decide +kernel
theorem dx_Sum_write_1 : decode prog_9_method_3_code 1 = .ok (.istore 4, 2) := by decide +kernel
theorem dx_Sum_write_102 : decode prog_9_method_3_code 102 = .ok (.lconst 0, 1) := by decide +kernel
theorem dx_Sum_write_103 : decode prog_9_method_3_code 103 = .ok (.lstore 4, 2) := by decide +kernel
theorem dx_Sum_write_105 : decode prog_9_method_3_code 105 = .ok (.iconst 0, 1) := by decide +kernel
theorem dx_Sum_write_106 : decode prog_9_method_3_code 106 = .ok (.istore 6, 2) := by decide +kernel
theorem dx_Sum_write_108 : decode prog_9_method_3_code 108 = .ok (.iload 6, 2) := by decide +kernel
theorem dx_Sum_write_110 : decode prog_9_method_3_code 110 = .ok (.aload_n 1, 1) := by decide +kernel
theorem dx_Sum_write_111 : decode prog_9_method_3_code 111 = .ok (.getfield 18, 3) := by decide +kernel
theorem dx_Sum_write_114 : decode prog_9_method_3_code 114 = .ok (.if_icmp .ge 41, 3) := by decide +kernel
theorem dx_Sum_write_117 : decode prog_9_method_3_code 117 = .ok (.aload_n 0, 1) := by decide +kernel
theorem dx_Sum_write_118 : decode prog_9_method_3_code 118 = .ok (.getfield 15, 3) := by decide +kernel
theorem dx_Sum_write_12 : decode prog_9_method_3_code 12 = .ok (.aload_n 0, 1) := by decide +kernel
theorem dx_Sum_write_121 : decode prog_9_method_3_code 121 = .ok (.iload 6, 2) := by decide +kernel
theorem dx_Sum_write_123 : decode prog_9_method_3_code 123 = .ok (.laload, 1) := by decide +kernel
theorem dx_Sum_write_124 : decode prog_9_method_3_code 124 = .ok (.lload 4, 2) := by decide +kernel
theorem dx_Sum_write_126 : decode prog_9_method_3_code 126 = .ok (.ladd, 1) := by decide +kernel
theorem dx_Sum_write_127 : decode prog_9_method_3_code 127 = .ok (.lstore 7, 2) := by decide +kernel
theorem dx_Sum_write_129 : decode prog_9_method_3_code 129 = .ok (.aload_n 2, 1) := by decide +kernel
theorem dx_Sum_write_13 : decode prog_9_method_3_code 13 = .ok (.getfield 15, 3) := by decide +kernel
theorem dx_Sum_write_130 : decode prog_9_method_3_code 130 = .ok (.iload_n 3, 1) := by decide +kernel
theorem dx_Sum_write_131 : decode prog_9_method_3_code 131 = .ok (.iload 6, 2) := by decide +kernel
theorem dx_Sum_write_133 : decode prog_9_method_3_code 133 = .ok (.iadd, 1) := by decide +kernel
theorem dx_Sum_write_134 : decode prog_9_method_3_code 134 = .ok (.lload 7, 2) := by decide +kernel
theorem dx_Sum_write_136 : decode prog_9_method_3_code 136 = .ok (.ldc2_w 28, 3) := by decide +kernel
theorem dx_Sum_write_139 : decode prog_9_method_3_code 139 = .ok (.land, 1) := by decide +kernel
theorem dx_Sum_write_140 : decode prog_9_method_3_code 140 = .ok (.l2i, 1) := by decide +kernel
theorem dx_Sum_write_141 : decode prog_9_method_3_code 141 = .ok (.iastore, 1) := by decide +kernel
theorem dx_Sum_write_142 : decode prog_9_method_3_code 142 = .ok (.lload 7, 2) := by decide +kernel
theorem dx_Sum_write_144 : decode prog_9_method_3_code 144 = .ok (.bipush 30, 2) := by decide +kernel
theorem dx_Sum_write_146 : decode prog_9_method_3_code 146 = .ok (.lshr, 1) := by decide +kernel
theorem dx_Sum_write_147 : decode prog_9_method_3_code 147 = .ok (.lstore 4, 2) := by decide +kernel
theorem dx_Sum_write_149 : decode prog_9_method_3_code 149 = .ok (.iinc 6 1, 3) := by decide +kernel
theorem dx_Sum_write_152 : decode prog_9_method_3_code 152 = .ok (.goto (-44), 3) := by decide +kernel
theorem dx_Sum_write_155 : decode prog_9_method_3_code 155 = .ok (.aload_n 2, 1) := by decide +kernel
theorem dx_Sum_write_156 : decode prog_9_method_3_code 156 = .ok (.iload_n 3, 1) := by decide +kernel
theorem dx_Sum_write_157 : decode prog_9_method_3_code 157 = .ok (.aload_n 1, 1) := by decide +kernel
theorem dx_Sum_write_158 : decode prog_9_method_3_code 158 = .ok (.getfield 18, 3) := by decide +kernel
theorem dx_Sum_write_16 : decode prog_9_method_3_code 16 = .ok (.iload 4, 2) := by decide +kernel
theorem dx_Sum_write_161 : decode prog_9_method_3_code 161 = .ok (.iadd, 1) := by decide +kernel
theorem dx_Sum_write_162 : decode prog_9_method_3_code 162 = .ok (.lload 4, 2) := by decide +kernel
theorem dx_Sum_write_164 : decode prog_9_method_3_code 164 = .ok (.l2i, 1) := by decide +kernel
theorem dx_Sum_write_165 : decode prog_9_method_3_code 165 = .ok (.iastore, 1) := by decide +kernel
theorem dx_Sum_write_166 : decode prog_9_method_3_code 166 = .ok (.return_, 1) := by decide +kernel
theorem dx_Sum_write_18 : decode prog_9_method_3_code 18 = .ok (.lconst 0, 1) := by decide +kernel
theorem dx_Sum_write_19 : decode prog_9_method_3_code 19 = .ok (.lastore, 1) := by decide +kernel
theorem dx_Sum_write_20 : decode prog_9_method_3_code 20 = .ok (.iinc 4 1, 3) := by decide +kernel
theorem dx_Sum_write_23 : decode prog_9_method_3_code 23 = .ok (.goto (-20), 3) := by decide +kernel
theorem dx_Sum_write_26 : decode prog_9_method_3_code 26 = .ok (.iconst 0, 1) := by decide +kernel
theorem dx_Sum_write_27 : decode prog_9_method_3_code 27 = .ok (.istore 4, 2) := by decide +kernel
theorem dx_Sum_write_29 : decode prog_9_method_3_code 29 = .ok (.iload 4, 2) := by decide +kernel
theorem dx_Sum_write_3 : decode prog_9_method_3_code 3 = .ok (.iload 4, 2) := by decide +kernel
theorem dx_Sum_write_31 : decode prog_9_method_3_code 31 = .ok (.iconst 5, 1) := by decide +kernel
theorem dx_Sum_write_32 : decode prog_9_method_3_code 32 = .ok (.if_icmp .ge 70, 3) := by decide +kernel
theorem dx_Sum_write_35 : decode prog_9_method_3_code 35 = .ok (.aload_n 0, 1) := by decide +kernel
theorem dx_Sum_write_36 : decode prog_9_method_3_code 36 = .ok (.getfield 9, 3) := by decide +kernel
theorem dx_Sum_write_39 : decode prog_9_method_3_code 39 = .ok (.iload 4, 2) := by decide +kernel
theorem dx_Sum_write_41 : decode prog_9_method_3_code 41 = .ok (.laload, 1) := by decide +kernel
theorem dx_Sum_write_42 : decode prog_9_method_3_code 42 = .ok (.lstore 5, 2) := by decide +kernel
theorem dx_Sum_write_44 : decode prog_9_method_3_code 44 = .ok (.iconst 0, 1) := by decide +kernel
theorem dx_Sum_write_45 : decode prog_9_method_3_code 45 = .ok (.istore 7, 2) := by decide +kernel
theorem dx_Sum_write_47 : decode prog_9_method_3_code 47 = .ok (.lload 5, 2) := by decide +kernel
theorem dx_Sum_write_49 : decode prog_9_method_3_code 49 = .ok (.lconst 0, 1) := by decide +kernel
theorem dx_Sum_write_5 : decode prog_9_method_3_code 5 = .ok (.aload_n 1, 1) := by decide +kernel
theorem dx_Sum_write_50 : decode prog_9_method_3_code 50 = .ok (.lcmp, 1) := by decide +kernel
theorem dx_Sum_write_51 : decode prog_9_method_3_code 51 = .ok (.ifCond .eq 45, 3) := by decide +kernel
theorem dx_Sum_write_54 : decode prog_9_method_3_code 54 = .ok (.iload 7, 2) := by decide +kernel
theorem dx_Sum_write_56 : decode prog_9_method_3_code 56 = .ok (.aload_n 1, 1) := by decide +kernel
theorem dx_Sum_write_57 : decode prog_9_method_3_code 57 = .ok (.getfield 18, 3) := by decide +kernel
theorem dx_Sum_write_6 : decode prog_9_method_3_code 6 = .ok (.getfield 18, 3) := by decide +kernel
theorem dx_Sum_write_60 : decode prog_9_method_3_code 60 = .ok (.if_icmp .ge 36, 3) := by decide +kernel
theorem dx_Sum_write_63 : decode prog_9_method_3_code 63 = .ok (.aload_n 0, 1) := by decide +kernel
theorem dx_Sum_write_64 : decode prog_9_method_3_code 64 = .ok (.getfield 15, 3) := by decide +kernel
theorem dx_Sum_write_67 : decode prog_9_method_3_code 67 = .ok (.iload 7, 2) := by decide +kernel
theorem dx_Sum_write_69 : decode prog_9_method_3_code 69 = .ok (.dup2, 1) := by decide +kernel
theorem dx_Sum_write_70 : decode prog_9_method_3_code 70 = .ok (.laload, 1) := by decide +kernel
theorem dx_Sum_write_71 : decode prog_9_method_3_code 71 = .ok (.lload 5, 2) := by decide +kernel
theorem dx_Sum_write_73 : decode prog_9_method_3_code 73 = .ok (.aload_n 1, 1) := by decide +kernel
theorem dx_Sum_write_74 : decode prog_9_method_3_code 74 = .ok (.getfield 24, 3) := by decide +kernel
theorem dx_Sum_write_77 : decode prog_9_method_3_code 77 = .ok (.iload 4, 2) := by decide +kernel
theorem dx_Sum_write_79 : decode prog_9_method_3_code 79 = .ok (.bipush 20, 2) := by decide +kernel
theorem dx_Sum_write_81 : decode prog_9_method_3_code 81 = .ok (.imul, 1) := by decide +kernel
theorem dx_Sum_write_82 : decode prog_9_method_3_code 82 = .ok (.iload 7, 2) := by decide +kernel
theorem dx_Sum_write_84 : decode prog_9_method_3_code 84 = .ok (.iadd, 1) := by decide +kernel
theorem dx_Sum_write_85 : decode prog_9_method_3_code 85 = .ok (.iaload, 1) := by decide +kernel
theorem dx_Sum_write_86 : decode prog_9_method_3_code 86 = .ok (.i2l, 1) := by decide +kernel
theorem dx_Sum_write_87 : decode prog_9_method_3_code 87 = .ok (.lmul, 1) := by decide +kernel
theorem dx_Sum_write_88 : decode prog_9_method_3_code 88 = .ok (.ladd, 1) := by decide +kernel
theorem dx_Sum_write_89 : decode prog_9_method_3_code 89 = .ok (.lastore, 1) := by decide +kernel
theorem dx_Sum_write_9 : decode prog_9_method_3_code 9 = .ok (.if_icmp .ge 17, 3) := by decide +kernel
theorem dx_Sum_write_90 : decode prog_9_method_3_code 90 = .ok (.iinc 7 1, 3) := by decide +kernel
theorem dx_Sum_write_93 : decode prog_9_method_3_code 93 = .ok (.goto (-46), 3) := by decide +kernel
theorem dx_Sum_write_96 : decode prog_9_method_3_code 96 = .ok (.iinc 4 1, 3) := by decide +kernel
theorem dx_Sum_write_99 : decode prog_9_method_3_code 99 = .ok (.goto (-70), 3) := by decide +kernel
theorem dx_Takings_behind_0 : decode prog_10_method_5_code 0 = .ok (.aload_n 1, 1) := by decide +kernel
theorem dx_Takings_behind_1 : decode prog_10_method_5_code 1 = .ok (.astore_n 3, 1) := by decide +kernel
theorem dx_Takings_behind_11 : decode prog_10_method_5_code 11 = .ok (.aload_n 3, 1) := by decide +kernel
theorem dx_Takings_behind_12 : decode prog_10_method_5_code 12 = .ok (.aload_n 0, 1) := by decide +kernel
theorem dx_Takings_behind_13 : decode prog_10_method_5_code 13 = .ok (.getfield 37, 3) := by decide +kernel
theorem dx_Takings_behind_16 : decode prog_10_method_5_code 16 = .ok (.if_acmp .ne 10, 3) := by decide +kernel
theorem dx_Takings_behind_19 : decode prog_10_method_5_code 19 = .ok (.aload_n 0, 1) := by decide +kernel
theorem dx_Takings_behind_2 : decode prog_10_method_5_code 2 = .ok (.iconst 0, 1) := by decide +kernel
theorem dx_Takings_behind_20 : decode prog_10_method_5_code 20 = .ok (.getfield 41, 3) := by decide +kernel
theorem dx_Takings_behind_23 : decode prog_10_method_5_code 23 = .ok (.goto 7, 3) := by decide +kernel
theorem dx_Takings_behind_26 : decode prog_10_method_5_code 26 = .ok (.aload_n 0, 1) := by decide +kernel
theorem dx_Takings_behind_27 : decode prog_10_method_5_code 27 = .ok (.getfield 37, 3) := by decide +kernel
theorem dx_Takings_behind_3 : decode prog_10_method_5_code 3 = .ok (.istore 4, 2) := by decide +kernel
theorem dx_Takings_behind_30 : decode prog_10_method_5_code 30 = .ok (.astore 5, 2) := by decide +kernel
theorem dx_Takings_behind_32 : decode prog_10_method_5_code 32 = .ok (.aload_n 0, 1) := by decide +kernel
theorem dx_Takings_behind_33 : decode prog_10_method_5_code 33 = .ok (.aload_n 3, 1) := by decide +kernel
theorem dx_Takings_behind_34 : decode prog_10_method_5_code 34 = .ok (.aload 5, 2) := by decide +kernel
theorem dx_Takings_behind_36 : decode prog_10_method_5_code 36 = .ok (.invokevirtual 79, 3) := by decide +kernel
theorem dx_Takings_behind_39 : decode prog_10_method_5_code 39 = .ok (.aload 5, 2) := by decide +kernel
theorem dx_Takings_behind_41 : decode prog_10_method_5_code 41 = .ok (.astore_n 3, 1) := by decide +kernel
theorem dx_Takings_behind_42 : decode prog_10_method_5_code 42 = .ok (.iinc 4 1, 3) := by decide +kernel
theorem dx_Takings_behind_45 : decode prog_10_method_5_code 45 = .ok (.goto (-40), 3) := by decide +kernel
theorem dx_Takings_behind_48 : decode prog_10_method_5_code 48 = .ok (.aload_n 3, 1) := by decide +kernel
theorem dx_Takings_behind_49 : decode prog_10_method_5_code 49 = .ok (.areturn, 1) := by decide +kernel
theorem dx_Takings_behind_5 : decode prog_10_method_5_code 5 = .ok (.iload 4, 2) := by decide +kernel
theorem dx_Takings_behind_7 : decode prog_10_method_5_code 7 = .ok (.iload_n 2, 1) := by decide +kernel
theorem dx_Takings_behind_8 : decode prog_10_method_5_code 8 = .ok (.if_icmp .ge 40, 3) := by decide +kernel
theorem dx_Takings_night_0 : decode prog_10_method_6_code 0 = .ok (.iconst 0, 1) := by decide +kernel
theorem dx_Takings_night_1 : decode prog_10_method_6_code 1 = .ok (.istore_n 3, 1) := by decide +kernel
theorem dx_Takings_night_10 : decode prog_10_method_6_code 10 = .ok (.aload_n 0, 1) := by decide +kernel
theorem dx_Takings_night_11 : decode prog_10_method_6_code 11 = .ok (.getfield 27, 3) := by decide +kernel
theorem dx_Takings_night_14 : decode prog_10_method_6_code 14 = .ok (.iload_n 3, 1) := by decide +kernel
theorem dx_Takings_night_15 : decode prog_10_method_6_code 15 = .ok (.baload, 1) := by decide +kernel
theorem dx_Takings_night_16 : decode prog_10_method_6_code 16 = .ok (.ifCond .eq 12, 3) := by decide +kernel
theorem dx_Takings_night_19 : decode prog_10_method_6_code 19 = .ok (.aload_n 0, 1) := by decide +kernel
theorem dx_Takings_night_2 : decode prog_10_method_6_code 2 = .ok (.iload_n 3, 1) := by decide +kernel
theorem dx_Takings_night_20 : decode prog_10_method_6_code 20 = .ok (.iload_n 3, 1) := by decide +kernel
theorem dx_Takings_night_21 : decode prog_10_method_6_code 21 = .ok (.aload_n 1, 1) := by decide +kernel
theorem dx_Takings_night_22 : decode prog_10_method_6_code 22 = .ok (.invokevirtual 83, 3) := by decide +kernel
theorem dx_Takings_night_25 : decode prog_10_method_6_code 25 = .ok (.goto 8, 3) := by decide +kernel
theorem dx_Takings_night_28 : decode prog_10_method_6_code 28 = .ok (.aload_n 0, 1) := by decide +kernel
theorem dx_Takings_night_29 : decode prog_10_method_6_code 29 = .ok (.iload_n 3, 1) := by decide +kernel
theorem dx_Takings_night_3 : decode prog_10_method_6_code 3 = .ok (.aload_n 0, 1) := by decide +kernel
theorem dx_Takings_night_30 : decode prog_10_method_6_code 30 = .ok (.invokevirtual 87, 3) := by decide +kernel
theorem dx_Takings_night_33 : decode prog_10_method_6_code 33 = .ok (.aload_n 0, 1) := by decide +kernel
theorem dx_Takings_night_34 : decode prog_10_method_6_code 34 = .ok (.getfield 12, 3) := by decide +kernel
theorem dx_Takings_night_37 : decode prog_10_method_6_code 37 = .ok (.aload_n 1, 1) := by decide +kernel
theorem dx_Takings_night_38 : decode prog_10_method_6_code 38 = .ok (.aload_n 2, 1) := by decide +kernel
theorem dx_Takings_night_39 : decode prog_10_method_6_code 39 = .ok (.getfield 91, 3) := by decide +kernel
theorem dx_Takings_night_4 : decode prog_10_method_6_code 4 = .ok (.getfield 50, 3) := by decide +kernel
theorem dx_Takings_night_42 : decode prog_10_method_6_code 42 = .ok (.iload_n 3, 1) := by decide +kernel
theorem dx_Takings_night_43 : decode prog_10_method_6_code 43 = .ok (.bipush 20, 2) := by decide +kernel
theorem dx_Takings_night_45 : decode prog_10_method_6_code 45 = .ok (.imul, 1) := by decide +kernel
theorem dx_Takings_night_46 : decode prog_10_method_6_code 46 = .ok (.invokevirtual 94, 3) := by decide +kernel
theorem dx_Takings_night_49 : decode prog_10_method_6_code 49 = .ok (.iinc 3 1, 3) := by decide +kernel
theorem dx_Takings_night_52 : decode prog_10_method_6_code 52 = .ok (.goto (-50), 3) := by decide +kernel
theorem dx_Takings_night_55 : decode prog_10_method_6_code 55 = .ok (.aload_n 0, 1) := by decide +kernel
theorem dx_Takings_night_56 : decode prog_10_method_6_code 56 = .ok (.getfield 12, 3) := by decide +kernel
theorem dx_Takings_night_59 : decode prog_10_method_6_code 59 = .ok (.invokevirtual 98, 3) := by decide +kernel
theorem dx_Takings_night_62 : decode prog_10_method_6_code 62 = .ok (.aload_n 0, 1) := by decide +kernel
theorem dx_Takings_night_63 : decode prog_10_method_6_code 63 = .ok (.getfield 12, 3) := by decide +kernel
theorem dx_Takings_night_66 : decode prog_10_method_6_code 66 = .ok (.getfield 101, 3) := by decide +kernel
theorem dx_Takings_night_69 : decode prog_10_method_6_code 69 = .ok (.iconst 4, 1) := by decide +kernel
theorem dx_Takings_night_7 : decode prog_10_method_6_code 7 = .ok (.if_icmp .ge 48, 3) := by decide +kernel
theorem dx_Takings_night_70 : decode prog_10_method_6_code 70 = .ok (.aload_n 0, 1) := by decide +kernel
theorem dx_Takings_night_71 : decode prog_10_method_6_code 71 = .ok (.getfield 51, 3) := by decide +kernel
theorem dx_Takings_night_74 : decode prog_10_method_6_code 74 = .ok (.i2l, 1) := by decide +kernel
theorem dx_Takings_night_75 : decode prog_10_method_6_code 75 = .ok (.lastore, 1) := by decide +kernel
theorem dx_Takings_night_76 : decode prog_10_method_6_code 76 = .ok (.aload_n 0, 1) := by decide +kernel
theorem dx_Takings_night_77 : decode prog_10_method_6_code 77 = .ok (.getfield 12, 3) := by decide +kernel
theorem dx_Takings_night_80 : decode prog_10_method_6_code 80 = .ok (.aload_n 1, 1) := by decide +kernel
theorem dx_Takings_night_81 : decode prog_10_method_6_code 81 = .ok (.aload_n 2, 1) := by decide +kernel
theorem dx_Takings_night_82 : decode prog_10_method_6_code 82 = .ok (.getfield 91, 3) := by decide +kernel
theorem dx_Takings_night_85 : decode prog_10_method_6_code 85 = .ok (.bipush 80, 2) := by decide +kernel
theorem dx_Takings_night_87 : decode prog_10_method_6_code 87 = .ok (.invokevirtual 94, 3) := by decide +kernel
theorem dx_Takings_night_90 : decode prog_10_method_6_code 90 = .ok (.aload_n 2, 1) := by decide +kernel
theorem dx_Takings_night_91 : decode prog_10_method_6_code 91 = .ok (.aload_n 1, 1) := by decide +kernel
theorem dx_Takings_night_92 : decode prog_10_method_6_code 92 = .ok (.getfield 105, 3) := by decide +kernel
theorem dx_Takings_night_95 : decode prog_10_method_6_code 95 = .ok (.invokevirtual 108, 3) := by decide +kernel
theorem dx_Takings_night_98 : decode prog_10_method_6_code 98 = .ok (.return_, 1) := by decide +kernel
theorem dx_Takings_ofCloths_0 : decode prog_10_method_3_code 0 = .ok (.iconst 0, 1) := by decide +kernel
theorem dx_Takings_ofCloths_1 : decode prog_10_method_3_code 1 = .ok (.istore 4, 2) := by decide +kernel
theorem dx_Takings_ofCloths_100 : decode prog_10_method_3_code 100 = .ok (.iconst 1, 1) := by decide +kernel
theorem dx_Takings_ofCloths_101 : decode prog_10_method_3_code 101 = .ok (.iadd, 1) := by decide +kernel
theorem dx_Takings_ofCloths_102 : decode prog_10_method_3_code 102 = .ok (.iastore, 1) := by decide +kernel
theorem dx_Takings_ofCloths_103 : decode prog_10_method_3_code 103 = .ok (.iload 4, 2) := by decide +kernel
theorem dx_Takings_ofCloths_105 : decode prog_10_method_3_code 105 = .ok (.aload_n 0, 1) := by decide +kernel
theorem dx_Takings_ofCloths_106 : decode prog_10_method_3_code 106 = .ok (.getfield 20, 3) := by decide +kernel
theorem dx_Takings_ofCloths_109 : decode prog_10_method_3_code 109 = .ok (.iload_n 2, 1) := by decide +kernel
theorem dx_Takings_ofCloths_110 : decode prog_10_method_3_code 110 = .ok (.aaload, 1) := by decide +kernel
theorem dx_Takings_ofCloths_111 : decode prog_10_method_3_code 111 = .ok (.iload_n 2, 1) := by decide +kernel
theorem dx_Takings_ofCloths_112 : decode prog_10_method_3_code 112 = .ok (.iaload, 1) := by decide +kernel
theorem dx_Takings_ofCloths_113 : decode prog_10_method_3_code 113 = .ok (.iadd, 1) := by decide +kernel
theorem dx_Takings_ofCloths_114 : decode prog_10_method_3_code 114 = .ok (.istore 4, 2) := by decide +kernel
theorem dx_Takings_ofCloths_116 : decode prog_10_method_3_code 116 = .ok (.iload 4, 2) := by decide +kernel
theorem dx_Takings_ofCloths_118 : decode prog_10_method_3_code 118 = .ok (.ireturn, 1) := by decide +kernel
theorem dx_Takings_ofCloths_12 : decode prog_10_method_3_code 12 = .ok (.if_icmp .ge 55, 3) := by decide +kernel
theorem dx_Takings_ofCloths_15 : decode prog_10_method_3_code 15 = .ok (.aload_n 0, 1) := by decide +kernel
theorem dx_Takings_ofCloths_16 : decode prog_10_method_3_code 16 = .ok (.getfield 20, 3) := by decide +kernel
theorem dx_Takings_ofCloths_19 : decode prog_10_method_3_code 19 = .ok (.iload_n 2, 1) := by decide +kernel
theorem dx_Takings_ofCloths_20 : decode prog_10_method_3_code 20 = .ok (.aaload, 1) := by decide +kernel
theorem dx_Takings_ofCloths_21 : decode prog_10_method_3_code 21 = .ok (.iload 5, 2) := by decide +kernel
theorem dx_Takings_ofCloths_23 : decode prog_10_method_3_code 23 = .ok (.iload 5, 2) := by decide +kernel
theorem dx_Takings_ofCloths_25 : decode prog_10_method_3_code 25 = .ok (.iload_n 2, 1) := by decide +kernel
theorem dx_Takings_ofCloths_26 : decode prog_10_method_3_code 26 = .ok (.if_icmp .eq 19, 3) := by decide +kernel
theorem dx_Takings_ofCloths_29 : decode prog_10_method_3_code 29 = .ok (.aload_n 1, 1) := by decide +kernel
theorem dx_Takings_ofCloths_3 : decode prog_10_method_3_code 3 = .ok (.iconst 0, 1) := by decide +kernel
theorem dx_Takings_ofCloths_30 : decode prog_10_method_3_code 30 = .ok (.iload 5, 2) := by decide +kernel
theorem dx_Takings_ofCloths_32 : decode prog_10_method_3_code 32 = .ok (.invokevirtual 69, 3) := by decide +kernel
theorem dx_Takings_ofCloths_35 : decode prog_10_method_3_code 35 = .ok (.ifCond .eq 10, 3) := by decide +kernel
theorem dx_Takings_ofCloths_38 : decode prog_10_method_3_code 38 = .ok (.aload_n 3, 1) := by decide +kernel
theorem dx_Takings_ofCloths_39 : decode prog_10_method_3_code 39 = .ok (.iload 5, 2) := by decide +kernel
theorem dx_Takings_ofCloths_4 : decode prog_10_method_3_code 4 = .ok (.istore 5, 2) := by decide +kernel
theorem dx_Takings_ofCloths_41 : decode prog_10_method_3_code 41 = .ok (.iaload, 1) := by decide +kernel
theorem dx_Takings_ofCloths_42 : decode prog_10_method_3_code 42 = .ok (.goto 4, 3) := by decide +kernel
theorem dx_Takings_ofCloths_45 : decode prog_10_method_3_code 45 = .ok (.iconst 0, 1) := by decide +kernel
theorem dx_Takings_ofCloths_46 : decode prog_10_method_3_code 46 = .ok (.iastore, 1) := by decide +kernel
theorem dx_Takings_ofCloths_47 : decode prog_10_method_3_code 47 = .ok (.iload 4, 2) := by decide +kernel
theorem dx_Takings_ofCloths_49 : decode prog_10_method_3_code 49 = .ok (.aload_n 0, 1) := by decide +kernel
theorem dx_Takings_ofCloths_50 : decode prog_10_method_3_code 50 = .ok (.getfield 20, 3) := by decide +kernel
theorem dx_Takings_ofCloths_53 : decode prog_10_method_3_code 53 = .ok (.iload_n 2, 1) := by decide +kernel
theorem dx_Takings_ofCloths_54 : decode prog_10_method_3_code 54 = .ok (.aaload, 1) := by decide +kernel
theorem dx_Takings_ofCloths_55 : decode prog_10_method_3_code 55 = .ok (.iload 5, 2) := by decide +kernel
theorem dx_Takings_ofCloths_57 : decode prog_10_method_3_code 57 = .ok (.iaload, 1) := by decide +kernel
theorem dx_Takings_ofCloths_58 : decode prog_10_method_3_code 58 = .ok (.iadd, 1) := by decide +kernel
theorem dx_Takings_ofCloths_59 : decode prog_10_method_3_code 59 = .ok (.istore 4, 2) := by decide +kernel
theorem dx_Takings_ofCloths_6 : decode prog_10_method_3_code 6 = .ok (.iload 5, 2) := by decide +kernel
theorem dx_Takings_ofCloths_61 : decode prog_10_method_3_code 61 = .ok (.iinc 5 1, 3) := by decide +kernel
theorem dx_Takings_ofCloths_64 : decode prog_10_method_3_code 64 = .ok (.goto (-58), 3) := by decide +kernel
theorem dx_Takings_ofCloths_67 : decode prog_10_method_3_code 67 = .ok (.aload_n 1, 1) := by decide +kernel
theorem dx_Takings_ofCloths_68 : decode prog_10_method_3_code 68 = .ok (.getfield 54, 3) := by decide +kernel
theorem dx_Takings_ofCloths_71 : decode prog_10_method_3_code 71 = .ok (.iload_n 2, 1) := by decide +kernel
theorem dx_Takings_ofCloths_72 : decode prog_10_method_3_code 72 = .ok (.iaload, 1) := by decide +kernel
theorem dx_Takings_ofCloths_73 : decode prog_10_method_3_code 73 = .ok (.iconst 1, 1) := by decide +kernel
theorem dx_Takings_ofCloths_74 : decode prog_10_method_3_code 74 = .ok (.if_icmp .eq 13, 3) := by decide +kernel
theorem dx_Takings_ofCloths_77 : decode prog_10_method_3_code 77 = .ok (.aload_n 1, 1) := by decide +kernel
theorem dx_Takings_ofCloths_78 : decode prog_10_method_3_code 78 = .ok (.getfield 54, 3) := by decide +kernel
theorem dx_Takings_ofCloths_8 : decode prog_10_method_3_code 8 = .ok (.aload_n 0, 1) := by decide +kernel
theorem dx_Takings_ofCloths_81 : decode prog_10_method_3_code 81 = .ok (.iload_n 2, 1) := by decide +kernel
theorem dx_Takings_ofCloths_82 : decode prog_10_method_3_code 82 = .ok (.iaload, 1) := by decide +kernel
theorem dx_Takings_ofCloths_83 : decode prog_10_method_3_code 83 = .ok (.iconst 3, 1) := by decide +kernel
theorem dx_Takings_ofCloths_84 : decode prog_10_method_3_code 84 = .ok (.if_icmp .ne 32, 3) := by decide +kernel
theorem dx_Takings_ofCloths_87 : decode prog_10_method_3_code 87 = .ok (.aload_n 0, 1) := by decide +kernel
theorem dx_Takings_ofCloths_88 : decode prog_10_method_3_code 88 = .ok (.getfield 20, 3) := by decide +kernel
theorem dx_Takings_ofCloths_9 : decode prog_10_method_3_code 9 = .ok (.getfield 50, 3) := by decide +kernel
theorem dx_Takings_ofCloths_91 : decode prog_10_method_3_code 91 = .ok (.iload_n 2, 1) := by decide +kernel
theorem dx_Takings_ofCloths_92 : decode prog_10_method_3_code 92 = .ok (.aaload, 1) := by decide +kernel
theorem dx_Takings_ofCloths_93 : decode prog_10_method_3_code 93 = .ok (.iload_n 2, 1) := by decide +kernel
theorem dx_Takings_ofCloths_94 : decode prog_10_method_3_code 94 = .ok (.aload_n 1, 1) := by decide +kernel
theorem dx_Takings_ofCloths_95 : decode prog_10_method_3_code 95 = .ok (.getfield 73, 3) := by decide +kernel
theorem dx_Takings_ofCloths_98 : decode prog_10_method_3_code 98 = .ok (.iload_n 2, 1) := by decide +kernel
theorem dx_Takings_ofCloths_99 : decode prog_10_method_3_code 99 = .ok (.iaload, 1) := by decide +kernel
theorem dx_Takings_ofThings_0 : decode prog_10_method_4_code 0 = .ok (.iconst 0, 1) := by decide +kernel
theorem dx_Takings_ofThings_1 : decode prog_10_method_4_code 1 = .ok (.istore 5, 2) := by decide +kernel
theorem dx_Takings_ofThings_10 : decode prog_10_method_4_code 10 = .ok (.if_icmp .ne 7, 3) := by decide +kernel
theorem dx_Takings_ofThings_100 : decode prog_10_method_4_code 100 = .ok (.iaload, 1) := by decide +kernel
theorem dx_Takings_ofThings_101 : decode prog_10_method_4_code 101 = .ok (.if_icmp .le 14, 3) := by decide +kernel
theorem dx_Takings_ofThings_104 : decode prog_10_method_4_code 104 = .ok (.aload_n 0, 1) := by decide +kernel
theorem dx_Takings_ofThings_105 : decode prog_10_method_4_code 105 = .ok (.getfield 31, 3) := by decide +kernel
theorem dx_Takings_ofThings_108 : decode prog_10_method_4_code 108 = .ok (.iload_n 2, 1) := by decide +kernel
theorem dx_Takings_ofThings_109 : decode prog_10_method_4_code 109 = .ok (.aload 4, 2) := by decide +kernel
theorem dx_Takings_ofThings_111 : decode prog_10_method_4_code 111 = .ok (.iload 7, 2) := by decide +kernel
theorem dx_Takings_ofThings_113 : decode prog_10_method_4_code 113 = .ok (.iaload, 1) := by decide +kernel
theorem dx_Takings_ofThings_114 : decode prog_10_method_4_code 114 = .ok (.iastore, 1) := by decide +kernel
theorem dx_Takings_ofThings_115 : decode prog_10_method_4_code 115 = .ok (.iinc 7 1, 3) := by decide +kernel
theorem dx_Takings_ofThings_118 : decode prog_10_method_4_code 118 = .ok (.goto (-79), 3) := by decide +kernel
theorem dx_Takings_ofThings_121 : decode prog_10_method_4_code 121 = .ok (.iload 5, 2) := by decide +kernel
theorem dx_Takings_ofThings_123 : decode prog_10_method_4_code 123 = .ok (.ireturn, 1) := by decide +kernel
theorem dx_Takings_ofThings_13 : decode prog_10_method_4_code 13 = .ok (.iconst 2, 1) := by decide +kernel
theorem dx_Takings_ofThings_14 : decode prog_10_method_4_code 14 = .ok (.goto 4, 3) := by decide +kernel
theorem dx_Takings_ofThings_17 : decode prog_10_method_4_code 17 = .ok (.iconst 1, 1) := by decide +kernel
theorem dx_Takings_ofThings_18 : decode prog_10_method_4_code 18 = .ok (.istore 6, 2) := by decide +kernel
theorem dx_Takings_ofThings_20 : decode prog_10_method_4_code 20 = .ok (.aload_n 0, 1) := by decide +kernel
theorem dx_Takings_ofThings_21 : decode prog_10_method_4_code 21 = .ok (.getfield 20, 3) := by decide +kernel
theorem dx_Takings_ofThings_24 : decode prog_10_method_4_code 24 = .ok (.iload_n 2, 1) := by decide +kernel
theorem dx_Takings_ofThings_25 : decode prog_10_method_4_code 25 = .ok (.aaload, 1) := by decide +kernel
theorem dx_Takings_ofThings_26 : decode prog_10_method_4_code 26 = .ok (.iconst 4, 1) := by decide +kernel
theorem dx_Takings_ofThings_27 : decode prog_10_method_4_code 27 = .ok (.iconst 0, 1) := by decide +kernel
theorem dx_Takings_ofThings_28 : decode prog_10_method_4_code 28 = .ok (.iastore, 1) := by decide +kernel
theorem dx_Takings_ofThings_29 : decode prog_10_method_4_code 29 = .ok (.aload_n 0, 1) := by decide +kernel
theorem dx_Takings_ofThings_3 : decode prog_10_method_4_code 3 = .ok (.aload_n 1, 1) := by decide +kernel
theorem dx_Takings_ofThings_30 : decode prog_10_method_4_code 30 = .ok (.getfield 31, 3) := by decide +kernel
theorem dx_Takings_ofThings_33 : decode prog_10_method_4_code 33 = .ok (.iload_n 2, 1) := by decide +kernel
theorem dx_Takings_ofThings_34 : decode prog_10_method_4_code 34 = .ok (.iconst (-1), 1) := by decide +kernel
theorem dx_Takings_ofThings_35 : decode prog_10_method_4_code 35 = .ok (.iastore, 1) := by decide +kernel
theorem dx_Takings_ofThings_36 : decode prog_10_method_4_code 36 = .ok (.iconst 0, 1) := by decide +kernel
theorem dx_Takings_ofThings_37 : decode prog_10_method_4_code 37 = .ok (.istore 7, 2) := by decide +kernel
theorem dx_Takings_ofThings_39 : decode prog_10_method_4_code 39 = .ok (.iload 7, 2) := by decide +kernel
theorem dx_Takings_ofThings_4 : decode prog_10_method_4_code 4 = .ok (.getfield 54, 3) := by decide +kernel
theorem dx_Takings_ofThings_41 : decode prog_10_method_4_code 41 = .ok (.aload_n 1, 1) := by decide +kernel
theorem dx_Takings_ofThings_42 : decode prog_10_method_4_code 42 = .ok (.getfield 76, 3) := by decide +kernel
theorem dx_Takings_ofThings_45 : decode prog_10_method_4_code 45 = .ok (.if_icmp .ge 76, 3) := by decide +kernel
theorem dx_Takings_ofThings_48 : decode prog_10_method_4_code 48 = .ok (.iload 6, 2) := by decide +kernel
theorem dx_Takings_ofThings_50 : decode prog_10_method_4_code 50 = .ok (.aload_n 3, 1) := by decide +kernel
theorem dx_Takings_ofThings_51 : decode prog_10_method_4_code 51 = .ok (.iconst 4, 1) := by decide +kernel
theorem dx_Takings_ofThings_52 : decode prog_10_method_4_code 52 = .ok (.iload 7, 2) := by decide +kernel
theorem dx_Takings_ofThings_54 : decode prog_10_method_4_code 54 = .ok (.iadd, 1) := by decide +kernel
theorem dx_Takings_ofThings_55 : decode prog_10_method_4_code 55 = .ok (.iaload, 1) := by decide +kernel
theorem dx_Takings_ofThings_56 : decode prog_10_method_4_code 56 = .ok (.imul, 1) := by decide +kernel
theorem dx_Takings_ofThings_57 : decode prog_10_method_4_code 57 = .ok (.istore 8, 2) := by decide +kernel
theorem dx_Takings_ofThings_59 : decode prog_10_method_4_code 59 = .ok (.aload_n 0, 1) := by decide +kernel
theorem dx_Takings_ofThings_60 : decode prog_10_method_4_code 60 = .ok (.getfield 20, 3) := by decide +kernel
theorem dx_Takings_ofThings_63 : decode prog_10_method_4_code 63 = .ok (.iload_n 2, 1) := by decide +kernel
theorem dx_Takings_ofThings_64 : decode prog_10_method_4_code 64 = .ok (.aaload, 1) := by decide +kernel
theorem dx_Takings_ofThings_65 : decode prog_10_method_4_code 65 = .ok (.iconst 4, 1) := by decide +kernel
theorem dx_Takings_ofThings_66 : decode prog_10_method_4_code 66 = .ok (.dup2, 1) := by decide +kernel
theorem dx_Takings_ofThings_67 : decode prog_10_method_4_code 67 = .ok (.iaload, 1) := by decide +kernel
theorem dx_Takings_ofThings_68 : decode prog_10_method_4_code 68 = .ok (.iload 8, 2) := by decide +kernel
theorem dx_Takings_ofThings_7 : decode prog_10_method_4_code 7 = .ok (.iload_n 2, 1) := by decide +kernel
theorem dx_Takings_ofThings_70 : decode prog_10_method_4_code 70 = .ok (.aload 4, 2) := by decide +kernel
theorem dx_Takings_ofThings_72 : decode prog_10_method_4_code 72 = .ok (.iload 7, 2) := by decide +kernel
theorem dx_Takings_ofThings_74 : decode prog_10_method_4_code 74 = .ok (.iaload, 1) := by decide +kernel
theorem dx_Takings_ofThings_75 : decode prog_10_method_4_code 75 = .ok (.imul, 1) := by decide +kernel
theorem dx_Takings_ofThings_76 : decode prog_10_method_4_code 76 = .ok (.iadd, 1) := by decide +kernel
theorem dx_Takings_ofThings_77 : decode prog_10_method_4_code 77 = .ok (.iastore, 1) := by decide +kernel
theorem dx_Takings_ofThings_78 : decode prog_10_method_4_code 78 = .ok (.iload 5, 2) := by decide +kernel
theorem dx_Takings_ofThings_8 : decode prog_10_method_4_code 8 = .ok (.iaload, 1) := by decide +kernel
theorem dx_Takings_ofThings_80 : decode prog_10_method_4_code 80 = .ok (.iload 8, 2) := by decide +kernel
theorem dx_Takings_ofThings_82 : decode prog_10_method_4_code 82 = .ok (.iadd, 1) := by decide +kernel
theorem dx_Takings_ofThings_83 : decode prog_10_method_4_code 83 = .ok (.istore 5, 2) := by decide +kernel
theorem dx_Takings_ofThings_85 : decode prog_10_method_4_code 85 = .ok (.iload 8, 2) := by decide +kernel
theorem dx_Takings_ofThings_87 : decode prog_10_method_4_code 87 = .ok (.ifCond .le 28, 3) := by decide +kernel
theorem dx_Takings_ofThings_9 : decode prog_10_method_4_code 9 = .ok (.iconst 3, 1) := by decide +kernel
theorem dx_Takings_ofThings_90 : decode prog_10_method_4_code 90 = .ok (.aload 4, 2) := by decide +kernel
theorem dx_Takings_ofThings_92 : decode prog_10_method_4_code 92 = .ok (.iload 7, 2) := by decide +kernel
theorem dx_Takings_ofThings_94 : decode prog_10_method_4_code 94 = .ok (.iaload, 1) := by decide +kernel
theorem dx_Takings_ofThings_95 : decode prog_10_method_4_code 95 = .ok (.aload_n 0, 1) := by decide +kernel
theorem dx_Takings_ofThings_96 : decode prog_10_method_4_code 96 = .ok (.getfield 31, 3) := by decide +kernel
theorem dx_Takings_ofThings_99 : decode prog_10_method_4_code 99 = .ok (.iload_n 2, 1) := by decide +kernel
theorem dx_Takings_reckon_0 : decode prog_10_method_2_code 0 = .ok (.aload_n 0, 1) := by decide +kernel
theorem dx_Takings_reckon_1 : decode prog_10_method_2_code 1 = .ok (.aload_n 1, 1) := by decide +kernel
theorem dx_Takings_reckon_10 : decode prog_10_method_2_code 10 = .ok (.putfield 51, 3) := by decide +kernel
theorem dx_Takings_reckon_101 : decode prog_10_method_2_code 101 = .ok (.aload_n 0, 1) := by decide +kernel
theorem dx_Takings_reckon_102 : decode prog_10_method_2_code 102 = .ok (.getfield 23, 3) := by decide +kernel
theorem dx_Takings_reckon_105 : decode prog_10_method_2_code 105 = .ok (.iload 4, 2) := by decide +kernel
theorem dx_Takings_reckon_107 : decode prog_10_method_2_code 107 = .ok (.iaload, 1) := by decide +kernel
theorem dx_Takings_reckon_108 : decode prog_10_method_2_code 108 = .ok (.invokestatic 65, 3) := by decide +kernel
theorem dx_Takings_reckon_111 : decode prog_10_method_2_code 111 = .ok (.istore 6, 2) := by decide +kernel
theorem dx_Takings_reckon_113 : decode prog_10_method_2_code 113 = .ok (.aload_n 0, 1) := by decide +kernel
theorem dx_Takings_reckon_114 : decode prog_10_method_2_code 114 = .ok (.getfield 23, 3) := by decide +kernel
theorem dx_Takings_reckon_117 : decode prog_10_method_2_code 117 = .ok (.iload 4, 2) := by decide +kernel
theorem dx_Takings_reckon_119 : decode prog_10_method_2_code 119 = .ok (.iaload, 1) := by decide +kernel
theorem dx_Takings_reckon_120 : decode prog_10_method_2_code 120 = .ok (.ifCond .le 27, 3) := by decide +kernel
theorem dx_Takings_reckon_123 : decode prog_10_method_2_code 123 = .ok (.iload 6, 2) := by decide +kernel
theorem dx_Takings_reckon_125 : decode prog_10_method_2_code 125 = .ok (.ifCond .le 22, 3) := by decide +kernel
theorem dx_Takings_reckon_128 : decode prog_10_method_2_code 128 = .ok (.aload_n 0, 1) := by decide +kernel
theorem dx_Takings_reckon_129 : decode prog_10_method_2_code 129 = .ok (.aload_n 0, 1) := by decide +kernel
theorem dx_Takings_reckon_13 : decode prog_10_method_2_code 13 = .ok (.iconst 0, 1) := by decide +kernel
theorem dx_Takings_reckon_130 : decode prog_10_method_2_code 130 = .ok (.getfield 51, 3) := by decide +kernel
theorem dx_Takings_reckon_133 : decode prog_10_method_2_code 133 = .ok (.iload 6, 2) := by decide +kernel
theorem dx_Takings_reckon_135 : decode prog_10_method_2_code 135 = .ok (.idiv, 1) := by decide +kernel
theorem dx_Takings_reckon_136 : decode prog_10_method_2_code 136 = .ok (.aload_n 0, 1) := by decide +kernel
theorem dx_Takings_reckon_137 : decode prog_10_method_2_code 137 = .ok (.getfield 23, 3) := by decide +kernel
theorem dx_Takings_reckon_14 : decode prog_10_method_2_code 14 = .ok (.istore 4, 2) := by decide +kernel
theorem dx_Takings_reckon_140 : decode prog_10_method_2_code 140 = .ok (.iload 4, 2) := by decide +kernel
theorem dx_Takings_reckon_142 : decode prog_10_method_2_code 142 = .ok (.iaload, 1) := by decide +kernel
theorem dx_Takings_reckon_143 : decode prog_10_method_2_code 143 = .ok (.imul, 1) := by decide +kernel
theorem dx_Takings_reckon_144 : decode prog_10_method_2_code 144 = .ok (.putfield 51, 3) := by decide +kernel
theorem dx_Takings_reckon_147 : decode prog_10_method_2_code 147 = .ok (.iinc 4 1, 3) := by decide +kernel
theorem dx_Takings_reckon_150 : decode prog_10_method_2_code 150 = .ok (.goto (-134), 3) := by decide +kernel
theorem dx_Takings_reckon_153 : decode prog_10_method_2_code 153 = .ok (.return_, 1) := by decide +kernel
theorem dx_Takings_reckon_16 : decode prog_10_method_2_code 16 = .ok (.iload 4, 2) := by decide +kernel
theorem dx_Takings_reckon_18 : decode prog_10_method_2_code 18 = .ok (.aload_n 0, 1) := by decide +kernel
theorem dx_Takings_reckon_19 : decode prog_10_method_2_code 19 = .ok (.getfield 50, 3) := by decide +kernel
theorem dx_Takings_reckon_2 : decode prog_10_method_2_code 2 = .ok (.getfield 44, 3) := by decide +kernel
theorem dx_Takings_reckon_22 : decode prog_10_method_2_code 22 = .ok (.if_icmp .ge 131, 3) := by decide +kernel
theorem dx_Takings_reckon_25 : decode prog_10_method_2_code 25 = .ok (.aload_n 0, 1) := by decide +kernel
theorem dx_Takings_reckon_26 : decode prog_10_method_2_code 26 = .ok (.getfield 27, 3) := by decide +kernel
theorem dx_Takings_reckon_29 : decode prog_10_method_2_code 29 = .ok (.iload 4, 2) := by decide +kernel
theorem dx_Takings_reckon_31 : decode prog_10_method_2_code 31 = .ok (.aload_n 1, 1) := by decide +kernel
theorem dx_Takings_reckon_32 : decode prog_10_method_2_code 32 = .ok (.getfield 54, 3) := by decide +kernel
theorem dx_Takings_reckon_35 : decode prog_10_method_2_code 35 = .ok (.iload 4, 2) := by decide +kernel
theorem dx_Takings_reckon_37 : decode prog_10_method_2_code 37 = .ok (.iaload, 1) := by decide +kernel
theorem dx_Takings_reckon_38 : decode prog_10_method_2_code 38 = .ok (.iconst 4, 1) := by decide +kernel
theorem dx_Takings_reckon_39 : decode prog_10_method_2_code 39 = .ok (.if_icmp .ne 7, 3) := by decide +kernel
theorem dx_Takings_reckon_42 : decode prog_10_method_2_code 42 = .ok (.iconst 1, 1) := by decide +kernel
theorem dx_Takings_reckon_43 : decode prog_10_method_2_code 43 = .ok (.goto 4, 3) := by decide +kernel
theorem dx_Takings_reckon_46 : decode prog_10_method_2_code 46 = .ok (.iconst 0, 1) := by decide +kernel
theorem dx_Takings_reckon_47 : decode prog_10_method_2_code 47 = .ok (.bastore, 1) := by decide +kernel
theorem dx_Takings_reckon_48 : decode prog_10_method_2_code 48 = .ok (.aload_n 0, 1) := by decide +kernel
theorem dx_Takings_reckon_49 : decode prog_10_method_2_code 49 = .ok (.aload_n 1, 1) := by decide +kernel
theorem dx_Takings_reckon_5 : decode prog_10_method_2_code 5 = .ok (.putfield 50, 3) := by decide +kernel
theorem dx_Takings_reckon_50 : decode prog_10_method_2_code 50 = .ok (.iload 4, 2) := by decide +kernel
theorem dx_Takings_reckon_52 : decode prog_10_method_2_code 52 = .ok (.aload_n 2, 1) := by decide +kernel
theorem dx_Takings_reckon_53 : decode prog_10_method_2_code 53 = .ok (.iload 4, 2) := by decide +kernel
theorem dx_Takings_reckon_55 : decode prog_10_method_2_code 55 = .ok (.aaload, 1) := by decide +kernel
theorem dx_Takings_reckon_56 : decode prog_10_method_2_code 56 = .ok (.invokevirtual 57, 3) := by decide +kernel
theorem dx_Takings_reckon_59 : decode prog_10_method_2_code 59 = .ok (.aload_n 0, 1) := by decide +kernel
theorem dx_Takings_reckon_60 : decode prog_10_method_2_code 60 = .ok (.aload_n 1, 1) := by decide +kernel
theorem dx_Takings_reckon_61 : decode prog_10_method_2_code 61 = .ok (.iload 4, 2) := by decide +kernel
theorem dx_Takings_reckon_63 : decode prog_10_method_2_code 63 = .ok (.aload_n 2, 1) := by decide +kernel
theorem dx_Takings_reckon_64 : decode prog_10_method_2_code 64 = .ok (.iload 4, 2) := by decide +kernel
theorem dx_Takings_reckon_66 : decode prog_10_method_2_code 66 = .ok (.aaload, 1) := by decide +kernel
theorem dx_Takings_reckon_67 : decode prog_10_method_2_code 67 = .ok (.aload_n 3, 1) := by decide +kernel
theorem dx_Takings_reckon_68 : decode prog_10_method_2_code 68 = .ok (.invokevirtual 61, 3) := by decide +kernel
theorem dx_Takings_reckon_71 : decode prog_10_method_2_code 71 = .ok (.iadd, 1) := by decide +kernel
theorem dx_Takings_reckon_72 : decode prog_10_method_2_code 72 = .ok (.istore 5, 2) := by decide +kernel
theorem dx_Takings_reckon_74 : decode prog_10_method_2_code 74 = .ok (.aload_n 0, 1) := by decide +kernel
theorem dx_Takings_reckon_75 : decode prog_10_method_2_code 75 = .ok (.getfield 23, 3) := by decide +kernel
theorem dx_Takings_reckon_78 : decode prog_10_method_2_code 78 = .ok (.iload 4, 2) := by decide +kernel
theorem dx_Takings_reckon_8 : decode prog_10_method_2_code 8 = .ok (.aload_n 0, 1) := by decide +kernel
theorem dx_Takings_reckon_80 : decode prog_10_method_2_code 80 = .ok (.aload_n 0, 1) := by decide +kernel
theorem dx_Takings_reckon_81 : decode prog_10_method_2_code 81 = .ok (.getfield 27, 3) := by decide +kernel
theorem dx_Takings_reckon_84 : decode prog_10_method_2_code 84 = .ok (.iload 4, 2) := by decide +kernel
theorem dx_Takings_reckon_86 : decode prog_10_method_2_code 86 = .ok (.baload, 1) := by decide +kernel
theorem dx_Takings_reckon_87 : decode prog_10_method_2_code 87 = .ok (.ifCond .eq 7, 3) := by decide +kernel
theorem dx_Takings_reckon_9 : decode prog_10_method_2_code 9 = .ok (.iconst 1, 1) := by decide +kernel
theorem dx_Takings_reckon_90 : decode prog_10_method_2_code 90 = .ok (.iconst 0, 1) := by decide +kernel
theorem dx_Takings_reckon_91 : decode prog_10_method_2_code 91 = .ok (.goto 5, 3) := by decide +kernel
theorem dx_Takings_reckon_94 : decode prog_10_method_2_code 94 = .ok (.iload 5, 2) := by decide +kernel
theorem dx_Takings_reckon_96 : decode prog_10_method_2_code 96 = .ok (.iastore, 1) := by decide +kernel
theorem dx_Takings_reckon_97 : decode prog_10_method_2_code 97 = .ok (.aload_n 0, 1) := by decide +kernel
theorem dx_Takings_reckon_98 : decode prog_10_method_2_code 98 = .ok (.getfield 51, 3) := by decide +kernel
theorem dx_Takings_takeGreatest_0 : decode prog_10_method_8_code 0 = .ok (.aload_n 0, 1) := by decide +kernel
theorem dx_Takings_takeGreatest_1 : decode prog_10_method_8_code 1 = .ok (.getfield 31, 3) := by decide +kernel
theorem dx_Takings_takeGreatest_10 : decode prog_10_method_8_code 10 = .ok (.iconst (-1), 1) := by decide +kernel
theorem dx_Takings_takeGreatest_101 : decode prog_10_method_8_code 101 = .ok (.aload_n 0, 1) := by decide +kernel
theorem dx_Takings_takeGreatest_102 : decode prog_10_method_8_code 102 = .ok (.getfield 12, 3) := by decide +kernel
theorem dx_Takings_takeGreatest_105 : decode prog_10_method_8_code 105 = .ok (.getfield 101, 3) := by decide +kernel
theorem dx_Takings_takeGreatest_108 : decode prog_10_method_8_code 108 = .ok (.iload_n 1, 1) := by decide +kernel
theorem dx_Takings_takeGreatest_109 : decode prog_10_method_8_code 109 = .ok (.aload_n 0, 1) := by decide +kernel
theorem dx_Takings_takeGreatest_11 : decode prog_10_method_8_code 11 = .ok (.goto 4, 3) := by decide +kernel
theorem dx_Takings_takeGreatest_110 : decode prog_10_method_8_code 110 = .ok (.getfield 51, 3) := by decide +kernel
theorem dx_Takings_takeGreatest_113 : decode prog_10_method_8_code 113 = .ok (.i2l, 1) := by decide +kernel
theorem dx_Takings_takeGreatest_114 : decode prog_10_method_8_code 114 = .ok (.lastore, 1) := by decide +kernel
theorem dx_Takings_takeGreatest_115 : decode prog_10_method_8_code 115 = .ok (.goto 21, 3) := by decide +kernel
theorem dx_Takings_takeGreatest_118 : decode prog_10_method_8_code 118 = .ok (.aload_n 0, 1) := by decide +kernel
theorem dx_Takings_takeGreatest_119 : decode prog_10_method_8_code 119 = .ok (.getfield 12, 3) := by decide +kernel
theorem dx_Takings_takeGreatest_122 : decode prog_10_method_8_code 122 = .ok (.getfield 101, 3) := by decide +kernel
theorem dx_Takings_takeGreatest_125 : decode prog_10_method_8_code 125 = .ok (.iload_n 3, 1) := by decide +kernel
theorem dx_Takings_takeGreatest_126 : decode prog_10_method_8_code 126 = .ok (.aload_n 0, 1) := by decide +kernel
theorem dx_Takings_takeGreatest_127 : decode prog_10_method_8_code 127 = .ok (.getfield 51, 3) := by decide +kernel
theorem dx_Takings_takeGreatest_130 : decode prog_10_method_8_code 130 = .ok (.i2l, 1) := by decide +kernel
theorem dx_Takings_takeGreatest_131 : decode prog_10_method_8_code 131 = .ok (.iload 4, 2) := by decide +kernel
theorem dx_Takings_takeGreatest_133 : decode prog_10_method_8_code 133 = .ok (.i2l, 1) := by decide +kernel
theorem dx_Takings_takeGreatest_134 : decode prog_10_method_8_code 134 = .ok (.lmul, 1) := by decide +kernel
theorem dx_Takings_takeGreatest_135 : decode prog_10_method_8_code 135 = .ok (.lastore, 1) := by decide +kernel
theorem dx_Takings_takeGreatest_136 : decode prog_10_method_8_code 136 = .ok (.return_, 1) := by decide +kernel
theorem dx_Takings_takeGreatest_14 : decode prog_10_method_8_code 14 = .ok (.iconst 4, 1) := by decide +kernel
theorem dx_Takings_takeGreatest_15 : decode prog_10_method_8_code 15 = .ok (.istore_n 3, 1) := by decide +kernel
theorem dx_Takings_takeGreatest_16 : decode prog_10_method_8_code 16 = .ok (.aload_n 0, 1) := by decide +kernel
theorem dx_Takings_takeGreatest_17 : decode prog_10_method_8_code 17 = .ok (.getfield 31, 3) := by decide +kernel
theorem dx_Takings_takeGreatest_20 : decode prog_10_method_8_code 20 = .ok (.iload_n 1, 1) := by decide +kernel
theorem dx_Takings_takeGreatest_21 : decode prog_10_method_8_code 21 = .ok (.iaload, 1) := by decide +kernel
theorem dx_Takings_takeGreatest_22 : decode prog_10_method_8_code 22 = .ok (.istore 4, 2) := by decide +kernel
theorem dx_Takings_takeGreatest_24 : decode prog_10_method_8_code 24 = .ok (.iconst 0, 1) := by decide +kernel
theorem dx_Takings_takeGreatest_25 : decode prog_10_method_8_code 25 = .ok (.istore 5, 2) := by decide +kernel
theorem dx_Takings_takeGreatest_27 : decode prog_10_method_8_code 27 = .ok (.iload 5, 2) := by decide +kernel
theorem dx_Takings_takeGreatest_29 : decode prog_10_method_8_code 29 = .ok (.aload_n 0, 1) := by decide +kernel
theorem dx_Takings_takeGreatest_30 : decode prog_10_method_8_code 30 = .ok (.getfield 50, 3) := by decide +kernel
theorem dx_Takings_takeGreatest_33 : decode prog_10_method_8_code 33 = .ok (.if_icmp .ge 56, 3) := by decide +kernel
theorem dx_Takings_takeGreatest_36 : decode prog_10_method_8_code 36 = .ok (.aload_n 0, 1) := by decide +kernel
theorem dx_Takings_takeGreatest_37 : decode prog_10_method_8_code 37 = .ok (.getfield 20, 3) := by decide +kernel
theorem dx_Takings_takeGreatest_4 : decode prog_10_method_8_code 4 = .ok (.iload_n 1, 1) := by decide +kernel
theorem dx_Takings_takeGreatest_40 : decode prog_10_method_8_code 40 = .ok (.iload_n 1, 1) := by decide +kernel
theorem dx_Takings_takeGreatest_41 : decode prog_10_method_8_code 41 = .ok (.aaload, 1) := by decide +kernel
theorem dx_Takings_takeGreatest_42 : decode prog_10_method_8_code 42 = .ok (.iload 5, 2) := by decide +kernel
theorem dx_Takings_takeGreatest_44 : decode prog_10_method_8_code 44 = .ok (.iaload, 1) := by decide +kernel
theorem dx_Takings_takeGreatest_45 : decode prog_10_method_8_code 45 = .ok (.ifCond .le 7, 3) := by decide +kernel
theorem dx_Takings_takeGreatest_48 : decode prog_10_method_8_code 48 = .ok (.iconst 1, 1) := by decide +kernel
theorem dx_Takings_takeGreatest_49 : decode prog_10_method_8_code 49 = .ok (.goto 4, 3) := by decide +kernel
theorem dx_Takings_takeGreatest_5 : decode prog_10_method_8_code 5 = .ok (.iaload, 1) := by decide +kernel
theorem dx_Takings_takeGreatest_52 : decode prog_10_method_8_code 52 = .ok (.iconst 0, 1) := by decide +kernel
theorem dx_Takings_takeGreatest_53 : decode prog_10_method_8_code 53 = .ok (.istore 6, 2) := by decide +kernel
theorem dx_Takings_takeGreatest_55 : decode prog_10_method_8_code 55 = .ok (.iload 6, 2) := by decide +kernel
theorem dx_Takings_takeGreatest_57 : decode prog_10_method_8_code 57 = .ok (.ifCond .eq 26, 3) := by decide +kernel
theorem dx_Takings_takeGreatest_6 : decode prog_10_method_8_code 6 = .ok (.iconst (-1), 1) := by decide +kernel
theorem dx_Takings_takeGreatest_60 : decode prog_10_method_8_code 60 = .ok (.iload_n 3, 1) := by decide +kernel
theorem dx_Takings_takeGreatest_61 : decode prog_10_method_8_code 61 = .ok (.iconst (-1), 1) := by decide +kernel
theorem dx_Takings_takeGreatest_62 : decode prog_10_method_8_code 62 = .ok (.if_icmp .eq 15, 3) := by decide +kernel
theorem dx_Takings_takeGreatest_65 : decode prog_10_method_8_code 65 = .ok (.aload_n 2, 1) := by decide +kernel
theorem dx_Takings_takeGreatest_66 : decode prog_10_method_8_code 66 = .ok (.iload 5, 2) := by decide +kernel
theorem dx_Takings_takeGreatest_68 : decode prog_10_method_8_code 68 = .ok (.iload_n 3, 1) := by decide +kernel
theorem dx_Takings_takeGreatest_69 : decode prog_10_method_8_code 69 = .ok (.iload 4, 2) := by decide +kernel
theorem dx_Takings_takeGreatest_7 : decode prog_10_method_8_code 7 = .ok (.if_icmp .ne 7, 3) := by decide +kernel
theorem dx_Takings_takeGreatest_71 : decode prog_10_method_8_code 71 = .ok (.invokevirtual 111, 3) := by decide +kernel
theorem dx_Takings_takeGreatest_74 : decode prog_10_method_8_code 74 = .ok (.ifCond .le 9, 3) := by decide +kernel
theorem dx_Takings_takeGreatest_77 : decode prog_10_method_8_code 77 = .ok (.iload 5, 2) := by decide +kernel
theorem dx_Takings_takeGreatest_79 : decode prog_10_method_8_code 79 = .ok (.istore_n 3, 1) := by decide +kernel
theorem dx_Takings_takeGreatest_80 : decode prog_10_method_8_code 80 = .ok (.iconst 1, 1) := by decide +kernel
theorem dx_Takings_takeGreatest_81 : decode prog_10_method_8_code 81 = .ok (.istore 4, 2) := by decide +kernel
theorem dx_Takings_takeGreatest_83 : decode prog_10_method_8_code 83 = .ok (.iinc 5 1, 3) := by decide +kernel
theorem dx_Takings_takeGreatest_86 : decode prog_10_method_8_code 86 = .ok (.goto (-59), 3) := by decide +kernel
theorem dx_Takings_takeGreatest_89 : decode prog_10_method_8_code 89 = .ok (.aload_n 0, 1) := by decide +kernel
theorem dx_Takings_takeGreatest_90 : decode prog_10_method_8_code 90 = .ok (.getfield 12, 3) := by decide +kernel
theorem dx_Takings_takeGreatest_93 : decode prog_10_method_8_code 93 = .ok (.invokevirtual 98, 3) := by decide +kernel
theorem dx_Takings_takeGreatest_96 : decode prog_10_method_8_code 96 = .ok (.iload_n 3, 1) := by decide +kernel
theorem dx_Takings_takeGreatest_97 : decode prog_10_method_8_code 97 = .ok (.iconst (-1), 1) := by decide +kernel
theorem dx_Takings_takeGreatest_98 : decode prog_10_method_8_code 98 = .ok (.if_icmp .ne 20, 3) := by decide +kernel
theorem dx_Takings_takeMean_0 : decode prog_10_method_7_code 0 = .ok (.aload_n 0, 1) := by decide +kernel
theorem dx_Takings_takeMean_1 : decode prog_10_method_7_code 1 = .ok (.getfield 12, 3) := by decide +kernel
theorem dx_Takings_takeMean_100 : decode prog_10_method_7_code 100 = .ok (.lastore, 1) := by decide +kernel
theorem dx_Takings_takeMean_101 : decode prog_10_method_7_code 101 = .ok (.return_, 1) := by decide +kernel
theorem dx_Takings_takeMean_11 : decode prog_10_method_7_code 11 = .ok (.iload_n 1, 1) := by decide +kernel
theorem dx_Takings_takeMean_12 : decode prog_10_method_7_code 12 = .ok (.iaload, 1) := by decide +kernel
theorem dx_Takings_takeMean_13 : decode prog_10_method_7_code 13 = .ok (.ifCond .gt 18, 3) := by decide +kernel
theorem dx_Takings_takeMean_16 : decode prog_10_method_7_code 16 = .ok (.aload_n 0, 1) := by decide +kernel
theorem dx_Takings_takeMean_17 : decode prog_10_method_7_code 17 = .ok (.getfield 12, 3) := by decide +kernel
theorem dx_Takings_takeMean_20 : decode prog_10_method_7_code 20 = .ok (.getfield 101, 3) := by decide +kernel
theorem dx_Takings_takeMean_23 : decode prog_10_method_7_code 23 = .ok (.iload_n 1, 1) := by decide +kernel
theorem dx_Takings_takeMean_24 : decode prog_10_method_7_code 24 = .ok (.aload_n 0, 1) := by decide +kernel
theorem dx_Takings_takeMean_25 : decode prog_10_method_7_code 25 = .ok (.getfield 51, 3) := by decide +kernel
theorem dx_Takings_takeMean_28 : decode prog_10_method_7_code 28 = .ok (.i2l, 1) := by decide +kernel
theorem dx_Takings_takeMean_29 : decode prog_10_method_7_code 29 = .ok (.lastore, 1) := by decide +kernel
theorem dx_Takings_takeMean_30 : decode prog_10_method_7_code 30 = .ok (.return_, 1) := by decide +kernel
theorem dx_Takings_takeMean_31 : decode prog_10_method_7_code 31 = .ok (.aload_n 0, 1) := by decide +kernel
theorem dx_Takings_takeMean_32 : decode prog_10_method_7_code 32 = .ok (.getfield 51, 3) := by decide +kernel
theorem dx_Takings_takeMean_35 : decode prog_10_method_7_code 35 = .ok (.aload_n 0, 1) := by decide +kernel
theorem dx_Takings_takeMean_36 : decode prog_10_method_7_code 36 = .ok (.getfield 23, 3) := by decide +kernel
theorem dx_Takings_takeMean_39 : decode prog_10_method_7_code 39 = .ok (.iload_n 1, 1) := by decide +kernel
theorem dx_Takings_takeMean_4 : decode prog_10_method_7_code 4 = .ok (.invokevirtual 98, 3) := by decide +kernel
theorem dx_Takings_takeMean_40 : decode prog_10_method_7_code 40 = .ok (.iaload, 1) := by decide +kernel
theorem dx_Takings_takeMean_41 : decode prog_10_method_7_code 41 = .ok (.idiv, 1) := by decide +kernel
theorem dx_Takings_takeMean_42 : decode prog_10_method_7_code 42 = .ok (.istore_n 2, 1) := by decide +kernel
theorem dx_Takings_takeMean_43 : decode prog_10_method_7_code 43 = .ok (.iconst 0, 1) := by decide +kernel
theorem dx_Takings_takeMean_44 : decode prog_10_method_7_code 44 = .ok (.istore_n 3, 1) := by decide +kernel
theorem dx_Takings_takeMean_45 : decode prog_10_method_7_code 45 = .ok (.iload_n 3, 1) := by decide +kernel
theorem dx_Takings_takeMean_46 : decode prog_10_method_7_code 46 = .ok (.aload_n 0, 1) := by decide +kernel
theorem dx_Takings_takeMean_47 : decode prog_10_method_7_code 47 = .ok (.getfield 50, 3) := by decide +kernel
theorem dx_Takings_takeMean_50 : decode prog_10_method_7_code 50 = .ok (.if_icmp .ge 30, 3) := by decide +kernel
theorem dx_Takings_takeMean_53 : decode prog_10_method_7_code 53 = .ok (.aload_n 0, 1) := by decide +kernel
theorem dx_Takings_takeMean_54 : decode prog_10_method_7_code 54 = .ok (.getfield 12, 3) := by decide +kernel
theorem dx_Takings_takeMean_57 : decode prog_10_method_7_code 57 = .ok (.getfield 101, 3) := by decide +kernel
theorem dx_Takings_takeMean_60 : decode prog_10_method_7_code 60 = .ok (.iload_n 3, 1) := by decide +kernel
theorem dx_Takings_takeMean_61 : decode prog_10_method_7_code 61 = .ok (.iload_n 2, 1) := by decide +kernel
theorem dx_Takings_takeMean_62 : decode prog_10_method_7_code 62 = .ok (.i2l, 1) := by decide +kernel
theorem dx_Takings_takeMean_63 : decode prog_10_method_7_code 63 = .ok (.aload_n 0, 1) := by decide +kernel
theorem dx_Takings_takeMean_64 : decode prog_10_method_7_code 64 = .ok (.getfield 20, 3) := by decide +kernel
theorem dx_Takings_takeMean_67 : decode prog_10_method_7_code 67 = .ok (.iload_n 1, 1) := by decide +kernel
theorem dx_Takings_takeMean_68 : decode prog_10_method_7_code 68 = .ok (.aaload, 1) := by decide +kernel
theorem dx_Takings_takeMean_69 : decode prog_10_method_7_code 69 = .ok (.iload_n 3, 1) := by decide +kernel
theorem dx_Takings_takeMean_7 : decode prog_10_method_7_code 7 = .ok (.aload_n 0, 1) := by decide +kernel
theorem dx_Takings_takeMean_70 : decode prog_10_method_7_code 70 = .ok (.iaload, 1) := by decide +kernel
theorem dx_Takings_takeMean_71 : decode prog_10_method_7_code 71 = .ok (.i2l, 1) := by decide +kernel
theorem dx_Takings_takeMean_72 : decode prog_10_method_7_code 72 = .ok (.lmul, 1) := by decide +kernel
theorem dx_Takings_takeMean_73 : decode prog_10_method_7_code 73 = .ok (.lastore, 1) := by decide +kernel
theorem dx_Takings_takeMean_74 : decode prog_10_method_7_code 74 = .ok (.iinc 3 1, 3) := by decide +kernel
theorem dx_Takings_takeMean_77 : decode prog_10_method_7_code 77 = .ok (.goto (-32), 3) := by decide +kernel
theorem dx_Takings_takeMean_8 : decode prog_10_method_7_code 8 = .ok (.getfield 23, 3) := by decide +kernel
theorem dx_Takings_takeMean_80 : decode prog_10_method_7_code 80 = .ok (.aload_n 0, 1) := by decide +kernel
theorem dx_Takings_takeMean_81 : decode prog_10_method_7_code 81 = .ok (.getfield 12, 3) := by decide +kernel
theorem dx_Takings_takeMean_84 : decode prog_10_method_7_code 84 = .ok (.getfield 101, 3) := by decide +kernel
theorem dx_Takings_takeMean_87 : decode prog_10_method_7_code 87 = .ok (.iconst 4, 1) := by decide +kernel
theorem dx_Takings_takeMean_88 : decode prog_10_method_7_code 88 = .ok (.iload_n 2, 1) := by decide +kernel
theorem dx_Takings_takeMean_89 : decode prog_10_method_7_code 89 = .ok (.i2l, 1) := by decide +kernel
theorem dx_Takings_takeMean_90 : decode prog_10_method_7_code 90 = .ok (.aload_n 0, 1) := by decide +kernel
theorem dx_Takings_takeMean_91 : decode prog_10_method_7_code 91 = .ok (.getfield 20, 3) := by decide +kernel
theorem dx_Takings_takeMean_94 : decode prog_10_method_7_code 94 = .ok (.iload_n 1, 1) := by decide +kernel
theorem dx_Takings_takeMean_95 : decode prog_10_method_7_code 95 = .ok (.aaload, 1) := by decide +kernel
theorem dx_Takings_takeMean_96 : decode prog_10_method_7_code 96 = .ok (.iconst 4, 1) := by decide +kernel
theorem dx_Takings_takeMean_97 : decode prog_10_method_7_code 97 = .ok (.iaload, 1) := by decide +kernel
theorem dx_Takings_takeMean_98 : decode prog_10_method_7_code 98 = .ok (.i2l, 1) := by decide +kernel
theorem dx_Takings_takeMean_99 : decode prog_10_method_7_code 99 = .ok (.lmul, 1) := by decide +kernel
