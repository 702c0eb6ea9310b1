theorem dJ9_max_7cf53_0 : decode cJ9_max_7cf53 0 = .ok (.iload_n 0, 1) := by decide +kernel
theorem dJ9_max_7cf53_1 : decode cJ9_max_7cf53 1 = .ok (.iload_n 1, 1) := by decide +kernel
theorem dJ9_max_7cf53_2 : decode cJ9_max_7cf53 2 = .ok (.if_icmp .lt 7, 3) := by decide +kernel
theorem dJ9_max_7cf53_5 : decode cJ9_max_7cf53 5 = .ok (.iload_n 0, 1) := by decide +kernel
theorem dJ9_max_7cf53_6 : decode cJ9_max_7cf53 6 = .ok (.goto 4, 3) := by decide +kernel
theorem dJ9_max_7cf53_9 : decode cJ9_max_7cf53 9 = .ok (.iload_n 1, 1) := by decide +kernel
theorem dJ9_max_7cf53_10 : decode cJ9_max_7cf53 10 = .ok (.ireturn, 1) := by decide +kernel
theorem dJ9_min_7cf53_0 : decode cJ9_min_7cf53 0 = .ok (.iload_n 0, 1) := by decide +kernel
theorem dJ9_min_7cf53_1 : decode cJ9_min_7cf53 1 = .ok (.iload_n 1, 1) := by decide +kernel
theorem dJ9_min_7cf53_2 : decode cJ9_min_7cf53 2 = .ok (.if_icmp .gt 7, 3) := by decide +kernel
theorem dJ9_min_7cf53_5 : decode cJ9_min_7cf53 5 = .ok (.iload_n 0, 1) := by decide +kernel
theorem dJ9_min_7cf53_6 : decode cJ9_min_7cf53 6 = .ok (.goto 4, 3) := by decide +kernel
theorem dJ9_min_7cf53_9 : decode cJ9_min_7cf53 9 = .ok (.iload_n 1, 1) := by decide +kernel
theorem dJ9_min_7cf53_10 : decode cJ9_min_7cf53 10 = .ok (.ireturn, 1) := by decide +kernel
theorem dL_cell_0 : decode cL_cell 0 = .ok (.iload_n 1, 1) := by decide +kernel
theorem dL_cell_1 : decode cL_cell 1 = .ok (.aload_n 0, 1) := by decide +kernel
theorem dL_cell_2 : decode cL_cell 2 = .ok (.arraylength, 1) := by decide +kernel
theorem dL_cell_3 : decode cL_cell 3 = .ok (.if_icmp .ge 9, 3) := by decide +kernel
theorem dL_cell_6 : decode cL_cell 6 = .ok (.aload_n 0, 1) := by decide +kernel
theorem dL_cell_7 : decode cL_cell 7 = .ok (.iload_n 1, 1) := by decide +kernel
theorem dL_cell_8 : decode cL_cell 8 = .ok (.iaload, 1) := by decide +kernel
theorem dL_cell_9 : decode cL_cell 9 = .ok (.goto 12, 3) := by decide +kernel
theorem dL_cell_12 : decode cL_cell 12 = .ok (.ldc 7, 2) := by decide +kernel
theorem dL_cell_14 : decode cL_cell 14 = .ok (.iload_n 1, 1) := by decide +kernel
theorem dL_cell_15 : decode cL_cell 15 = .ok (.iconst 1, 1) := by decide +kernel
theorem dL_cell_16 : decode cL_cell 16 = .ok (.iadd, 1) := by decide +kernel
theorem dL_cell_17 : decode cL_cell 17 = .ok (.imul, 1) := by decide +kernel
theorem dL_cell_18 : decode cL_cell 18 = .ok (.ldc 8, 2) := by decide +kernel
theorem dL_cell_20 : decode cL_cell 20 = .ok (.iadd, 1) := by decide +kernel
theorem dL_cell_21 : decode cL_cell 21 = .ok (.ireturn, 1) := by decide +kernel
theorem dL_low_0 : decode cL_low 0 = .ok (.iload_n 0, 1) := by decide +kernel
theorem dL_low_1 : decode cL_low 1 = .ok (.ldc 9, 2) := by decide +kernel
theorem dL_low_3 : decode cL_low 3 = .ok (.iand, 1) := by decide +kernel
theorem dL_low_4 : decode cL_low 4 = .ok (.iload_n 1, 1) := by decide +kernel
theorem dL_low_5 : decode cL_low 5 = .ok (.irem, 1) := by decide +kernel
theorem dL_low_6 : decode cL_low 6 = .ok (.ireturn, 1) := by decide +kernel
theorem dL_hour_0 : decode cL_hour 0 = .ok (.iload_n 0, 1) := by decide +kernel
theorem dL_hour_1 : decode cL_hour 1 = .ok (.ifCond .ne 7, 3) := by decide +kernel
theorem dL_hour_4 : decode cL_hour 4 = .ok (.iconst 0, 1) := by decide +kernel
theorem dL_hour_5 : decode cL_hour 5 = .ok (.goto 14, 3) := by decide +kernel
theorem dL_hour_8 : decode cL_hour 8 = .ok (.iload_n 0, 1) := by decide +kernel
theorem dL_hour_9 : decode cL_hour 9 = .ok (.iconst 1, 1) := by decide +kernel
theorem dL_hour_10 : decode cL_hour 10 = .ok (.if_icmp .ne 7, 3) := by decide +kernel
theorem dL_hour_13 : decode cL_hour 13 = .ok (.iconst 4, 1) := by decide +kernel
theorem dL_hour_14 : decode cL_hour 14 = .ok (.goto 5, 3) := by decide +kernel
theorem dL_hour_17 : decode cL_hour 17 = .ok (.bipush 7, 2) := by decide +kernel
theorem dL_hour_19 : decode cL_hour 19 = .ok (.ireturn, 1) := by decide +kernel
theorem dL_shadow_0 : decode cL_shadow 0 = .ok (.iload_n 3, 1) := by decide +kernel
theorem dL_shadow_1 : decode cL_shadow 1 = .ok (.ifCond .ne 8, 3) := by decide +kernel
theorem dL_shadow_4 : decode cL_shadow 4 = .ok (.bipush 6, 2) := by decide +kernel
theorem dL_shadow_6 : decode cL_shadow 6 = .ok (.goto 13, 3) := by decide +kernel
theorem dL_shadow_9 : decode cL_shadow 9 = .ok (.iload_n 3, 1) := by decide +kernel
theorem dL_shadow_10 : decode cL_shadow 10 = .ok (.iconst 1, 1) := by decide +kernel
theorem dL_shadow_11 : decode cL_shadow 11 = .ok (.if_icmp .ne 7, 3) := by decide +kernel
theorem dL_shadow_14 : decode cL_shadow 14 = .ok (.iconst 1, 1) := by decide +kernel
theorem dL_shadow_15 : decode cL_shadow 15 = .ok (.goto 4, 3) := by decide +kernel
theorem dL_shadow_18 : decode cL_shadow 18 = .ok (.iconst 3, 1) := by decide +kernel
theorem dL_shadow_19 : decode cL_shadow 19 = .ok (.istore 5, 2) := by decide +kernel
theorem dL_shadow_21 : decode cL_shadow 21 = .ok (.iload_n 3, 1) := by decide +kernel
theorem dL_shadow_22 : decode cL_shadow 22 = .ok (.iconst 2, 1) := by decide +kernel
theorem dL_shadow_23 : decode cL_shadow 23 = .ok (.if_icmp .ge 19, 3) := by decide +kernel
theorem dL_shadow_26 : decode cL_shadow 26 = .ok (.aload 4, 2) := by decide +kernel
theorem dL_shadow_28 : decode cL_shadow 28 = .ok (.iconst 4, 1) := by decide +kernel
theorem dL_shadow_29 : decode cL_shadow 29 = .ok (.iload_n 2, 1) := by decide +kernel
theorem dL_shadow_30 : decode cL_shadow 30 = .ok (.imul, 1) := by decide +kernel
theorem dL_shadow_31 : decode cL_shadow 31 = .ok (.iaload, 1) := by decide +kernel
theorem dL_shadow_32 : decode cL_shadow 32 = .ok (.aload 4, 2) := by decide +kernel
theorem dL_shadow_34 : decode cL_shadow 34 = .ok (.iconst 4, 1) := by decide +kernel
theorem dL_shadow_35 : decode cL_shadow 35 = .ok (.iload_n 0, 1) := by decide +kernel
theorem dL_shadow_36 : decode cL_shadow 36 = .ok (.imul, 1) := by decide +kernel
theorem dL_shadow_37 : decode cL_shadow 37 = .ok (.iaload, 1) := by decide +kernel
theorem dL_shadow_38 : decode cL_shadow 38 = .ok (.isub, 1) := by decide +kernel
theorem dL_shadow_39 : decode cL_shadow 39 = .ok (.goto 16, 3) := by decide +kernel
theorem dL_shadow_42 : decode cL_shadow 42 = .ok (.aload 4, 2) := by decide +kernel
theorem dL_shadow_44 : decode cL_shadow 44 = .ok (.iconst 4, 1) := by decide +kernel
theorem dL_shadow_45 : decode cL_shadow 45 = .ok (.iload_n 0, 1) := by decide +kernel
theorem dL_shadow_46 : decode cL_shadow 46 = .ok (.imul, 1) := by decide +kernel
theorem dL_shadow_47 : decode cL_shadow 47 = .ok (.iaload, 1) := by decide +kernel
theorem dL_shadow_48 : decode cL_shadow 48 = .ok (.aload 4, 2) := by decide +kernel
theorem dL_shadow_50 : decode cL_shadow 50 = .ok (.iconst 4, 1) := by decide +kernel
theorem dL_shadow_51 : decode cL_shadow 51 = .ok (.iload_n 2, 1) := by decide +kernel
theorem dL_shadow_52 : decode cL_shadow 52 = .ok (.imul, 1) := by decide +kernel
theorem dL_shadow_53 : decode cL_shadow 53 = .ok (.iaload, 1) := by decide +kernel
theorem dL_shadow_54 : decode cL_shadow 54 = .ok (.isub, 1) := by decide +kernel
theorem dL_shadow_55 : decode cL_shadow 55 = .ok (.istore 6, 2) := by decide +kernel
theorem dL_shadow_57 : decode cL_shadow 57 = .ok (.iload 6, 2) := by decide +kernel
theorem dL_shadow_59 : decode cL_shadow 59 = .ok (.iconst 1, 1) := by decide +kernel
theorem dL_shadow_60 : decode cL_shadow 60 = .ok (.if_icmp .ge 5, 3) := by decide +kernel
theorem dL_shadow_63 : decode cL_shadow 63 = .ok (.iconst 0, 1) := by decide +kernel
theorem dL_shadow_64 : decode cL_shadow 64 = .ok (.ireturn, 1) := by decide +kernel
theorem dL_shadow_65 : decode cL_shadow 65 = .ok (.iconst 0, 1) := by decide +kernel
theorem dL_shadow_66 : decode cL_shadow 66 = .ok (.istore 7, 2) := by decide +kernel
theorem dL_shadow_68 : decode cL_shadow 68 = .ok (.iload 7, 2) := by decide +kernel
theorem dL_shadow_70 : decode cL_shadow 70 = .ok (.iload 5, 2) := by decide +kernel
theorem dL_shadow_72 : decode cL_shadow 72 = .ok (.imul, 1) := by decide +kernel
theorem dL_shadow_73 : decode cL_shadow 73 = .ok (.iconst 2, 1) := by decide +kernel
theorem dL_shadow_74 : decode cL_shadow 74 = .ok (.iload 6, 2) := by decide +kernel
theorem dL_shadow_76 : decode cL_shadow 76 = .ok (.imul, 1) := by decide +kernel
theorem dL_shadow_77 : decode cL_shadow 77 = .ok (.if_icmp .ge 9, 3) := by decide +kernel
theorem dL_shadow_80 : decode cL_shadow 80 = .ok (.iinc 7 1, 3) := by decide +kernel
theorem dL_shadow_83 : decode cL_shadow 83 = .ok (.goto (-15), 3) := by decide +kernel
theorem dL_shadow_86 : decode cL_shadow 86 = .ok (.aload 4, 2) := by decide +kernel
theorem dL_shadow_88 : decode cL_shadow 88 = .ok (.iconst 4, 1) := by decide +kernel
theorem dL_shadow_89 : decode cL_shadow 89 = .ok (.iload_n 0, 1) := by decide +kernel
theorem dL_shadow_90 : decode cL_shadow 90 = .ok (.imul, 1) := by decide +kernel
theorem dL_shadow_91 : decode cL_shadow 91 = .ok (.iconst 1, 1) := by decide +kernel
theorem dL_shadow_92 : decode cL_shadow 92 = .ok (.iadd, 1) := by decide +kernel
theorem dL_shadow_93 : decode cL_shadow 93 = .ok (.iaload, 1) := by decide +kernel
theorem dL_shadow_94 : decode cL_shadow 94 = .ok (.iload_n 1, 1) := by decide +kernel
theorem dL_shadow_95 : decode cL_shadow 95 = .ok (.imul, 1) := by decide +kernel
theorem dL_shadow_96 : decode cL_shadow 96 = .ok (.iload 7, 2) := by decide +kernel
theorem dL_shadow_98 : decode cL_shadow 98 = .ok (.isub, 1) := by decide +kernel
theorem dL_shadow_99 : decode cL_shadow 99 = .ok (.istore 8, 2) := by decide +kernel
theorem dL_shadow_101 : decode cL_shadow 101 = .ok (.iload 8, 2) := by decide +kernel
theorem dL_shadow_103 : decode cL_shadow 103 = .ok (.ifCond .ge 7, 3) := by decide +kernel
theorem dL_shadow_106 : decode cL_shadow 106 = .ok (.iconst 0, 1) := by decide +kernel
theorem dL_shadow_107 : decode cL_shadow 107 = .ok (.goto 5, 3) := by decide +kernel
theorem dL_shadow_110 : decode cL_shadow 110 = .ok (.iload 8, 2) := by decide +kernel
theorem dL_shadow_112 : decode cL_shadow 112 = .ok (.ireturn, 1) := by decide +kernel
theorem dL_lies_0 : decode cL_lies 0 = .ok (.aload 5, 2) := by decide +kernel
theorem dL_lies_2 : decode cL_lies 2 = .ok (.iload_n 2, 1) := by decide +kernel
theorem dL_lies_3 : decode cL_lies 3 = .ok (.iaload, 1) := by decide +kernel
theorem dL_lies_4 : decode cL_lies 4 = .ok (.aload 5, 2) := by decide +kernel
theorem dL_lies_6 : decode cL_lies 6 = .ok (.iconst 3, 1) := by decide +kernel
theorem dL_lies_7 : decode cL_lies 7 = .ok (.iaload, 1) := by decide +kernel
theorem dL_lies_8 : decode cL_lies 8 = .ok (.if_icmp .lt 5, 3) := by decide +kernel
theorem dL_lies_11 : decode cL_lies 11 = .ok (.iconst 0, 1) := by decide +kernel
theorem dL_lies_12 : decode cL_lies 12 = .ok (.ireturn, 1) := by decide +kernel
theorem dL_lies_13 : decode cL_lies 13 = .ok (.iconst 0, 1) := by decide +kernel
theorem dL_lies_14 : decode cL_lies 14 = .ok (.istore 6, 2) := by decide +kernel
theorem dL_lies_16 : decode cL_lies 16 = .ok (.iconst 1, 1) := by decide +kernel
theorem dL_lies_17 : decode cL_lies 17 = .ok (.istore 7, 2) := by decide +kernel
theorem dL_lies_19 : decode cL_lies 19 = .ok (.iload 7, 2) := by decide +kernel
theorem dL_lies_21 : decode cL_lies 21 = .ok (.iload_n 1, 1) := by decide +kernel
theorem dL_lies_22 : decode cL_lies 22 = .ok (.if_icmp .gt 86, 3) := by decide +kernel
theorem dL_lies_25 : decode cL_lies 25 = .ok (.iconst 1, 1) := by decide +kernel
theorem dL_lies_26 : decode cL_lies 26 = .ok (.istore 8, 2) := by decide +kernel
theorem dL_lies_28 : decode cL_lies 28 = .ok (.iconst 0, 1) := by decide +kernel
theorem dL_lies_29 : decode cL_lies 29 = .ok (.istore 9, 2) := by decide +kernel
theorem dL_lies_31 : decode cL_lies 31 = .ok (.iload 9, 2) := by decide +kernel
theorem dL_lies_33 : decode cL_lies 33 = .ok (.iconst 4, 1) := by decide +kernel
theorem dL_lies_34 : decode cL_lies 34 = .ok (.if_icmp .ge 54, 3) := by decide +kernel
theorem dL_lies_37 : decode cL_lies 37 = .ok (.iload 8, 2) := by decide +kernel
theorem dL_lies_39 : decode cL_lies 39 = .ok (.ifCond .eq 40, 3) := by decide +kernel
theorem dL_lies_42 : decode cL_lies 42 = .ok (.iload_n 0, 1) := by decide +kernel
theorem dL_lies_43 : decode cL_lies 43 = .ok (.iload 9, 2) := by decide +kernel
theorem dL_lies_45 : decode cL_lies 45 = .ok (.if_icmp .eq 30, 3) := by decide +kernel
theorem dL_lies_48 : decode cL_lies 48 = .ok (.iload_n 0, 1) := by decide +kernel
theorem dL_lies_49 : decode cL_lies 49 = .ok (.iload 7, 2) := by decide +kernel
theorem dL_lies_51 : decode cL_lies 51 = .ok (.iload 9, 2) := by decide +kernel
theorem dL_lies_53 : decode cL_lies 53 = .ok (.iload_n 2, 1) := by decide +kernel
theorem dL_lies_54 : decode cL_lies 54 = .ok (.aload_n 3, 1) := by decide +kernel
theorem dL_lies_55 : decode cL_lies 55 = .ok (.invokestatic 10, 3) := by decide +kernel
theorem dL_lies_58 : decode cL_lies 58 = .ok (.aload 4, 2) := by decide +kernel
theorem dL_lies_60 : decode cL_lies 60 = .ok (.bipush 16, 2) := by decide +kernel
theorem dL_lies_62 : decode cL_lies 62 = .ok (.iload_n 2, 1) := by decide +kernel
theorem dL_lies_63 : decode cL_lies 63 = .ok (.imul, 1) := by decide +kernel
theorem dL_lies_64 : decode cL_lies 64 = .ok (.iconst 4, 1) := by decide +kernel
theorem dL_lies_65 : decode cL_lies 65 = .ok (.iload_n 0, 1) := by decide +kernel
theorem dL_lies_66 : decode cL_lies 66 = .ok (.imul, 1) := by decide +kernel
theorem dL_lies_67 : decode cL_lies 67 = .ok (.iadd, 1) := by decide +kernel
theorem dL_lies_68 : decode cL_lies 68 = .ok (.iload 9, 2) := by decide +kernel
theorem dL_lies_70 : decode cL_lies 70 = .ok (.iadd, 1) := by decide +kernel
theorem dL_lies_71 : decode cL_lies 71 = .ok (.iaload, 1) := by decide +kernel
theorem dL_lies_72 : decode cL_lies 72 = .ok (.if_icmp .gt 7, 3) := by decide +kernel
theorem dL_lies_75 : decode cL_lies 75 = .ok (.iconst 1, 1) := by decide +kernel
theorem dL_lies_76 : decode cL_lies 76 = .ok (.goto 4, 3) := by decide +kernel
theorem dL_lies_79 : decode cL_lies 79 = .ok (.iconst 0, 1) := by decide +kernel
theorem dL_lies_80 : decode cL_lies 80 = .ok (.istore 8, 2) := by decide +kernel
theorem dL_lies_82 : decode cL_lies 82 = .ok (.iinc 9 1, 3) := by decide +kernel
theorem dL_lies_85 : decode cL_lies 85 = .ok (.goto (-54), 3) := by decide +kernel
theorem dL_lies_88 : decode cL_lies 88 = .ok (.iload 8, 2) := by decide +kernel
theorem dL_lies_90 : decode cL_lies 90 = .ok (.ifCond .eq 8, 3) := by decide +kernel
theorem dL_lies_93 : decode cL_lies 93 = .ok (.iload 7, 2) := by decide +kernel
theorem dL_lies_95 : decode cL_lies 95 = .ok (.goto 5, 3) := by decide +kernel
theorem dL_lies_98 : decode cL_lies 98 = .ok (.iload 6, 2) := by decide +kernel
theorem dL_lies_100 : decode cL_lies 100 = .ok (.istore 6, 2) := by decide +kernel
theorem dL_lies_102 : decode cL_lies 102 = .ok (.iinc 7 1, 3) := by decide +kernel
theorem dL_lies_105 : decode cL_lies 105 = .ok (.goto (-86), 3) := by decide +kernel
theorem dL_lies_108 : decode cL_lies 108 = .ok (.iload 6, 2) := by decide +kernel
theorem dL_lies_110 : decode cL_lies 110 = .ok (.ireturn, 1) := by decide +kernel
theorem dL_blamed_0 : decode cL_blamed 0 = .ok (.bipush (-6), 2) := by decide +kernel
theorem dL_blamed_2 : decode cL_blamed 2 = .ok (.istore 5, 2) := by decide +kernel
theorem dL_blamed_4 : decode cL_blamed 4 = .ok (.iconst 0, 1) := by decide +kernel
theorem dL_blamed_5 : decode cL_blamed 5 = .ok (.istore 6, 2) := by decide +kernel
theorem dL_blamed_7 : decode cL_blamed 7 = .ok (.iconst 0, 1) := by decide +kernel
theorem dL_blamed_8 : decode cL_blamed 8 = .ok (.istore 7, 2) := by decide +kernel
theorem dL_blamed_10 : decode cL_blamed 10 = .ok (.iload 7, 2) := by decide +kernel
theorem dL_blamed_12 : decode cL_blamed 12 = .ok (.iconst 4, 1) := by decide +kernel
theorem dL_blamed_13 : decode cL_blamed 13 = .ok (.if_icmp .ge 146, 3) := by decide +kernel
theorem dL_blamed_16 : decode cL_blamed 16 = .ok (.iload 7, 2) := by decide +kernel
theorem dL_blamed_18 : decode cL_blamed 18 = .ok (.iload_n 0, 1) := by decide +kernel
theorem dL_blamed_19 : decode cL_blamed 19 = .ok (.if_icmp .ne 7, 3) := by decide +kernel
theorem dL_blamed_22 : decode cL_blamed 22 = .ok (.iconst 0, 1) := by decide +kernel
theorem dL_blamed_23 : decode cL_blamed 23 = .ok (.goto 29, 3) := by decide +kernel
theorem dL_blamed_26 : decode cL_blamed 26 = .ok (.iload 7, 2) := by decide +kernel
theorem dL_blamed_28 : decode cL_blamed 28 = .ok (.iload 7, 2) := by decide +kernel
theorem dL_blamed_30 : decode cL_blamed 30 = .ok (.aload_n 2, 1) := by decide +kernel
theorem dL_blamed_31 : decode cL_blamed 31 = .ok (.iconst 4, 1) := by decide +kernel
theorem dL_blamed_32 : decode cL_blamed 32 = .ok (.iload 7, 2) := by decide +kernel
theorem dL_blamed_34 : decode cL_blamed 34 = .ok (.imul, 1) := by decide +kernel
theorem dL_blamed_35 : decode cL_blamed 35 = .ok (.iconst 2, 1) := by decide +kernel
theorem dL_blamed_36 : decode cL_blamed 36 = .ok (.iadd, 1) := by decide +kernel
theorem dL_blamed_37 : decode cL_blamed 37 = .ok (.iaload, 1) := by decide +kernel
theorem dL_blamed_38 : decode cL_blamed 38 = .ok (.iload_n 1, 1) := by decide +kernel
theorem dL_blamed_39 : decode cL_blamed 39 = .ok (.aload_n 2, 1) := by decide +kernel
theorem dL_blamed_40 : decode cL_blamed 40 = .ok (.aload_n 3, 1) := by decide +kernel
theorem dL_blamed_41 : decode cL_blamed 41 = .ok (.aload 4, 2) := by decide +kernel
theorem dL_blamed_43 : decode cL_blamed 43 = .ok (.invokestatic 16, 3) := by decide +kernel
theorem dL_blamed_46 : decode cL_blamed 46 = .ok (.iload_n 0, 1) := by decide +kernel
theorem dL_blamed_47 : decode cL_blamed 47 = .ok (.iload_n 1, 1) := by decide +kernel
theorem dL_blamed_48 : decode cL_blamed 48 = .ok (.aload_n 2, 1) := by decide +kernel
theorem dL_blamed_49 : decode cL_blamed 49 = .ok (.invokestatic 10, 3) := by decide +kernel
theorem dL_blamed_52 : decode cL_blamed 52 = .ok (.istore 8, 2) := by decide +kernel
theorem dL_blamed_54 : decode cL_blamed 54 = .ok (.aload_n 2, 1) := by decide +kernel
theorem dL_blamed_55 : decode cL_blamed 55 = .ok (.iconst 4, 1) := by decide +kernel
theorem dL_blamed_56 : decode cL_blamed 56 = .ok (.iload 7, 2) := by decide +kernel
theorem dL_blamed_58 : decode cL_blamed 58 = .ok (.imul, 1) := by decide +kernel
theorem dL_blamed_59 : decode cL_blamed 59 = .ok (.iaload, 1) := by decide +kernel
theorem dL_blamed_60 : decode cL_blamed 60 = .ok (.aload_n 2, 1) := by decide +kernel
theorem dL_blamed_61 : decode cL_blamed 61 = .ok (.iconst 4, 1) := by decide +kernel
theorem dL_blamed_62 : decode cL_blamed 62 = .ok (.iload_n 0, 1) := by decide +kernel
theorem dL_blamed_63 : decode cL_blamed 63 = .ok (.imul, 1) := by decide +kernel
theorem dL_blamed_64 : decode cL_blamed 64 = .ok (.iaload, 1) := by decide +kernel
theorem dL_blamed_65 : decode cL_blamed 65 = .ok (.if_icmp .le 18, 3) := by decide +kernel
theorem dL_blamed_68 : decode cL_blamed 68 = .ok (.aload_n 2, 1) := by decide +kernel
theorem dL_blamed_69 : decode cL_blamed 69 = .ok (.iconst 4, 1) := by decide +kernel
theorem dL_blamed_70 : decode cL_blamed 70 = .ok (.iload 7, 2) := by decide +kernel
theorem dL_blamed_72 : decode cL_blamed 72 = .ok (.imul, 1) := by decide +kernel
theorem dL_blamed_73 : decode cL_blamed 73 = .ok (.iaload, 1) := by decide +kernel
theorem dL_blamed_74 : decode cL_blamed 74 = .ok (.aload_n 2, 1) := by decide +kernel
theorem dL_blamed_75 : decode cL_blamed 75 = .ok (.iconst 4, 1) := by decide +kernel
theorem dL_blamed_76 : decode cL_blamed 76 = .ok (.iload_n 0, 1) := by decide +kernel
theorem dL_blamed_77 : decode cL_blamed 77 = .ok (.imul, 1) := by decide +kernel
theorem dL_blamed_78 : decode cL_blamed 78 = .ok (.iaload, 1) := by decide +kernel
theorem dL_blamed_79 : decode cL_blamed 79 = .ok (.isub, 1) := by decide +kernel
theorem dL_blamed_80 : decode cL_blamed 80 = .ok (.goto 15, 3) := by decide +kernel
theorem dL_blamed_83 : decode cL_blamed 83 = .ok (.aload_n 2, 1) := by decide +kernel
theorem dL_blamed_84 : decode cL_blamed 84 = .ok (.iconst 4, 1) := by decide +kernel
theorem dL_blamed_85 : decode cL_blamed 85 = .ok (.iload_n 0, 1) := by decide +kernel
theorem dL_blamed_86 : decode cL_blamed 86 = .ok (.imul, 1) := by decide +kernel
theorem dL_blamed_87 : decode cL_blamed 87 = .ok (.iaload, 1) := by decide +kernel
theorem dL_blamed_88 : decode cL_blamed 88 = .ok (.aload_n 2, 1) := by decide +kernel
theorem dL_blamed_89 : decode cL_blamed 89 = .ok (.iconst 4, 1) := by decide +kernel
theorem dL_blamed_90 : decode cL_blamed 90 = .ok (.iload 7, 2) := by decide +kernel
theorem dL_blamed_92 : decode cL_blamed 92 = .ok (.imul, 1) := by decide +kernel
theorem dL_blamed_93 : decode cL_blamed 93 = .ok (.iaload, 1) := by decide +kernel
theorem dL_blamed_94 : decode cL_blamed 94 = .ok (.isub, 1) := by decide +kernel
theorem dL_blamed_95 : decode cL_blamed 95 = .ok (.istore 9, 2) := by decide +kernel
theorem dL_blamed_97 : decode cL_blamed 97 = .ok (.iload 8, 2) := by decide +kernel
theorem dL_blamed_99 : decode cL_blamed 99 = .ok (.ifCond .ne 7, 3) := by decide +kernel
theorem dL_blamed_102 : decode cL_blamed 102 = .ok (.iconst 0, 1) := by decide +kernel
theorem dL_blamed_103 : decode cL_blamed 103 = .ok (.goto 16, 3) := by decide +kernel
theorem dL_blamed_106 : decode cL_blamed 106 = .ok (.sipush 1000, 3) := by decide +kernel
theorem dL_blamed_109 : decode cL_blamed 109 = .ok (.iload 8, 2) := by decide +kernel
theorem dL_blamed_111 : decode cL_blamed 111 = .ok (.imul, 1) := by decide +kernel
theorem dL_blamed_112 : decode cL_blamed 112 = .ok (.sipush 500, 3) := by decide +kernel
theorem dL_blamed_115 : decode cL_blamed 115 = .ok (.iadd, 1) := by decide +kernel
theorem dL_blamed_116 : decode cL_blamed 116 = .ok (.iload 9, 2) := by decide +kernel
theorem dL_blamed_118 : decode cL_blamed 118 = .ok (.isub, 1) := by decide +kernel
theorem dL_blamed_119 : decode cL_blamed 119 = .ok (.istore 10, 2) := by decide +kernel
theorem dL_blamed_121 : decode cL_blamed 121 = .ok (.iload 10, 2) := by decide +kernel
theorem dL_blamed_123 : decode cL_blamed 123 = .ok (.iload 6, 2) := by decide +kernel
theorem dL_blamed_125 : decode cL_blamed 125 = .ok (.if_icmp .le 8, 3) := by decide +kernel
theorem dL_blamed_128 : decode cL_blamed 128 = .ok (.iload 7, 2) := by decide +kernel
theorem dL_blamed_130 : decode cL_blamed 130 = .ok (.goto 5, 3) := by decide +kernel
theorem dL_blamed_133 : decode cL_blamed 133 = .ok (.iload 5, 2) := by decide +kernel
theorem dL_blamed_135 : decode cL_blamed 135 = .ok (.istore 5, 2) := by decide +kernel
theorem dL_blamed_137 : decode cL_blamed 137 = .ok (.iload 10, 2) := by decide +kernel
theorem dL_blamed_139 : decode cL_blamed 139 = .ok (.iload 6, 2) := by decide +kernel
theorem dL_blamed_141 : decode cL_blamed 141 = .ok (.if_icmp .le 8, 3) := by decide +kernel
theorem dL_blamed_144 : decode cL_blamed 144 = .ok (.iload 10, 2) := by decide +kernel
theorem dL_blamed_146 : decode cL_blamed 146 = .ok (.goto 5, 3) := by decide +kernel
theorem dL_blamed_149 : decode cL_blamed 149 = .ok (.iload 6, 2) := by decide +kernel
theorem dL_blamed_151 : decode cL_blamed 151 = .ok (.istore 6, 2) := by decide +kernel
theorem dL_blamed_153 : decode cL_blamed 153 = .ok (.iinc 7 1, 3) := by decide +kernel
theorem dL_blamed_156 : decode cL_blamed 156 = .ok (.goto (-146), 3) := by decide +kernel
theorem dL_blamed_159 : decode cL_blamed 159 = .ok (.iload 5, 2) := by decide +kernel
theorem dL_blamed_161 : decode cL_blamed 161 = .ok (.ireturn, 1) := by decide +kernel
theorem dL_shade_0 : decode cL_shade 0 = .ok (.iload_n 0, 1) := by decide +kernel
theorem dL_shade_1 : decode cL_shade 1 = .ok (.iload_n 1, 1) := by decide +kernel
theorem dL_shade_2 : decode cL_shade 2 = .ok (.aload_n 2, 1) := by decide +kernel
theorem dL_shade_3 : decode cL_shade 3 = .ok (.aload_n 3, 1) := by decide +kernel
theorem dL_shade_4 : decode cL_shade 4 = .ok (.aload 4, 2) := by decide +kernel
theorem dL_shade_6 : decode cL_shade 6 = .ok (.invokestatic 20, 3) := by decide +kernel
theorem dL_shade_9 : decode cL_shade 9 = .ok (.istore 5, 2) := by decide +kernel
theorem dL_shade_11 : decode cL_shade 11 = .ok (.iload 5, 2) := by decide +kernel
theorem dL_shade_13 : decode cL_shade 13 = .ok (.ifCond .ge 7, 3) := by decide +kernel
theorem dL_shade_16 : decode cL_shade 16 = .ok (.iconst 0, 1) := by decide +kernel
theorem dL_shade_17 : decode cL_shade 17 = .ok (.goto 29, 3) := by decide +kernel
theorem dL_shade_20 : decode cL_shade 20 = .ok (.iload 5, 2) := by decide +kernel
theorem dL_shade_22 : decode cL_shade 22 = .ok (.iload 5, 2) := by decide +kernel
theorem dL_shade_24 : decode cL_shade 24 = .ok (.aload_n 2, 1) := by decide +kernel
theorem dL_shade_25 : decode cL_shade 25 = .ok (.iconst 4, 1) := by decide +kernel
theorem dL_shade_26 : decode cL_shade 26 = .ok (.iload 5, 2) := by decide +kernel
theorem dL_shade_28 : decode cL_shade 28 = .ok (.imul, 1) := by decide +kernel
theorem dL_shade_29 : decode cL_shade 29 = .ok (.iconst 2, 1) := by decide +kernel
theorem dL_shade_30 : decode cL_shade 30 = .ok (.iadd, 1) := by decide +kernel
theorem dL_shade_31 : decode cL_shade 31 = .ok (.iaload, 1) := by decide +kernel
theorem dL_shade_32 : decode cL_shade 32 = .ok (.iload_n 1, 1) := by decide +kernel
theorem dL_shade_33 : decode cL_shade 33 = .ok (.aload_n 2, 1) := by decide +kernel
theorem dL_shade_34 : decode cL_shade 34 = .ok (.aload_n 3, 1) := by decide +kernel
theorem dL_shade_35 : decode cL_shade 35 = .ok (.aload 4, 2) := by decide +kernel
theorem dL_shade_37 : decode cL_shade 37 = .ok (.invokestatic 16, 3) := by decide +kernel
theorem dL_shade_40 : decode cL_shade 40 = .ok (.iload_n 0, 1) := by decide +kernel
theorem dL_shade_41 : decode cL_shade 41 = .ok (.iload_n 1, 1) := by decide +kernel
theorem dL_shade_42 : decode cL_shade 42 = .ok (.aload_n 2, 1) := by decide +kernel
theorem dL_shade_43 : decode cL_shade 43 = .ok (.invokestatic 10, 3) := by decide +kernel
theorem dL_shade_46 : decode cL_shade 46 = .ok (.istore 6, 2) := by decide +kernel
theorem dL_shade_48 : decode cL_shade 48 = .ok (.aload_n 2, 1) := by decide +kernel
theorem dL_shade_49 : decode cL_shade 49 = .ok (.iconst 4, 1) := by decide +kernel
theorem dL_shade_50 : decode cL_shade 50 = .ok (.iload_n 0, 1) := by decide +kernel
theorem dL_shade_51 : decode cL_shade 51 = .ok (.imul, 1) := by decide +kernel
theorem dL_shade_52 : decode cL_shade 52 = .ok (.iconst 1, 1) := by decide +kernel
theorem dL_shade_53 : decode cL_shade 53 = .ok (.iadd, 1) := by decide +kernel
theorem dL_shade_54 : decode cL_shade 54 = .ok (.iaload, 1) := by decide +kernel
theorem dL_shade_55 : decode cL_shade 55 = .ok (.iload_n 0, 1) := by decide +kernel
theorem dL_shade_56 : decode cL_shade 56 = .ok (.aload_n 2, 1) := by decide +kernel
theorem dL_shade_57 : decode cL_shade 57 = .ok (.iconst 4, 1) := by decide +kernel
theorem dL_shade_58 : decode cL_shade 58 = .ok (.iload_n 0, 1) := by decide +kernel
theorem dL_shade_59 : decode cL_shade 59 = .ok (.imul, 1) := by decide +kernel
theorem dL_shade_60 : decode cL_shade 60 = .ok (.iconst 2, 1) := by decide +kernel
theorem dL_shade_61 : decode cL_shade 61 = .ok (.iadd, 1) := by decide +kernel
theorem dL_shade_62 : decode cL_shade 62 = .ok (.iaload, 1) := by decide +kernel
theorem dL_shade_63 : decode cL_shade 63 = .ok (.iload_n 1, 1) := by decide +kernel
theorem dL_shade_64 : decode cL_shade 64 = .ok (.aload_n 2, 1) := by decide +kernel
theorem dL_shade_65 : decode cL_shade 65 = .ok (.aload_n 3, 1) := by decide +kernel
theorem dL_shade_66 : decode cL_shade 66 = .ok (.aload 4, 2) := by decide +kernel
theorem dL_shade_68 : decode cL_shade 68 = .ok (.invokestatic 16, 3) := by decide +kernel
theorem dL_shade_71 : decode cL_shade 71 = .ok (.imul, 1) := by decide +kernel
theorem dL_shade_72 : decode cL_shade 72 = .ok (.istore 7, 2) := by decide +kernel
theorem dL_shade_74 : decode cL_shade 74 = .ok (.iload 6, 2) := by decide +kernel
theorem dL_shade_76 : decode cL_shade 76 = .ok (.iload 7, 2) := by decide +kernel
theorem dL_shade_78 : decode cL_shade 78 = .ok (.if_icmp .le 8, 3) := by decide +kernel
theorem dL_shade_81 : decode cL_shade 81 = .ok (.iload 7, 2) := by decide +kernel
theorem dL_shade_83 : decode cL_shade 83 = .ok (.goto 5, 3) := by decide +kernel
theorem dL_shade_86 : decode cL_shade 86 = .ok (.iload 6, 2) := by decide +kernel
theorem dL_shade_88 : decode cL_shade 88 = .ok (.ireturn, 1) := by decide +kernel
theorem dL_match_0 : decode cL_match 0 = .ok (.iconst 0, 1) := by decide +kernel
theorem dL_match_1 : decode cL_match 1 = .ok (.istore 5, 2) := by decide +kernel
theorem dL_match_3 : decode cL_match 3 = .ok (.iconst 0, 1) := by decide +kernel
theorem dL_match_4 : decode cL_match 4 = .ok (.istore 6, 2) := by decide +kernel
theorem dL_match_6 : decode cL_match 6 = .ok (.iconst 0, 1) := by decide +kernel
theorem dL_match_7 : decode cL_match 7 = .ok (.istore 7, 2) := by decide +kernel
theorem dL_match_9 : decode cL_match 9 = .ok (.iload 7, 2) := by decide +kernel
theorem dL_match_11 : decode cL_match 11 = .ok (.aload_n 0, 1) := by decide +kernel
theorem dL_match_12 : decode cL_match 12 = .ok (.iconst 1, 1) := by decide +kernel
theorem dL_match_13 : decode cL_match 13 = .ok (.iaload, 1) := by decide +kernel
theorem dL_match_14 : decode cL_match 14 = .ok (.if_icmp .ge 380, 3) := by decide +kernel
theorem dL_match_17 : decode cL_match 17 = .ok (.iconst (-1), 1) := by decide +kernel
theorem dL_match_18 : decode cL_match 18 = .ok (.istore 8, 2) := by decide +kernel
theorem dL_match_20 : decode cL_match 20 = .ok (.iconst 0, 1) := by decide +kernel
theorem dL_match_21 : decode cL_match 21 = .ok (.istore 9, 2) := by decide +kernel
theorem dL_match_23 : decode cL_match 23 = .ok (.iload 9, 2) := by decide +kernel
theorem dL_match_25 : decode cL_match 25 = .ok (.aload_n 0, 1) := by decide +kernel
theorem dL_match_26 : decode cL_match 26 = .ok (.iconst 1, 1) := by decide +kernel
theorem dL_match_27 : decode cL_match 27 = .ok (.iaload, 1) := by decide +kernel
theorem dL_match_28 : decode cL_match 28 = .ok (.if_icmp .ge 49, 3) := by decide +kernel
theorem dL_match_31 : decode cL_match 31 = .ok (.iload 6, 2) := by decide +kernel
theorem dL_match_33 : decode cL_match 33 = .ok (.iload 9, 2) := by decide +kernel
theorem dL_match_35 : decode cL_match 35 = .ok (.ishr, 1) := by decide +kernel
theorem dL_match_36 : decode cL_match 36 = .ok (.iconst 1, 1) := by decide +kernel
theorem dL_match_37 : decode cL_match 37 = .ok (.iand, 1) := by decide +kernel
theorem dL_match_38 : decode cL_match 38 = .ok (.ifCond .ne 33, 3) := by decide +kernel
theorem dL_match_41 : decode cL_match 41 = .ok (.iload 8, 2) := by decide +kernel
theorem dL_match_43 : decode cL_match 43 = .ok (.ifCond .lt 24, 3) := by decide +kernel
theorem dL_match_46 : decode cL_match 46 = .ok (.aload 4, 2) := by decide +kernel
theorem dL_match_48 : decode cL_match 48 = .ok (.iconst 5, 1) := by decide +kernel
theorem dL_match_49 : decode cL_match 49 = .ok (.iload 9, 2) := by decide +kernel
theorem dL_match_51 : decode cL_match 51 = .ok (.imul, 1) := by decide +kernel
theorem dL_match_52 : decode cL_match 52 = .ok (.iconst 3, 1) := by decide +kernel
theorem dL_match_53 : decode cL_match 53 = .ok (.iadd, 1) := by decide +kernel
theorem dL_match_54 : decode cL_match 54 = .ok (.iaload, 1) := by decide +kernel
theorem dL_match_55 : decode cL_match 55 = .ok (.aload 4, 2) := by decide +kernel
theorem dL_match_57 : decode cL_match 57 = .ok (.iconst 5, 1) := by decide +kernel
theorem dL_match_58 : decode cL_match 58 = .ok (.iload 8, 2) := by decide +kernel
theorem dL_match_60 : decode cL_match 60 = .ok (.imul, 1) := by decide +kernel
theorem dL_match_61 : decode cL_match 61 = .ok (.iconst 3, 1) := by decide +kernel
theorem dL_match_62 : decode cL_match 62 = .ok (.iadd, 1) := by decide +kernel
theorem dL_match_63 : decode cL_match 63 = .ok (.iaload, 1) := by decide +kernel
theorem dL_match_64 : decode cL_match 64 = .ok (.if_icmp .le 7, 3) := by decide +kernel
theorem dL_match_67 : decode cL_match 67 = .ok (.iload 9, 2) := by decide +kernel
theorem dL_match_69 : decode cL_match 69 = .ok (.istore 8, 2) := by decide +kernel
theorem dL_match_71 : decode cL_match 71 = .ok (.iinc 9 1, 3) := by decide +kernel
theorem dL_match_74 : decode cL_match 74 = .ok (.goto (-51), 3) := by decide +kernel
theorem dL_match_77 : decode cL_match 77 = .ok (.iload 6, 2) := by decide +kernel
theorem dL_match_79 : decode cL_match 79 = .ok (.iconst 1, 1) := by decide +kernel
theorem dL_match_80 : decode cL_match 80 = .ok (.iload 8, 2) := by decide +kernel
theorem dL_match_82 : decode cL_match 82 = .ok (.ishl, 1) := by decide +kernel
theorem dL_match_83 : decode cL_match 83 = .ok (.ior, 1) := by decide +kernel
theorem dL_match_84 : decode cL_match 84 = .ok (.istore 6, 2) := by decide +kernel
theorem dL_match_86 : decode cL_match 86 = .ok (.iconst 0, 1) := by decide +kernel
theorem dL_match_87 : decode cL_match 87 = .ok (.istore 9, 2) := by decide +kernel
theorem dL_match_89 : decode cL_match 89 = .ok (.iconst 0, 1) := by decide +kernel
theorem dL_match_90 : decode cL_match 90 = .ok (.istore 10, 2) := by decide +kernel
theorem dL_match_92 : decode cL_match 92 = .ok (.iload 10, 2) := by decide +kernel
theorem dL_match_94 : decode cL_match 94 = .ok (.aload_n 0, 1) := by decide +kernel
theorem dL_match_95 : decode cL_match 95 = .ok (.iconst 0, 1) := by decide +kernel
theorem dL_match_96 : decode cL_match 96 = .ok (.iaload, 1) := by decide +kernel
theorem dL_match_97 : decode cL_match 97 = .ok (.if_icmp .ge 291, 3) := by decide +kernel
theorem dL_match_100 : decode cL_match 100 = .ok (.iconst (-1), 1) := by decide +kernel
theorem dL_match_101 : decode cL_match 101 = .ok (.istore 11, 2) := by decide +kernel
theorem dL_match_103 : decode cL_match 103 = .ok (.iconst 0, 1) := by decide +kernel
theorem dL_match_104 : decode cL_match 104 = .ok (.istore 12, 2) := by decide +kernel
theorem dL_match_106 : decode cL_match 106 = .ok (.iload 12, 2) := by decide +kernel
theorem dL_match_108 : decode cL_match 108 = .ok (.aload_n 0, 1) := by decide +kernel
theorem dL_match_109 : decode cL_match 109 = .ok (.iconst 0, 1) := by decide +kernel
theorem dL_match_110 : decode cL_match 110 = .ok (.iaload, 1) := by decide +kernel
theorem dL_match_111 : decode cL_match 111 = .ok (.if_icmp .ge 47, 3) := by decide +kernel
theorem dL_match_114 : decode cL_match 114 = .ok (.iload 9, 2) := by decide +kernel
theorem dL_match_116 : decode cL_match 116 = .ok (.iload 12, 2) := by decide +kernel
theorem dL_match_118 : decode cL_match 118 = .ok (.ishr, 1) := by decide +kernel
theorem dL_match_119 : decode cL_match 119 = .ok (.iconst 1, 1) := by decide +kernel
theorem dL_match_120 : decode cL_match 120 = .ok (.iand, 1) := by decide +kernel
theorem dL_match_121 : decode cL_match 121 = .ok (.ifCond .ne 31, 3) := by decide +kernel
theorem dL_match_124 : decode cL_match 124 = .ok (.iload 11, 2) := by decide +kernel
theorem dL_match_126 : decode cL_match 126 = .ok (.ifCond .lt 22, 3) := by decide +kernel
theorem dL_match_129 : decode cL_match 129 = .ok (.aload_n 3, 1) := by decide +kernel
theorem dL_match_130 : decode cL_match 130 = .ok (.iconst 4, 1) := by decide +kernel
theorem dL_match_131 : decode cL_match 131 = .ok (.iload 12, 2) := by decide +kernel
theorem dL_match_133 : decode cL_match 133 = .ok (.imul, 1) := by decide +kernel
theorem dL_match_134 : decode cL_match 134 = .ok (.iconst 3, 1) := by decide +kernel
theorem dL_match_135 : decode cL_match 135 = .ok (.iadd, 1) := by decide +kernel
theorem dL_match_136 : decode cL_match 136 = .ok (.iaload, 1) := by decide +kernel
theorem dL_match_137 : decode cL_match 137 = .ok (.aload_n 3, 1) := by decide +kernel
theorem dL_match_138 : decode cL_match 138 = .ok (.iconst 4, 1) := by decide +kernel
theorem dL_match_139 : decode cL_match 139 = .ok (.iload 11, 2) := by decide +kernel
theorem dL_match_141 : decode cL_match 141 = .ok (.imul, 1) := by decide +kernel
theorem dL_match_142 : decode cL_match 142 = .ok (.iconst 3, 1) := by decide +kernel
theorem dL_match_143 : decode cL_match 143 = .ok (.iadd, 1) := by decide +kernel
theorem dL_match_144 : decode cL_match 144 = .ok (.iaload, 1) := by decide +kernel
theorem dL_match_145 : decode cL_match 145 = .ok (.if_icmp .ge 7, 3) := by decide +kernel
theorem dL_match_148 : decode cL_match 148 = .ok (.iload 12, 2) := by decide +kernel
theorem dL_match_150 : decode cL_match 150 = .ok (.istore 11, 2) := by decide +kernel
theorem dL_match_152 : decode cL_match 152 = .ok (.iinc 12 1, 3) := by decide +kernel
theorem dL_match_155 : decode cL_match 155 = .ok (.goto (-49), 3) := by decide +kernel
theorem dL_match_158 : decode cL_match 158 = .ok (.iload 9, 2) := by decide +kernel
theorem dL_match_160 : decode cL_match 160 = .ok (.iconst 1, 1) := by decide +kernel
theorem dL_match_161 : decode cL_match 161 = .ok (.iload 11, 2) := by decide +kernel
theorem dL_match_163 : decode cL_match 163 = .ok (.ishl, 1) := by decide +kernel
theorem dL_match_164 : decode cL_match 164 = .ok (.ior, 1) := by decide +kernel
theorem dL_match_165 : decode cL_match 165 = .ok (.istore 9, 2) := by decide +kernel
theorem dL_match_167 : decode cL_match 167 = .ok (.aload_n 3, 1) := by decide +kernel
theorem dL_match_168 : decode cL_match 168 = .ok (.iconst 4, 1) := by decide +kernel
theorem dL_match_169 : decode cL_match 169 = .ok (.iload 11, 2) := by decide +kernel
theorem dL_match_171 : decode cL_match 171 = .ok (.imul, 1) := by decide +kernel
theorem dL_match_172 : decode cL_match 172 = .ok (.iaload, 1) := by decide +kernel
theorem dL_match_173 : decode cL_match 173 = .ok (.aload 4, 2) := by decide +kernel
theorem dL_match_175 : decode cL_match 175 = .ok (.iconst 5, 1) := by decide +kernel
theorem dL_match_176 : decode cL_match 176 = .ok (.iload 8, 2) := by decide +kernel
theorem dL_match_178 : decode cL_match 178 = .ok (.imul, 1) := by decide +kernel
theorem dL_match_179 : decode cL_match 179 = .ok (.iaload, 1) := by decide +kernel
theorem dL_match_180 : decode cL_match 180 = .ok (.if_icmp .ne 202, 3) := by decide +kernel
theorem dL_match_183 : decode cL_match 183 = .ok (.aload_n 3, 1) := by decide +kernel
theorem dL_match_184 : decode cL_match 184 = .ok (.iconst 4, 1) := by decide +kernel
theorem dL_match_185 : decode cL_match 185 = .ok (.iload 11, 2) := by decide +kernel
theorem dL_match_187 : decode cL_match 187 = .ok (.imul, 1) := by decide +kernel
theorem dL_match_188 : decode cL_match 188 = .ok (.iconst 1, 1) := by decide +kernel
theorem dL_match_189 : decode cL_match 189 = .ok (.iadd, 1) := by decide +kernel
theorem dL_match_190 : decode cL_match 190 = .ok (.iaload, 1) := by decide +kernel
theorem dL_match_191 : decode cL_match 191 = .ok (.aload 4, 2) := by decide +kernel
theorem dL_match_193 : decode cL_match 193 = .ok (.iconst 5, 1) := by decide +kernel
theorem dL_match_194 : decode cL_match 194 = .ok (.iload 8, 2) := by decide +kernel
theorem dL_match_196 : decode cL_match 196 = .ok (.imul, 1) := by decide +kernel
theorem dL_match_197 : decode cL_match 197 = .ok (.iconst 1, 1) := by decide +kernel
theorem dL_match_198 : decode cL_match 198 = .ok (.iadd, 1) := by decide +kernel
theorem dL_match_199 : decode cL_match 199 = .ok (.iaload, 1) := by decide +kernel
theorem dL_match_200 : decode cL_match 200 = .ok (.if_icmp .ne 182, 3) := by decide +kernel
theorem dL_match_203 : decode cL_match 203 = .ok (.aload_n 3, 1) := by decide +kernel
theorem dL_match_204 : decode cL_match 204 = .ok (.iconst 4, 1) := by decide +kernel
theorem dL_match_205 : decode cL_match 205 = .ok (.iload 11, 2) := by decide +kernel
theorem dL_match_207 : decode cL_match 207 = .ok (.imul, 1) := by decide +kernel
theorem dL_match_208 : decode cL_match 208 = .ok (.iconst 3, 1) := by decide +kernel
theorem dL_match_209 : decode cL_match 209 = .ok (.iadd, 1) := by decide +kernel
theorem dL_match_210 : decode cL_match 210 = .ok (.iaload, 1) := by decide +kernel
theorem dL_match_211 : decode cL_match 211 = .ok (.aload 4, 2) := by decide +kernel
theorem dL_match_213 : decode cL_match 213 = .ok (.iconst 5, 1) := by decide +kernel
theorem dL_match_214 : decode cL_match 214 = .ok (.iload 8, 2) := by decide +kernel
theorem dL_match_216 : decode cL_match 216 = .ok (.imul, 1) := by decide +kernel
theorem dL_match_217 : decode cL_match 217 = .ok (.iconst 3, 1) := by decide +kernel
theorem dL_match_218 : decode cL_match 218 = .ok (.iadd, 1) := by decide +kernel
theorem dL_match_219 : decode cL_match 219 = .ok (.iaload, 1) := by decide +kernel
theorem dL_match_220 : decode cL_match 220 = .ok (.if_icmp .le 6, 3) := by decide +kernel
theorem dL_match_223 : decode cL_match 223 = .ok (.goto 159, 3) := by decide +kernel
theorem dL_match_226 : decode cL_match 226 = .ok (.bipush 16, 2) := by decide +kernel
theorem dL_match_228 : decode cL_match 228 = .ok (.aload 4, 2) := by decide +kernel
theorem dL_match_230 : decode cL_match 230 = .ok (.iconst 5, 1) := by decide +kernel
theorem dL_match_231 : decode cL_match 231 = .ok (.iload 8, 2) := by decide +kernel
theorem dL_match_233 : decode cL_match 233 = .ok (.imul, 1) := by decide +kernel
theorem dL_match_234 : decode cL_match 234 = .ok (.iconst 1, 1) := by decide +kernel
theorem dL_match_235 : decode cL_match 235 = .ok (.iadd, 1) := by decide +kernel
theorem dL_match_236 : decode cL_match 236 = .ok (.iaload, 1) := by decide +kernel
theorem dL_match_237 : decode cL_match 237 = .ok (.imul, 1) := by decide +kernel
theorem dL_match_238 : decode cL_match 238 = .ok (.iconst 4, 1) := by decide +kernel
theorem dL_match_239 : decode cL_match 239 = .ok (.aload 4, 2) := by decide +kernel
theorem dL_match_241 : decode cL_match 241 = .ok (.iconst 5, 1) := by decide +kernel
theorem dL_match_242 : decode cL_match 242 = .ok (.iload 8, 2) := by decide +kernel
theorem dL_match_244 : decode cL_match 244 = .ok (.imul, 1) := by decide +kernel
theorem dL_match_245 : decode cL_match 245 = .ok (.iconst 4, 1) := by decide +kernel
theorem dL_match_246 : decode cL_match 246 = .ok (.iadd, 1) := by decide +kernel
theorem dL_match_247 : decode cL_match 247 = .ok (.iaload, 1) := by decide +kernel
theorem dL_match_248 : decode cL_match 248 = .ok (.imul, 1) := by decide +kernel
theorem dL_match_249 : decode cL_match 249 = .ok (.iadd, 1) := by decide +kernel
theorem dL_match_250 : decode cL_match 250 = .ok (.aload 4, 2) := by decide +kernel
theorem dL_match_252 : decode cL_match 252 = .ok (.iconst 5, 1) := by decide +kernel
theorem dL_match_253 : decode cL_match 253 = .ok (.iload 8, 2) := by decide +kernel
theorem dL_match_255 : decode cL_match 255 = .ok (.imul, 1) := by decide +kernel
theorem dL_match_256 : decode cL_match 256 = .ok (.iaload, 1) := by decide +kernel
theorem dL_match_257 : decode cL_match 257 = .ok (.iadd, 1) := by decide +kernel
theorem dL_match_258 : decode cL_match 258 = .ok (.istore 12, 2) := by decide +kernel
theorem dL_match_260 : decode cL_match 260 = .ok (.aload_n 3, 1) := by decide +kernel
theorem dL_match_261 : decode cL_match 261 = .ok (.iconst 4, 1) := by decide +kernel
theorem dL_match_262 : decode cL_match 262 = .ok (.iload 11, 2) := by decide +kernel
theorem dL_match_264 : decode cL_match 264 = .ok (.imul, 1) := by decide +kernel
theorem dL_match_265 : decode cL_match 265 = .ok (.iconst 2, 1) := by decide +kernel
theorem dL_match_266 : decode cL_match 266 = .ok (.iadd, 1) := by decide +kernel
theorem dL_match_267 : decode cL_match 267 = .ok (.iaload, 1) := by decide +kernel
theorem dL_match_268 : decode cL_match 268 = .ok (.ifCond .le 114, 3) := by decide +kernel
theorem dL_match_271 : decode cL_match 271 = .ok (.aload 4, 2) := by decide +kernel
theorem dL_match_273 : decode cL_match 273 = .ok (.iconst 5, 1) := by decide +kernel
theorem dL_match_274 : decode cL_match 274 = .ok (.iload 8, 2) := by decide +kernel
theorem dL_match_276 : decode cL_match 276 = .ok (.imul, 1) := by decide +kernel
theorem dL_match_277 : decode cL_match 277 = .ok (.iconst 2, 1) := by decide +kernel
theorem dL_match_278 : decode cL_match 278 = .ok (.iadd, 1) := by decide +kernel
theorem dL_match_279 : decode cL_match 279 = .ok (.iaload, 1) := by decide +kernel
theorem dL_match_280 : decode cL_match 280 = .ok (.ifCond .le 102, 3) := by decide +kernel
theorem dL_match_283 : decode cL_match 283 = .ok (.aload_n 2, 1) := by decide +kernel
theorem dL_match_284 : decode cL_match 284 = .ok (.iload 12, 2) := by decide +kernel
theorem dL_match_286 : decode cL_match 286 = .ok (.iaload, 1) := by decide +kernel
theorem dL_match_287 : decode cL_match 287 = .ok (.sipush 999, 3) := by decide +kernel
theorem dL_match_290 : decode cL_match 290 = .ok (.if_icmp .ge 92, 3) := by decide +kernel
theorem dL_match_293 : decode cL_match 293 = .ok (.aload_n 3, 1) := by decide +kernel
theorem dL_match_294 : decode cL_match 294 = .ok (.iconst 4, 1) := by decide +kernel
theorem dL_match_295 : decode cL_match 295 = .ok (.iload 11, 2) := by decide +kernel
theorem dL_match_297 : decode cL_match 297 = .ok (.imul, 1) := by decide +kernel
theorem dL_match_298 : decode cL_match 298 = .ok (.iconst 2, 1) := by decide +kernel
theorem dL_match_299 : decode cL_match 299 = .ok (.iadd, 1) := by decide +kernel
theorem dL_match_300 : decode cL_match 300 = .ok (.dup2, 1) := by decide +kernel
theorem dL_match_301 : decode cL_match 301 = .ok (.iaload, 1) := by decide +kernel
theorem dL_match_302 : decode cL_match 302 = .ok (.iconst 1, 1) := by decide +kernel
theorem dL_match_303 : decode cL_match 303 = .ok (.isub, 1) := by decide +kernel
theorem dL_match_304 : decode cL_match 304 = .ok (.iastore, 1) := by decide +kernel
theorem dL_match_305 : decode cL_match 305 = .ok (.aload 4, 2) := by decide +kernel
theorem dL_match_307 : decode cL_match 307 = .ok (.iconst 5, 1) := by decide +kernel
theorem dL_match_308 : decode cL_match 308 = .ok (.iload 8, 2) := by decide +kernel
theorem dL_match_310 : decode cL_match 310 = .ok (.imul, 1) := by decide +kernel
theorem dL_match_311 : decode cL_match 311 = .ok (.iconst 2, 1) := by decide +kernel
theorem dL_match_312 : decode cL_match 312 = .ok (.iadd, 1) := by decide +kernel
theorem dL_match_313 : decode cL_match 313 = .ok (.dup2, 1) := by decide +kernel
theorem dL_match_314 : decode cL_match 314 = .ok (.iaload, 1) := by decide +kernel
theorem dL_match_315 : decode cL_match 315 = .ok (.iconst 1, 1) := by decide +kernel
theorem dL_match_316 : decode cL_match 316 = .ok (.isub, 1) := by decide +kernel
theorem dL_match_317 : decode cL_match 317 = .ok (.iastore, 1) := by decide +kernel
theorem dL_match_318 : decode cL_match 318 = .ok (.aload_n 2, 1) := by decide +kernel
theorem dL_match_319 : decode cL_match 319 = .ok (.iload 12, 2) := by decide +kernel
theorem dL_match_321 : decode cL_match 321 = .ok (.dup2, 1) := by decide +kernel
theorem dL_match_322 : decode cL_match 322 = .ok (.iaload, 1) := by decide +kernel
theorem dL_match_323 : decode cL_match 323 = .ok (.iconst 1, 1) := by decide +kernel
theorem dL_match_324 : decode cL_match 324 = .ok (.iadd, 1) := by decide +kernel
theorem dL_match_325 : decode cL_match 325 = .ok (.iastore, 1) := by decide +kernel
theorem dL_match_326 : decode cL_match 326 = .ok (.aload_n 1, 1) := by decide +kernel
theorem dL_match_327 : decode cL_match 327 = .ok (.iconst 4, 1) := by decide +kernel
theorem dL_match_328 : decode cL_match 328 = .ok (.aload 4, 2) := by decide +kernel
theorem dL_match_330 : decode cL_match 330 = .ok (.iconst 5, 1) := by decide +kernel
theorem dL_match_331 : decode cL_match 331 = .ok (.iload 8, 2) := by decide +kernel
theorem dL_match_333 : decode cL_match 333 = .ok (.imul, 1) := by decide +kernel
theorem dL_match_334 : decode cL_match 334 = .ok (.iconst 4, 1) := by decide +kernel
theorem dL_match_335 : decode cL_match 335 = .ok (.iadd, 1) := by decide +kernel
theorem dL_match_336 : decode cL_match 336 = .ok (.iaload, 1) := by decide +kernel
theorem dL_match_337 : decode cL_match 337 = .ok (.imul, 1) := by decide +kernel
theorem dL_match_338 : decode cL_match 338 = .ok (.iconst 3, 1) := by decide +kernel
theorem dL_match_339 : decode cL_match 339 = .ok (.iadd, 1) := by decide +kernel
theorem dL_match_340 : decode cL_match 340 = .ok (.dup2, 1) := by decide +kernel
theorem dL_match_341 : decode cL_match 341 = .ok (.iaload, 1) := by decide +kernel
theorem dL_match_342 : decode cL_match 342 = .ok (.aload_n 3, 1) := by decide +kernel
theorem dL_match_343 : decode cL_match 343 = .ok (.iconst 4, 1) := by decide +kernel
theorem dL_match_344 : decode cL_match 344 = .ok (.iload 11, 2) := by decide +kernel
theorem dL_match_346 : decode cL_match 346 = .ok (.imul, 1) := by decide +kernel
theorem dL_match_347 : decode cL_match 347 = .ok (.iconst 3, 1) := by decide +kernel
theorem dL_match_348 : decode cL_match 348 = .ok (.iadd, 1) := by decide +kernel
theorem dL_match_349 : decode cL_match 349 = .ok (.iaload, 1) := by decide +kernel
theorem dL_match_350 : decode cL_match 350 = .ok (.isub, 1) := by decide +kernel
theorem dL_match_351 : decode cL_match 351 = .ok (.iastore, 1) := by decide +kernel
theorem dL_match_352 : decode cL_match 352 = .ok (.aload_n 1, 1) := by decide +kernel
theorem dL_match_353 : decode cL_match 353 = .ok (.iconst 4, 1) := by decide +kernel
theorem dL_match_354 : decode cL_match 354 = .ok (.aload 4, 2) := by decide +kernel
theorem dL_match_356 : decode cL_match 356 = .ok (.iconst 5, 1) := by decide +kernel
theorem dL_match_357 : decode cL_match 357 = .ok (.iload 8, 2) := by decide +kernel
theorem dL_match_359 : decode cL_match 359 = .ok (.imul, 1) := by decide +kernel
theorem dL_match_360 : decode cL_match 360 = .ok (.iaload, 1) := by decide +kernel
theorem dL_match_361 : decode cL_match 361 = .ok (.imul, 1) := by decide +kernel
theorem dL_match_362 : decode cL_match 362 = .ok (.iconst 3, 1) := by decide +kernel
theorem dL_match_363 : decode cL_match 363 = .ok (.iadd, 1) := by decide +kernel
theorem dL_match_364 : decode cL_match 364 = .ok (.dup2, 1) := by decide +kernel
theorem dL_match_365 : decode cL_match 365 = .ok (.iaload, 1) := by decide +kernel
theorem dL_match_366 : decode cL_match 366 = .ok (.aload_n 3, 1) := by decide +kernel
theorem dL_match_367 : decode cL_match 367 = .ok (.iconst 4, 1) := by decide +kernel
theorem dL_match_368 : decode cL_match 368 = .ok (.iload 11, 2) := by decide +kernel
theorem dL_match_370 : decode cL_match 370 = .ok (.imul, 1) := by decide +kernel
theorem dL_match_371 : decode cL_match 371 = .ok (.iconst 3, 1) := by decide +kernel
theorem dL_match_372 : decode cL_match 372 = .ok (.iadd, 1) := by decide +kernel
theorem dL_match_373 : decode cL_match 373 = .ok (.iaload, 1) := by decide +kernel
theorem dL_match_374 : decode cL_match 374 = .ok (.iadd, 1) := by decide +kernel
theorem dL_match_375 : decode cL_match 375 = .ok (.iastore, 1) := by decide +kernel
theorem dL_match_376 : decode cL_match 376 = .ok (.iinc 5 1, 3) := by decide +kernel
theorem dL_match_379 : decode cL_match 379 = .ok (.goto (-119), 3) := by decide +kernel
theorem dL_match_382 : decode cL_match 382 = .ok (.iinc 10 1, 3) := by decide +kernel
theorem dL_match_385 : decode cL_match 385 = .ok (.goto (-293), 3) := by decide +kernel
theorem dL_match_388 : decode cL_match 388 = .ok (.iinc 7 1, 3) := by decide +kernel
theorem dL_match_391 : decode cL_match 391 = .ok (.goto (-382), 3) := by decide +kernel
theorem dL_match_394 : decode cL_match 394 = .ok (.iconst 0, 1) := by decide +kernel
theorem dL_match_395 : decode cL_match 395 = .ok (.istore 7, 2) := by decide +kernel
theorem dL_match_397 : decode cL_match 397 = .ok (.iconst 0, 1) := by decide +kernel
theorem dL_match_398 : decode cL_match 398 = .ok (.istore 8, 2) := by decide +kernel
theorem dL_match_400 : decode cL_match 400 = .ok (.iload 8, 2) := by decide +kernel
theorem dL_match_402 : decode cL_match 402 = .ok (.aload_n 0, 1) := by decide +kernel
theorem dL_match_403 : decode cL_match 403 = .ok (.iconst 0, 1) := by decide +kernel
theorem dL_match_404 : decode cL_match 404 = .ok (.iaload, 1) := by decide +kernel
theorem dL_match_405 : decode cL_match 405 = .ok (.if_icmp .ge 74, 3) := by decide +kernel
theorem dL_match_408 : decode cL_match 408 = .ok (.iconst 0, 1) := by decide +kernel
theorem dL_match_409 : decode cL_match 409 = .ok (.istore 9, 2) := by decide +kernel
theorem dL_match_411 : decode cL_match 411 = .ok (.iload 9, 2) := by decide +kernel
theorem dL_match_413 : decode cL_match 413 = .ok (.iconst 4, 1) := by decide +kernel
theorem dL_match_414 : decode cL_match 414 = .ok (.if_icmp .ge 38, 3) := by decide +kernel
theorem dL_match_417 : decode cL_match 417 = .ok (.aload_n 3, 1) := by decide +kernel
theorem dL_match_418 : decode cL_match 418 = .ok (.iconst 4, 1) := by decide +kernel
theorem dL_match_419 : decode cL_match 419 = .ok (.iload 8, 2) := by decide +kernel
theorem dL_match_421 : decode cL_match 421 = .ok (.imul, 1) := by decide +kernel
theorem dL_match_422 : decode cL_match 422 = .ok (.iconst 2, 1) := by decide +kernel
theorem dL_match_423 : decode cL_match 423 = .ok (.iadd, 1) := by decide +kernel
theorem dL_match_424 : decode cL_match 424 = .ok (.iaload, 1) := by decide +kernel
theorem dL_match_425 : decode cL_match 425 = .ok (.ifCond .le 27, 3) := by decide +kernel
theorem dL_match_428 : decode cL_match 428 = .ok (.aload_n 3, 1) := by decide +kernel
theorem dL_match_429 : decode cL_match 429 = .ok (.iconst 4, 1) := by decide +kernel
theorem dL_match_430 : decode cL_match 430 = .ok (.iload 7, 2) := by decide +kernel
theorem dL_match_432 : decode cL_match 432 = .ok (.imul, 1) := by decide +kernel
theorem dL_match_433 : decode cL_match 433 = .ok (.iload 9, 2) := by decide +kernel
theorem dL_match_435 : decode cL_match 435 = .ok (.iadd, 1) := by decide +kernel
theorem dL_match_436 : decode cL_match 436 = .ok (.aload_n 3, 1) := by decide +kernel
theorem dL_match_437 : decode cL_match 437 = .ok (.iconst 4, 1) := by decide +kernel
theorem dL_match_438 : decode cL_match 438 = .ok (.iload 8, 2) := by decide +kernel
theorem dL_match_440 : decode cL_match 440 = .ok (.imul, 1) := by decide +kernel
theorem dL_match_441 : decode cL_match 441 = .ok (.iload 9, 2) := by decide +kernel
theorem dL_match_443 : decode cL_match 443 = .ok (.iadd, 1) := by decide +kernel
theorem dL_match_444 : decode cL_match 444 = .ok (.iaload, 1) := by decide +kernel
theorem dL_match_445 : decode cL_match 445 = .ok (.iastore, 1) := by decide +kernel
theorem dL_match_446 : decode cL_match 446 = .ok (.iinc 9 1, 3) := by decide +kernel
theorem dL_match_449 : decode cL_match 449 = .ok (.goto (-38), 3) := by decide +kernel
theorem dL_match_452 : decode cL_match 452 = .ok (.iload 7, 2) := by decide +kernel
theorem dL_match_454 : decode cL_match 454 = .ok (.aload_n 3, 1) := by decide +kernel
theorem dL_match_455 : decode cL_match 455 = .ok (.iconst 4, 1) := by decide +kernel
theorem dL_match_456 : decode cL_match 456 = .ok (.iload 8, 2) := by decide +kernel
theorem dL_match_458 : decode cL_match 458 = .ok (.imul, 1) := by decide +kernel
theorem dL_match_459 : decode cL_match 459 = .ok (.iconst 2, 1) := by decide +kernel
theorem dL_match_460 : decode cL_match 460 = .ok (.iadd, 1) := by decide +kernel
theorem dL_match_461 : decode cL_match 461 = .ok (.iaload, 1) := by decide +kernel
theorem dL_match_462 : decode cL_match 462 = .ok (.ifCond .le 7, 3) := by decide +kernel
theorem dL_match_465 : decode cL_match 465 = .ok (.iconst 1, 1) := by decide +kernel
theorem dL_match_466 : decode cL_match 466 = .ok (.goto 4, 3) := by decide +kernel
theorem dL_match_469 : decode cL_match 469 = .ok (.iconst 0, 1) := by decide +kernel
theorem dL_match_470 : decode cL_match 470 = .ok (.iadd, 1) := by decide +kernel
theorem dL_match_471 : decode cL_match 471 = .ok (.istore 7, 2) := by decide +kernel
theorem dL_match_473 : decode cL_match 473 = .ok (.iinc 8 1, 3) := by decide +kernel
theorem dL_match_476 : decode cL_match 476 = .ok (.goto (-76), 3) := by decide +kernel
theorem dL_match_479 : decode cL_match 479 = .ok (.aload_n 0, 1) := by decide +kernel
theorem dL_match_480 : decode cL_match 480 = .ok (.iconst 0, 1) := by decide +kernel
theorem dL_match_481 : decode cL_match 481 = .ok (.iload 7, 2) := by decide +kernel
theorem dL_match_483 : decode cL_match 483 = .ok (.iastore, 1) := by decide +kernel
theorem dL_match_484 : decode cL_match 484 = .ok (.iconst 0, 1) := by decide +kernel
theorem dL_match_485 : decode cL_match 485 = .ok (.istore 7, 2) := by decide +kernel
theorem dL_match_487 : decode cL_match 487 = .ok (.iconst 0, 1) := by decide +kernel
theorem dL_match_488 : decode cL_match 488 = .ok (.istore 8, 2) := by decide +kernel
theorem dL_match_490 : decode cL_match 490 = .ok (.iload 8, 2) := by decide +kernel
theorem dL_match_492 : decode cL_match 492 = .ok (.aload_n 0, 1) := by decide +kernel
theorem dL_match_493 : decode cL_match 493 = .ok (.iconst 1, 1) := by decide +kernel
theorem dL_match_494 : decode cL_match 494 = .ok (.iaload, 1) := by decide +kernel
theorem dL_match_495 : decode cL_match 495 = .ok (.if_icmp .ge 83, 3) := by decide +kernel
theorem dL_match_498 : decode cL_match 498 = .ok (.aload 4, 2) := by decide +kernel
theorem dL_match_500 : decode cL_match 500 = .ok (.iconst 5, 1) := by decide +kernel
theorem dL_match_501 : decode cL_match 501 = .ok (.iload 8, 2) := by decide +kernel
theorem dL_match_503 : decode cL_match 503 = .ok (.imul, 1) := by decide +kernel
theorem dL_match_504 : decode cL_match 504 = .ok (.iconst 2, 1) := by decide +kernel
theorem dL_match_505 : decode cL_match 505 = .ok (.iadd, 1) := by decide +kernel
theorem dL_match_506 : decode cL_match 506 = .ok (.iaload, 1) := by decide +kernel
theorem dL_match_507 : decode cL_match 507 = .ok (.ifCond .le 7, 3) := by decide +kernel
theorem dL_match_510 : decode cL_match 510 = .ok (.iconst 1, 1) := by decide +kernel
theorem dL_match_511 : decode cL_match 511 = .ok (.goto 4, 3) := by decide +kernel
theorem dL_match_514 : decode cL_match 514 = .ok (.iconst 0, 1) := by decide +kernel
theorem dL_match_515 : decode cL_match 515 = .ok (.istore 9, 2) := by decide +kernel
theorem dL_match_517 : decode cL_match 517 = .ok (.iconst 0, 1) := by decide +kernel
theorem dL_match_518 : decode cL_match 518 = .ok (.istore 10, 2) := by decide +kernel
theorem dL_match_520 : decode cL_match 520 = .ok (.iload 10, 2) := by decide +kernel
theorem dL_match_522 : decode cL_match 522 = .ok (.iconst 5, 1) := by decide +kernel
theorem dL_match_523 : decode cL_match 523 = .ok (.if_icmp .ge 34, 3) := by decide +kernel
theorem dL_match_526 : decode cL_match 526 = .ok (.iload 9, 2) := by decide +kernel
theorem dL_match_528 : decode cL_match 528 = .ok (.ifCond .eq 29, 3) := by decide +kernel
theorem dL_match_531 : decode cL_match 531 = .ok (.aload 4, 2) := by decide +kernel
theorem dL_match_533 : decode cL_match 533 = .ok (.iconst 5, 1) := by decide +kernel
theorem dL_match_534 : decode cL_match 534 = .ok (.iload 7, 2) := by decide +kernel
theorem dL_match_536 : decode cL_match 536 = .ok (.imul, 1) := by decide +kernel
theorem dL_match_537 : decode cL_match 537 = .ok (.iload 10, 2) := by decide +kernel
theorem dL_match_539 : decode cL_match 539 = .ok (.iadd, 1) := by decide +kernel
theorem dL_match_540 : decode cL_match 540 = .ok (.aload 4, 2) := by decide +kernel
theorem dL_match_542 : decode cL_match 542 = .ok (.iconst 5, 1) := by decide +kernel
theorem dL_match_543 : decode cL_match 543 = .ok (.iload 8, 2) := by decide +kernel
theorem dL_match_545 : decode cL_match 545 = .ok (.imul, 1) := by decide +kernel
theorem dL_match_546 : decode cL_match 546 = .ok (.iload 10, 2) := by decide +kernel
theorem dL_match_548 : decode cL_match 548 = .ok (.iadd, 1) := by decide +kernel
theorem dL_match_549 : decode cL_match 549 = .ok (.iaload, 1) := by decide +kernel
theorem dL_match_550 : decode cL_match 550 = .ok (.iastore, 1) := by decide +kernel
theorem dL_match_551 : decode cL_match 551 = .ok (.iinc 10 1, 3) := by decide +kernel
theorem dL_match_554 : decode cL_match 554 = .ok (.goto (-34), 3) := by decide +kernel
theorem dL_match_557 : decode cL_match 557 = .ok (.iload 7, 2) := by decide +kernel
theorem dL_match_559 : decode cL_match 559 = .ok (.iload 9, 2) := by decide +kernel
theorem dL_match_561 : decode cL_match 561 = .ok (.ifCond .eq 7, 3) := by decide +kernel
theorem dL_match_564 : decode cL_match 564 = .ok (.iconst 1, 1) := by decide +kernel
theorem dL_match_565 : decode cL_match 565 = .ok (.goto 4, 3) := by decide +kernel
theorem dL_match_568 : decode cL_match 568 = .ok (.iconst 0, 1) := by decide +kernel
theorem dL_match_569 : decode cL_match 569 = .ok (.iadd, 1) := by decide +kernel
theorem dL_match_570 : decode cL_match 570 = .ok (.istore 7, 2) := by decide +kernel
theorem dL_match_572 : decode cL_match 572 = .ok (.iinc 8 1, 3) := by decide +kernel
theorem dL_match_575 : decode cL_match 575 = .ok (.goto (-85), 3) := by decide +kernel
theorem dL_match_578 : decode cL_match 578 = .ok (.aload_n 0, 1) := by decide +kernel
theorem dL_match_579 : decode cL_match 579 = .ok (.iconst 1, 1) := by decide +kernel
theorem dL_match_580 : decode cL_match 580 = .ok (.iload 7, 2) := by decide +kernel
theorem dL_match_582 : decode cL_match 582 = .ok (.iastore, 1) := by decide +kernel
theorem dL_match_583 : decode cL_match 583 = .ok (.aload_n 0, 1) := by decide +kernel
theorem dL_match_584 : decode cL_match 584 = .ok (.iconst 2, 1) := by decide +kernel
theorem dL_match_585 : decode cL_match 585 = .ok (.dup2, 1) := by decide +kernel
theorem dL_match_586 : decode cL_match 586 = .ok (.iaload, 1) := by decide +kernel
theorem dL_match_587 : decode cL_match 587 = .ok (.iload 5, 2) := by decide +kernel
theorem dL_match_589 : decode cL_match 589 = .ok (.iadd, 1) := by decide +kernel
theorem dL_match_590 : decode cL_match 590 = .ok (.iastore, 1) := by decide +kernel
theorem dL_match_591 : decode cL_match 591 = .ok (.iload 5, 2) := by decide +kernel
theorem dL_match_593 : decode cL_match 593 = .ok (.ireturn, 1) := by decide +kernel
theorem dL_same_0 : decode cL_same 0 = .ok (.iconst 0, 1) := by decide +kernel
theorem dL_same_1 : decode cL_same 1 = .ok (.istore 7, 2) := by decide +kernel
theorem dL_same_3 : decode cL_same 3 = .ok (.iload 7, 2) := by decide +kernel
theorem dL_same_5 : decode cL_same 5 = .ok (.iconst 4, 1) := by decide +kernel
theorem dL_same_6 : decode cL_same 6 = .ok (.if_icmp .ge 385, 3) := by decide +kernel
theorem dL_same_9 : decode cL_same 9 = .ok (.aload_n 0, 1) := by decide +kernel
theorem dL_same_10 : decode cL_same 10 = .ok (.iload 7, 2) := by decide +kernel
theorem dL_same_12 : decode cL_same 12 = .ok (.iconst 0, 1) := by decide +kernel
theorem dL_same_13 : decode cL_same 13 = .ok (.invokevirtual 24, 3) := by decide +kernel
theorem dL_same_16 : decode cL_same 16 = .ok (.aload_n 2, 1) := by decide +kernel
theorem dL_same_17 : decode cL_same 17 = .ok (.iconst 4, 1) := by decide +kernel
theorem dL_same_18 : decode cL_same 18 = .ok (.iload 7, 2) := by decide +kernel
theorem dL_same_20 : decode cL_same 20 = .ok (.imul, 1) := by decide +kernel
theorem dL_same_21 : decode cL_same 21 = .ok (.iaload, 1) := by decide +kernel
theorem dL_same_22 : decode cL_same 22 = .ok (.if_icmp .ne 60, 3) := by decide +kernel
theorem dL_same_25 : decode cL_same 25 = .ok (.aload_n 0, 1) := by decide +kernel
theorem dL_same_26 : decode cL_same 26 = .ok (.iload 7, 2) := by decide +kernel
theorem dL_same_28 : decode cL_same 28 = .ok (.iconst 1, 1) := by decide +kernel
theorem dL_same_29 : decode cL_same 29 = .ok (.invokevirtual 24, 3) := by decide +kernel
theorem dL_same_32 : decode cL_same 32 = .ok (.aload_n 2, 1) := by decide +kernel
theorem dL_same_33 : decode cL_same 33 = .ok (.iconst 4, 1) := by decide +kernel
theorem dL_same_34 : decode cL_same 34 = .ok (.iload 7, 2) := by decide +kernel
theorem dL_same_36 : decode cL_same 36 = .ok (.imul, 1) := by decide +kernel
theorem dL_same_37 : decode cL_same 37 = .ok (.iconst 1, 1) := by decide +kernel
theorem dL_same_38 : decode cL_same 38 = .ok (.iadd, 1) := by decide +kernel
theorem dL_same_39 : decode cL_same 39 = .ok (.iaload, 1) := by decide +kernel
theorem dL_same_40 : decode cL_same 40 = .ok (.if_icmp .ne 42, 3) := by decide +kernel
theorem dL_same_43 : decode cL_same 43 = .ok (.aload_n 0, 1) := by decide +kernel
theorem dL_same_44 : decode cL_same 44 = .ok (.iload 7, 2) := by decide +kernel
theorem dL_same_46 : decode cL_same 46 = .ok (.iconst 2, 1) := by decide +kernel
theorem dL_same_47 : decode cL_same 47 = .ok (.invokevirtual 24, 3) := by decide +kernel
theorem dL_same_50 : decode cL_same 50 = .ok (.aload_n 2, 1) := by decide +kernel
theorem dL_same_51 : decode cL_same 51 = .ok (.iconst 4, 1) := by decide +kernel
theorem dL_same_52 : decode cL_same 52 = .ok (.iload 7, 2) := by decide +kernel
theorem dL_same_54 : decode cL_same 54 = .ok (.imul, 1) := by decide +kernel
theorem dL_same_55 : decode cL_same 55 = .ok (.iconst 2, 1) := by decide +kernel
theorem dL_same_56 : decode cL_same 56 = .ok (.iadd, 1) := by decide +kernel
theorem dL_same_57 : decode cL_same 57 = .ok (.iaload, 1) := by decide +kernel
theorem dL_same_58 : decode cL_same 58 = .ok (.if_icmp .ne 24, 3) := by decide +kernel
theorem dL_same_61 : decode cL_same 61 = .ok (.aload_n 0, 1) := by decide +kernel
theorem dL_same_62 : decode cL_same 62 = .ok (.iload 7, 2) := by decide +kernel
theorem dL_same_64 : decode cL_same 64 = .ok (.iconst 3, 1) := by decide +kernel
theorem dL_same_65 : decode cL_same 65 = .ok (.invokevirtual 24, 3) := by decide +kernel
theorem dL_same_68 : decode cL_same 68 = .ok (.aload_n 2, 1) := by decide +kernel
theorem dL_same_69 : decode cL_same 69 = .ok (.iconst 4, 1) := by decide +kernel
theorem dL_same_70 : decode cL_same 70 = .ok (.iload 7, 2) := by decide +kernel
theorem dL_same_72 : decode cL_same 72 = .ok (.imul, 1) := by decide +kernel
theorem dL_same_73 : decode cL_same 73 = .ok (.iconst 3, 1) := by decide +kernel
theorem dL_same_74 : decode cL_same 74 = .ok (.iadd, 1) := by decide +kernel
theorem dL_same_75 : decode cL_same 75 = .ok (.iaload, 1) := by decide +kernel
theorem dL_same_76 : decode cL_same 76 = .ok (.ldc 30, 2) := by decide +kernel
theorem dL_same_78 : decode cL_same 78 = .ok (.iadd, 1) := by decide +kernel
theorem dL_same_79 : decode cL_same 79 = .ok (.if_icmp .eq 5, 3) := by decide +kernel
theorem dL_same_82 : decode cL_same 82 = .ok (.iconst 0, 1) := by decide +kernel
theorem dL_same_83 : decode cL_same 83 = .ok (.ireturn, 1) := by decide +kernel
theorem dL_same_84 : decode cL_same 84 = .ok (.iconst 0, 1) := by decide +kernel
theorem dL_same_85 : decode cL_same 85 = .ok (.istore 8, 2) := by decide +kernel
theorem dL_same_87 : decode cL_same 87 = .ok (.iload 8, 2) := by decide +kernel
theorem dL_same_89 : decode cL_same 89 = .ok (.iconst 3, 1) := by decide +kernel
theorem dL_same_90 : decode cL_same 90 = .ok (.if_icmp .ge 295, 3) := by decide +kernel
theorem dL_same_93 : decode cL_same 93 = .ok (.iload 8, 2) := by decide +kernel
theorem dL_same_95 : decode cL_same 95 = .ok (.invokestatic 31, 3) := by decide +kernel
theorem dL_same_98 : decode cL_same 98 = .ok (.istore 9, 2) := by decide +kernel
theorem dL_same_100 : decode cL_same 100 = .ok (.iload 8, 2) := by decide +kernel
theorem dL_same_102 : decode cL_same 102 = .ok (.ifCond .ne 7, 3) := by decide +kernel
theorem dL_same_105 : decode cL_same 105 = .ok (.iconst 1, 1) := by decide +kernel
theorem dL_same_106 : decode cL_same 106 = .ok (.goto 14, 3) := by decide +kernel
theorem dL_same_109 : decode cL_same 109 = .ok (.iload 8, 2) := by decide +kernel
theorem dL_same_111 : decode cL_same 111 = .ok (.iconst 1, 1) := by decide +kernel
theorem dL_same_112 : decode cL_same 112 = .ok (.if_icmp .ne 7, 3) := by decide +kernel
theorem dL_same_115 : decode cL_same 115 = .ok (.iconst 5, 1) := by decide +kernel
theorem dL_same_116 : decode cL_same 116 = .ok (.goto 4, 3) := by decide +kernel
theorem dL_same_119 : decode cL_same 119 = .ok (.iconst 3, 1) := by decide +kernel
theorem dL_same_120 : decode cL_same 120 = .ok (.istore 10, 2) := by decide +kernel
theorem dL_same_122 : decode cL_same 122 = .ok (.iload 7, 2) := by decide +kernel
theorem dL_same_124 : decode cL_same 124 = .ok (.aload_n 2, 1) := by decide +kernel
theorem dL_same_125 : decode cL_same 125 = .ok (.iconst 4, 1) := by decide +kernel
theorem dL_same_126 : decode cL_same 126 = .ok (.iload 7, 2) := by decide +kernel
theorem dL_same_128 : decode cL_same 128 = .ok (.imul, 1) := by decide +kernel
theorem dL_same_129 : decode cL_same 129 = .ok (.iconst 2, 1) := by decide +kernel
theorem dL_same_130 : decode cL_same 130 = .ok (.iadd, 1) := by decide +kernel
theorem dL_same_131 : decode cL_same 131 = .ok (.iaload, 1) := by decide +kernel
theorem dL_same_132 : decode cL_same 132 = .ok (.iload 8, 2) := by decide +kernel
theorem dL_same_134 : decode cL_same 134 = .ok (.aload_n 2, 1) := by decide +kernel
theorem dL_same_135 : decode cL_same 135 = .ok (.aload_n 3, 1) := by decide +kernel
theorem dL_same_136 : decode cL_same 136 = .ok (.aload 4, 2) := by decide +kernel
theorem dL_same_138 : decode cL_same 138 = .ok (.invokestatic 16, 3) := by decide +kernel
theorem dL_same_141 : decode cL_same 141 = .ok (.istore 11, 2) := by decide +kernel
theorem dL_same_143 : decode cL_same 143 = .ok (.iload 11, 2) := by decide +kernel
theorem dL_same_145 : decode cL_same 145 = .ok (.aload_n 2, 1) := by decide +kernel
theorem dL_same_146 : decode cL_same 146 = .ok (.iconst 4, 1) := by decide +kernel
theorem dL_same_147 : decode cL_same 147 = .ok (.iload 7, 2) := by decide +kernel
theorem dL_same_149 : decode cL_same 149 = .ok (.imul, 1) := by decide +kernel
theorem dL_same_150 : decode cL_same 150 = .ok (.iconst 1, 1) := by decide +kernel
theorem dL_same_151 : decode cL_same 151 = .ok (.iadd, 1) := by decide +kernel
theorem dL_same_152 : decode cL_same 152 = .ok (.iaload, 1) := by decide +kernel
theorem dL_same_153 : decode cL_same 153 = .ok (.imul, 1) := by decide +kernel
theorem dL_same_154 : decode cL_same 154 = .ok (.istore 12, 2) := by decide +kernel
theorem dL_same_156 : decode cL_same 156 = .ok (.iload 7, 2) := by decide +kernel
theorem dL_same_158 : decode cL_same 158 = .ok (.iload 8, 2) := by decide +kernel
theorem dL_same_160 : decode cL_same 160 = .ok (.aload_n 2, 1) := by decide +kernel
theorem dL_same_161 : decode cL_same 161 = .ok (.aload_n 3, 1) := by decide +kernel
theorem dL_same_162 : decode cL_same 162 = .ok (.aload 4, 2) := by decide +kernel
theorem dL_same_164 : decode cL_same 164 = .ok (.invokestatic 35, 3) := by decide +kernel
theorem dL_same_167 : decode cL_same 167 = .ok (.istore 13, 2) := by decide +kernel
theorem dL_same_169 : decode cL_same 169 = .ok (.aload_n 0, 1) := by decide +kernel
theorem dL_same_170 : decode cL_same 170 = .ok (.iload 7, 2) := by decide +kernel
theorem dL_same_172 : decode cL_same 172 = .ok (.iload 9, 2) := by decide +kernel
theorem dL_same_174 : decode cL_same 174 = .ok (.iconst 0, 1) := by decide +kernel
theorem dL_same_175 : decode cL_same 175 = .ok (.invokevirtual 38, 3) := by decide +kernel
theorem dL_same_178 : decode cL_same 178 = .ok (.iload 11, 2) := by decide +kernel
theorem dL_same_180 : decode cL_same 180 = .ok (.if_icmp .ne 83, 3) := by decide +kernel
theorem dL_same_183 : decode cL_same 183 = .ok (.aload_n 0, 1) := by decide +kernel
theorem dL_same_184 : decode cL_same 184 = .ok (.iload 7, 2) := by decide +kernel
theorem dL_same_186 : decode cL_same 186 = .ok (.iload 9, 2) := by decide +kernel
theorem dL_same_188 : decode cL_same 188 = .ok (.iconst 1, 1) := by decide +kernel
theorem dL_same_189 : decode cL_same 189 = .ok (.invokevirtual 38, 3) := by decide +kernel
theorem dL_same_192 : decode cL_same 192 = .ok (.iload 12, 2) := by decide +kernel
theorem dL_same_194 : decode cL_same 194 = .ok (.if_icmp .ne 69, 3) := by decide +kernel
theorem dL_same_197 : decode cL_same 197 = .ok (.aload_n 0, 1) := by decide +kernel
theorem dL_same_198 : decode cL_same 198 = .ok (.iload 7, 2) := by decide +kernel
theorem dL_same_200 : decode cL_same 200 = .ok (.iload 9, 2) := by decide +kernel
theorem dL_same_202 : decode cL_same 202 = .ok (.iconst 2, 1) := by decide +kernel
theorem dL_same_203 : decode cL_same 203 = .ok (.invokevirtual 38, 3) := by decide +kernel
theorem dL_same_206 : decode cL_same 206 = .ok (.iload 13, 2) := by decide +kernel
theorem dL_same_208 : decode cL_same 208 = .ok (.if_icmp .ne 55, 3) := by decide +kernel
theorem dL_same_211 : decode cL_same 211 = .ok (.aload_n 0, 1) := by decide +kernel
theorem dL_same_212 : decode cL_same 212 = .ok (.iload 7, 2) := by decide +kernel
theorem dL_same_214 : decode cL_same 214 = .ok (.iload 9, 2) := by decide +kernel
theorem dL_same_216 : decode cL_same 216 = .ok (.iconst 3, 1) := by decide +kernel
theorem dL_same_217 : decode cL_same 217 = .ok (.invokevirtual 38, 3) := by decide +kernel
theorem dL_same_220 : decode cL_same 220 = .ok (.iload 7, 2) := by decide +kernel
theorem dL_same_222 : decode cL_same 222 = .ok (.iload 8, 2) := by decide +kernel
theorem dL_same_224 : decode cL_same 224 = .ok (.aload_n 2, 1) := by decide +kernel
theorem dL_same_225 : decode cL_same 225 = .ok (.aload_n 3, 1) := by decide +kernel
theorem dL_same_226 : decode cL_same 226 = .ok (.aload 4, 2) := by decide +kernel
theorem dL_same_228 : decode cL_same 228 = .ok (.invokestatic 20, 3) := by decide +kernel
theorem dL_same_231 : decode cL_same 231 = .ok (.if_icmp .ne 32, 3) := by decide +kernel
theorem dL_same_234 : decode cL_same 234 = .ok (.aload_n 0, 1) := by decide +kernel
theorem dL_same_235 : decode cL_same 235 = .ok (.iload 7, 2) := by decide +kernel
theorem dL_same_237 : decode cL_same 237 = .ok (.iload 9, 2) := by decide +kernel
theorem dL_same_239 : decode cL_same 239 = .ok (.iconst 4, 1) := by decide +kernel
theorem dL_same_240 : decode cL_same 240 = .ok (.invokevirtual 38, 3) := by decide +kernel
theorem dL_same_243 : decode cL_same 243 = .ok (.iload 12, 2) := by decide +kernel
theorem dL_same_245 : decode cL_same 245 = .ok (.iload 13, 2) := by decide +kernel
theorem dL_same_247 : decode cL_same 247 = .ok (.isub, 1) := by decide +kernel
theorem dL_same_248 : decode cL_same 248 = .ok (.iload 10, 2) := by decide +kernel
theorem dL_same_250 : decode cL_same 250 = .ok (.imul, 1) := by decide +kernel
theorem dL_same_251 : decode cL_same 251 = .ok (.aload_n 2, 1) := by decide +kernel
theorem dL_same_252 : decode cL_same 252 = .ok (.iconst 4, 1) := by decide +kernel
theorem dL_same_253 : decode cL_same 253 = .ok (.iload 7, 2) := by decide +kernel
theorem dL_same_255 : decode cL_same 255 = .ok (.imul, 1) := by decide +kernel
theorem dL_same_256 : decode cL_same 256 = .ok (.iconst 1, 1) := by decide +kernel
theorem dL_same_257 : decode cL_same 257 = .ok (.iadd, 1) := by decide +kernel
theorem dL_same_258 : decode cL_same 258 = .ok (.iaload, 1) := by decide +kernel
theorem dL_same_259 : decode cL_same 259 = .ok (.iadd, 1) := by decide +kernel
theorem dL_same_260 : decode cL_same 260 = .ok (.if_icmp .eq 5, 3) := by decide +kernel
theorem dL_same_263 : decode cL_same 263 = .ok (.iconst 0, 1) := by decide +kernel
theorem dL_same_264 : decode cL_same 264 = .ok (.ireturn, 1) := by decide +kernel
theorem dL_same_265 : decode cL_same 265 = .ok (.iconst 0, 1) := by decide +kernel
theorem dL_same_266 : decode cL_same 266 = .ok (.istore 14, 2) := by decide +kernel
theorem dL_same_268 : decode cL_same 268 = .ok (.iload 14, 2) := by decide +kernel
theorem dL_same_270 : decode cL_same 270 = .ok (.iconst 4, 1) := by decide +kernel
theorem dL_same_271 : decode cL_same 271 = .ok (.if_icmp .ge 108, 3) := by decide +kernel
theorem dL_same_274 : decode cL_same 274 = .ok (.iload 14, 2) := by decide +kernel
theorem dL_same_276 : decode cL_same 276 = .ok (.iload 7, 2) := by decide +kernel
theorem dL_same_278 : decode cL_same 278 = .ok (.if_icmp .ne 6, 3) := by decide +kernel
theorem dL_same_281 : decode cL_same 281 = .ok (.goto 92, 3) := by decide +kernel
theorem dL_same_284 : decode cL_same 284 = .ok (.aload_n 0, 1) := by decide +kernel
theorem dL_same_285 : decode cL_same 285 = .ok (.iload 7, 2) := by decide +kernel
theorem dL_same_287 : decode cL_same 287 = .ok (.iload 14, 2) := by decide +kernel
theorem dL_same_289 : decode cL_same 289 = .ok (.iload 9, 2) := by decide +kernel
theorem dL_same_291 : decode cL_same 291 = .ok (.iconst 0, 1) := by decide +kernel
theorem dL_same_292 : decode cL_same 292 = .ok (.invokevirtual 42, 3) := by decide +kernel
theorem dL_same_295 : decode cL_same 295 = .ok (.aload_n 3, 1) := by decide +kernel
theorem dL_same_296 : decode cL_same 296 = .ok (.bipush 16, 2) := by decide +kernel
theorem dL_same_298 : decode cL_same 298 = .ok (.iload 8, 2) := by decide +kernel
theorem dL_same_300 : decode cL_same 300 = .ok (.imul, 1) := by decide +kernel
theorem dL_same_301 : decode cL_same 301 = .ok (.iconst 4, 1) := by decide +kernel
theorem dL_same_302 : decode cL_same 302 = .ok (.iload 7, 2) := by decide +kernel
theorem dL_same_304 : decode cL_same 304 = .ok (.imul, 1) := by decide +kernel
theorem dL_same_305 : decode cL_same 305 = .ok (.iadd, 1) := by decide +kernel
theorem dL_same_306 : decode cL_same 306 = .ok (.iload 14, 2) := by decide +kernel
theorem dL_same_308 : decode cL_same 308 = .ok (.iadd, 1) := by decide +kernel
theorem dL_same_309 : decode cL_same 309 = .ok (.iaload, 1) := by decide +kernel
theorem dL_same_310 : decode cL_same 310 = .ok (.if_icmp .ne 61, 3) := by decide +kernel
theorem dL_same_313 : decode cL_same 313 = .ok (.aload_n 0, 1) := by decide +kernel
theorem dL_same_314 : decode cL_same 314 = .ok (.iload 7, 2) := by decide +kernel
theorem dL_same_316 : decode cL_same 316 = .ok (.iload 14, 2) := by decide +kernel
theorem dL_same_318 : decode cL_same 318 = .ok (.iload 9, 2) := by decide +kernel
theorem dL_same_320 : decode cL_same 320 = .ok (.iconst 1, 1) := by decide +kernel
theorem dL_same_321 : decode cL_same 321 = .ok (.invokevirtual 42, 3) := by decide +kernel
theorem dL_same_324 : decode cL_same 324 = .ok (.iload 7, 2) := by decide +kernel
theorem dL_same_326 : decode cL_same 326 = .ok (.iload 11, 2) := by decide +kernel
theorem dL_same_328 : decode cL_same 328 = .ok (.iload 14, 2) := by decide +kernel
theorem dL_same_330 : decode cL_same 330 = .ok (.iload 8, 2) := by decide +kernel
theorem dL_same_332 : decode cL_same 332 = .ok (.aload_n 2, 1) := by decide +kernel
theorem dL_same_333 : decode cL_same 333 = .ok (.invokestatic 10, 3) := by decide +kernel
theorem dL_same_336 : decode cL_same 336 = .ok (.if_icmp .ne 35, 3) := by decide +kernel
theorem dL_same_339 : decode cL_same 339 = .ok (.aload_n 0, 1) := by decide +kernel
theorem dL_same_340 : decode cL_same 340 = .ok (.iload 7, 2) := by decide +kernel
theorem dL_same_342 : decode cL_same 342 = .ok (.iload 14, 2) := by decide +kernel
theorem dL_same_344 : decode cL_same 344 = .ok (.iload 9, 2) := by decide +kernel
theorem dL_same_346 : decode cL_same 346 = .ok (.iconst 2, 1) := by decide +kernel
theorem dL_same_347 : decode cL_same 347 = .ok (.invokevirtual 42, 3) := by decide +kernel
theorem dL_same_350 : decode cL_same 350 = .ok (.iload 7, 2) := by decide +kernel
theorem dL_same_352 : decode cL_same 352 = .ok (.aload_n 2, 1) := by decide +kernel
theorem dL_same_353 : decode cL_same 353 = .ok (.iconst 4, 1) := by decide +kernel
theorem dL_same_354 : decode cL_same 354 = .ok (.iload 7, 2) := by decide +kernel
theorem dL_same_356 : decode cL_same 356 = .ok (.imul, 1) := by decide +kernel
theorem dL_same_357 : decode cL_same 357 = .ok (.iconst 2, 1) := by decide +kernel
theorem dL_same_358 : decode cL_same 358 = .ok (.iadd, 1) := by decide +kernel
theorem dL_same_359 : decode cL_same 359 = .ok (.iaload, 1) := by decide +kernel
theorem dL_same_360 : decode cL_same 360 = .ok (.iload 14, 2) := by decide +kernel
theorem dL_same_362 : decode cL_same 362 = .ok (.iload 8, 2) := by decide +kernel
theorem dL_same_364 : decode cL_same 364 = .ok (.aload_n 2, 1) := by decide +kernel
theorem dL_same_365 : decode cL_same 365 = .ok (.invokestatic 10, 3) := by decide +kernel
theorem dL_same_368 : decode cL_same 368 = .ok (.if_icmp .eq 5, 3) := by decide +kernel
theorem dL_same_371 : decode cL_same 371 = .ok (.iconst 0, 1) := by decide +kernel
theorem dL_same_372 : decode cL_same 372 = .ok (.ireturn, 1) := by decide +kernel
theorem dL_same_373 : decode cL_same 373 = .ok (.iinc 14 1, 3) := by decide +kernel
theorem dL_same_376 : decode cL_same 376 = .ok (.goto (-108), 3) := by decide +kernel
theorem dL_same_379 : decode cL_same 379 = .ok (.iinc 8 1, 3) := by decide +kernel
theorem dL_same_382 : decode cL_same 382 = .ok (.goto (-295), 3) := by decide +kernel
theorem dL_same_385 : decode cL_same 385 = .ok (.iinc 7 1, 3) := by decide +kernel
theorem dL_same_388 : decode cL_same 388 = .ok (.goto (-385), 3) := by decide +kernel
theorem dL_same_391 : decode cL_same 391 = .ok (.iconst 0, 1) := by decide +kernel
theorem dL_same_392 : decode cL_same 392 = .ok (.istore 7, 2) := by decide +kernel
theorem dL_same_394 : decode cL_same 394 = .ok (.iload 7, 2) := by decide +kernel
theorem dL_same_396 : decode cL_same 396 = .ok (.aload_n 1, 1) := by decide +kernel
theorem dL_same_397 : decode cL_same 397 = .ok (.iconst 0, 1) := by decide +kernel
theorem dL_same_398 : decode cL_same 398 = .ok (.iaload, 1) := by decide +kernel
theorem dL_same_399 : decode cL_same 399 = .ok (.if_icmp .ge 105, 3) := by decide +kernel
theorem dL_same_402 : decode cL_same 402 = .ok (.aload_n 0, 1) := by decide +kernel
theorem dL_same_403 : decode cL_same 403 = .ok (.iconst 0, 1) := by decide +kernel
theorem dL_same_404 : decode cL_same 404 = .ok (.iload 7, 2) := by decide +kernel
theorem dL_same_406 : decode cL_same 406 = .ok (.iconst 0, 1) := by decide +kernel
theorem dL_same_407 : decode cL_same 407 = .ok (.invokevirtual 46, 3) := by decide +kernel
theorem dL_same_410 : decode cL_same 410 = .ok (.aload 5, 2) := by decide +kernel
theorem dL_same_412 : decode cL_same 412 = .ok (.iconst 4, 1) := by decide +kernel
theorem dL_same_413 : decode cL_same 413 = .ok (.iload 7, 2) := by decide +kernel
theorem dL_same_415 : decode cL_same 415 = .ok (.imul, 1) := by decide +kernel
theorem dL_same_416 : decode cL_same 416 = .ok (.iaload, 1) := by decide +kernel
theorem dL_same_417 : decode cL_same 417 = .ok (.if_icmp .ne 79, 3) := by decide +kernel
theorem dL_same_420 : decode cL_same 420 = .ok (.aload_n 0, 1) := by decide +kernel
theorem dL_same_421 : decode cL_same 421 = .ok (.iconst 0, 1) := by decide +kernel
theorem dL_same_422 : decode cL_same 422 = .ok (.iload 7, 2) := by decide +kernel
theorem dL_same_424 : decode cL_same 424 = .ok (.iconst 1, 1) := by decide +kernel
theorem dL_same_425 : decode cL_same 425 = .ok (.invokevirtual 46, 3) := by decide +kernel
theorem dL_same_428 : decode cL_same 428 = .ok (.aload 5, 2) := by decide +kernel
theorem dL_same_430 : decode cL_same 430 = .ok (.iconst 4, 1) := by decide +kernel
theorem dL_same_431 : decode cL_same 431 = .ok (.iload 7, 2) := by decide +kernel
theorem dL_same_433 : decode cL_same 433 = .ok (.imul, 1) := by decide +kernel
theorem dL_same_434 : decode cL_same 434 = .ok (.iconst 1, 1) := by decide +kernel
theorem dL_same_435 : decode cL_same 435 = .ok (.iadd, 1) := by decide +kernel
theorem dL_same_436 : decode cL_same 436 = .ok (.iaload, 1) := by decide +kernel
theorem dL_same_437 : decode cL_same 437 = .ok (.invokestatic 31, 3) := by decide +kernel
theorem dL_same_440 : decode cL_same 440 = .ok (.if_icmp .ne 56, 3) := by decide +kernel
theorem dL_same_443 : decode cL_same 443 = .ok (.aload_n 0, 1) := by decide +kernel
theorem dL_same_444 : decode cL_same 444 = .ok (.iconst 0, 1) := by decide +kernel
theorem dL_same_445 : decode cL_same 445 = .ok (.iload 7, 2) := by decide +kernel
theorem dL_same_447 : decode cL_same 447 = .ok (.iconst 2, 1) := by decide +kernel
theorem dL_same_448 : decode cL_same 448 = .ok (.invokevirtual 46, 3) := by decide +kernel
theorem dL_same_451 : decode cL_same 451 = .ok (.aload 5, 2) := by decide +kernel
theorem dL_same_453 : decode cL_same 453 = .ok (.iconst 4, 1) := by decide +kernel
theorem dL_same_454 : decode cL_same 454 = .ok (.iload 7, 2) := by decide +kernel
theorem dL_same_456 : decode cL_same 456 = .ok (.imul, 1) := by decide +kernel
theorem dL_same_457 : decode cL_same 457 = .ok (.iconst 2, 1) := by decide +kernel
theorem dL_same_458 : decode cL_same 458 = .ok (.iadd, 1) := by decide +kernel
theorem dL_same_459 : decode cL_same 459 = .ok (.iaload, 1) := by decide +kernel
theorem dL_same_460 : decode cL_same 460 = .ok (.if_icmp .ne 36, 3) := by decide +kernel
theorem dL_same_463 : decode cL_same 463 = .ok (.aload_n 0, 1) := by decide +kernel
theorem dL_same_464 : decode cL_same 464 = .ok (.iconst 0, 1) := by decide +kernel
theorem dL_same_465 : decode cL_same 465 = .ok (.iload 7, 2) := by decide +kernel
theorem dL_same_467 : decode cL_same 467 = .ok (.iconst 3, 1) := by decide +kernel
theorem dL_same_468 : decode cL_same 468 = .ok (.invokevirtual 46, 3) := by decide +kernel
theorem dL_same_471 : decode cL_same 471 = .ok (.aload 5, 2) := by decide +kernel
theorem dL_same_473 : decode cL_same 473 = .ok (.iconst 4, 1) := by decide +kernel
theorem dL_same_474 : decode cL_same 474 = .ok (.iload 7, 2) := by decide +kernel
theorem dL_same_476 : decode cL_same 476 = .ok (.imul, 1) := by decide +kernel
theorem dL_same_477 : decode cL_same 477 = .ok (.iconst 3, 1) := by decide +kernel
theorem dL_same_478 : decode cL_same 478 = .ok (.iadd, 1) := by decide +kernel
theorem dL_same_479 : decode cL_same 479 = .ok (.iaload, 1) := by decide +kernel
theorem dL_same_480 : decode cL_same 480 = .ok (.if_icmp .ne 16, 3) := by decide +kernel
theorem dL_same_483 : decode cL_same 483 = .ok (.aload_n 0, 1) := by decide +kernel
theorem dL_same_484 : decode cL_same 484 = .ok (.iconst 0, 1) := by decide +kernel
theorem dL_same_485 : decode cL_same 485 = .ok (.iload 7, 2) := by decide +kernel
theorem dL_same_487 : decode cL_same 487 = .ok (.iconst 4, 1) := by decide +kernel
theorem dL_same_488 : decode cL_same 488 = .ok (.invokevirtual 46, 3) := by decide +kernel
theorem dL_same_491 : decode cL_same 491 = .ok (.bipush (-6), 2) := by decide +kernel
theorem dL_same_493 : decode cL_same 493 = .ok (.if_icmp .eq 5, 3) := by decide +kernel
theorem dL_same_496 : decode cL_same 496 = .ok (.iconst 0, 1) := by decide +kernel
theorem dL_same_497 : decode cL_same 497 = .ok (.ireturn, 1) := by decide +kernel
theorem dL_same_498 : decode cL_same 498 = .ok (.iinc 7 1, 3) := by decide +kernel
theorem dL_same_501 : decode cL_same 501 = .ok (.goto (-107), 3) := by decide +kernel
theorem dL_same_504 : decode cL_same 504 = .ok (.iconst 0, 1) := by decide +kernel
theorem dL_same_505 : decode cL_same 505 = .ok (.istore 7, 2) := by decide +kernel
theorem dL_same_507 : decode cL_same 507 = .ok (.iload 7, 2) := by decide +kernel
theorem dL_same_509 : decode cL_same 509 = .ok (.aload_n 1, 1) := by decide +kernel
theorem dL_same_510 : decode cL_same 510 = .ok (.iconst 1, 1) := by decide +kernel
theorem dL_same_511 : decode cL_same 511 = .ok (.iaload, 1) := by decide +kernel
theorem dL_same_512 : decode cL_same 512 = .ok (.if_icmp .ge 112, 3) := by decide +kernel
theorem dL_same_515 : decode cL_same 515 = .ok (.aload_n 0, 1) := by decide +kernel
theorem dL_same_516 : decode cL_same 516 = .ok (.iconst 1, 1) := by decide +kernel
theorem dL_same_517 : decode cL_same 517 = .ok (.iload 7, 2) := by decide +kernel
theorem dL_same_519 : decode cL_same 519 = .ok (.iconst 0, 1) := by decide +kernel
theorem dL_same_520 : decode cL_same 520 = .ok (.invokevirtual 46, 3) := by decide +kernel
theorem dL_same_523 : decode cL_same 523 = .ok (.aload 6, 2) := by decide +kernel
theorem dL_same_525 : decode cL_same 525 = .ok (.iconst 5, 1) := by decide +kernel
theorem dL_same_526 : decode cL_same 526 = .ok (.iload 7, 2) := by decide +kernel
theorem dL_same_528 : decode cL_same 528 = .ok (.imul, 1) := by decide +kernel
theorem dL_same_529 : decode cL_same 529 = .ok (.iaload, 1) := by decide +kernel
theorem dL_same_530 : decode cL_same 530 = .ok (.if_icmp .ne 86, 3) := by decide +kernel
theorem dL_same_533 : decode cL_same 533 = .ok (.aload_n 0, 1) := by decide +kernel
theorem dL_same_534 : decode cL_same 534 = .ok (.iconst 1, 1) := by decide +kernel
theorem dL_same_535 : decode cL_same 535 = .ok (.iload 7, 2) := by decide +kernel
theorem dL_same_537 : decode cL_same 537 = .ok (.iconst 1, 1) := by decide +kernel
theorem dL_same_538 : decode cL_same 538 = .ok (.invokevirtual 46, 3) := by decide +kernel
theorem dL_same_541 : decode cL_same 541 = .ok (.aload 6, 2) := by decide +kernel
theorem dL_same_543 : decode cL_same 543 = .ok (.iconst 5, 1) := by decide +kernel
theorem dL_same_544 : decode cL_same 544 = .ok (.iload 7, 2) := by decide +kernel
theorem dL_same_546 : decode cL_same 546 = .ok (.imul, 1) := by decide +kernel
theorem dL_same_547 : decode cL_same 547 = .ok (.iconst 1, 1) := by decide +kernel
theorem dL_same_548 : decode cL_same 548 = .ok (.iadd, 1) := by decide +kernel
theorem dL_same_549 : decode cL_same 549 = .ok (.iaload, 1) := by decide +kernel
theorem dL_same_550 : decode cL_same 550 = .ok (.invokestatic 31, 3) := by decide +kernel
theorem dL_same_553 : decode cL_same 553 = .ok (.if_icmp .ne 63, 3) := by decide +kernel
theorem dL_same_556 : decode cL_same 556 = .ok (.aload_n 0, 1) := by decide +kernel
theorem dL_same_557 : decode cL_same 557 = .ok (.iconst 1, 1) := by decide +kernel
theorem dL_same_558 : decode cL_same 558 = .ok (.iload 7, 2) := by decide +kernel
theorem dL_same_560 : decode cL_same 560 = .ok (.iconst 2, 1) := by decide +kernel
theorem dL_same_561 : decode cL_same 561 = .ok (.invokevirtual 46, 3) := by decide +kernel
theorem dL_same_564 : decode cL_same 564 = .ok (.aload 6, 2) := by decide +kernel
theorem dL_same_566 : decode cL_same 566 = .ok (.iconst 5, 1) := by decide +kernel
theorem dL_same_567 : decode cL_same 567 = .ok (.iload 7, 2) := by decide +kernel
theorem dL_same_569 : decode cL_same 569 = .ok (.imul, 1) := by decide +kernel
theorem dL_same_570 : decode cL_same 570 = .ok (.iconst 2, 1) := by decide +kernel
theorem dL_same_571 : decode cL_same 571 = .ok (.iadd, 1) := by decide +kernel
theorem dL_same_572 : decode cL_same 572 = .ok (.iaload, 1) := by decide +kernel
theorem dL_same_573 : decode cL_same 573 = .ok (.if_icmp .ne 43, 3) := by decide +kernel
theorem dL_same_576 : decode cL_same 576 = .ok (.aload_n 0, 1) := by decide +kernel
theorem dL_same_577 : decode cL_same 577 = .ok (.iconst 1, 1) := by decide +kernel
theorem dL_same_578 : decode cL_same 578 = .ok (.iload 7, 2) := by decide +kernel
theorem dL_same_580 : decode cL_same 580 = .ok (.iconst 3, 1) := by decide +kernel
theorem dL_same_581 : decode cL_same 581 = .ok (.invokevirtual 46, 3) := by decide +kernel
theorem dL_same_584 : decode cL_same 584 = .ok (.aload 6, 2) := by decide +kernel
theorem dL_same_586 : decode cL_same 586 = .ok (.iconst 5, 1) := by decide +kernel
theorem dL_same_587 : decode cL_same 587 = .ok (.iload 7, 2) := by decide +kernel
theorem dL_same_589 : decode cL_same 589 = .ok (.imul, 1) := by decide +kernel
theorem dL_same_590 : decode cL_same 590 = .ok (.iconst 3, 1) := by decide +kernel
theorem dL_same_591 : decode cL_same 591 = .ok (.iadd, 1) := by decide +kernel
theorem dL_same_592 : decode cL_same 592 = .ok (.iaload, 1) := by decide +kernel
theorem dL_same_593 : decode cL_same 593 = .ok (.if_icmp .ne 23, 3) := by decide +kernel
theorem dL_same_596 : decode cL_same 596 = .ok (.aload_n 0, 1) := by decide +kernel
theorem dL_same_597 : decode cL_same 597 = .ok (.iconst 1, 1) := by decide +kernel
theorem dL_same_598 : decode cL_same 598 = .ok (.iload 7, 2) := by decide +kernel
theorem dL_same_600 : decode cL_same 600 = .ok (.iconst 4, 1) := by decide +kernel
theorem dL_same_601 : decode cL_same 601 = .ok (.invokevirtual 46, 3) := by decide +kernel
theorem dL_same_604 : decode cL_same 604 = .ok (.aload 6, 2) := by decide +kernel
theorem dL_same_606 : decode cL_same 606 = .ok (.iconst 5, 1) := by decide +kernel
theorem dL_same_607 : decode cL_same 607 = .ok (.iload 7, 2) := by decide +kernel
theorem dL_same_609 : decode cL_same 609 = .ok (.imul, 1) := by decide +kernel
theorem dL_same_610 : decode cL_same 610 = .ok (.iconst 4, 1) := by decide +kernel
theorem dL_same_611 : decode cL_same 611 = .ok (.iadd, 1) := by decide +kernel
theorem dL_same_612 : decode cL_same 612 = .ok (.iaload, 1) := by decide +kernel
theorem dL_same_613 : decode cL_same 613 = .ok (.if_icmp .eq 5, 3) := by decide +kernel
theorem dL_same_616 : decode cL_same 616 = .ok (.iconst 0, 1) := by decide +kernel
theorem dL_same_617 : decode cL_same 617 = .ok (.ireturn, 1) := by decide +kernel
theorem dL_same_618 : decode cL_same 618 = .ok (.iinc 7 1, 3) := by decide +kernel
theorem dL_same_621 : decode cL_same 621 = .ok (.goto (-114), 3) := by decide +kernel
theorem dL_same_624 : decode cL_same 624 = .ok (.iconst 0, 1) := by decide +kernel
theorem dL_same_625 : decode cL_same 625 = .ok (.istore 7, 2) := by decide +kernel
theorem dL_same_627 : decode cL_same 627 = .ok (.iconst 0, 1) := by decide +kernel
theorem dL_same_628 : decode cL_same 628 = .ok (.istore 8, 2) := by decide +kernel
theorem dL_same_630 : decode cL_same 630 = .ok (.iload 8, 2) := by decide +kernel
theorem dL_same_632 : decode cL_same 632 = .ok (.iconst 4, 1) := by decide +kernel
theorem dL_same_633 : decode cL_same 633 = .ok (.if_icmp .ge 21, 3) := by decide +kernel
theorem dL_same_636 : decode cL_same 636 = .ok (.iload 7, 2) := by decide +kernel
theorem dL_same_638 : decode cL_same 638 = .ok (.aload_n 0, 1) := by decide +kernel
theorem dL_same_639 : decode cL_same 639 = .ok (.iload 8, 2) := by decide +kernel
theorem dL_same_641 : decode cL_same 641 = .ok (.iconst 4, 1) := by decide +kernel
theorem dL_same_642 : decode cL_same 642 = .ok (.invokevirtual 24, 3) := by decide +kernel
theorem dL_same_645 : decode cL_same 645 = .ok (.iadd, 1) := by decide +kernel
theorem dL_same_646 : decode cL_same 646 = .ok (.istore 7, 2) := by decide +kernel
theorem dL_same_648 : decode cL_same 648 = .ok (.iinc 8 1, 3) := by decide +kernel
theorem dL_same_651 : decode cL_same 651 = .ok (.goto (-21), 3) := by decide +kernel
theorem dL_same_654 : decode cL_same 654 = .ok (.aload_n 0, 1) := by decide +kernel
theorem dL_same_655 : decode cL_same 655 = .ok (.iconst 0, 1) := by decide +kernel
theorem dL_same_656 : decode cL_same 656 = .ok (.invokevirtual 49, 3) := by decide +kernel
theorem dL_same_659 : decode cL_same 659 = .ok (.iconst 4, 1) := by decide +kernel
theorem dL_same_660 : decode cL_same 660 = .ok (.if_icmp .ne 75, 3) := by decide +kernel
theorem dL_same_663 : decode cL_same 663 = .ok (.aload_n 0, 1) := by decide +kernel
theorem dL_same_664 : decode cL_same 664 = .ok (.iconst 1, 1) := by decide +kernel
theorem dL_same_665 : decode cL_same 665 = .ok (.invokevirtual 49, 3) := by decide +kernel
theorem dL_same_668 : decode cL_same 668 = .ok (.aload_n 1, 1) := by decide +kernel
theorem dL_same_669 : decode cL_same 669 = .ok (.iconst 0, 1) := by decide +kernel
theorem dL_same_670 : decode cL_same 670 = .ok (.iaload, 1) := by decide +kernel
theorem dL_same_671 : decode cL_same 671 = .ok (.if_icmp .ne 64, 3) := by decide +kernel
theorem dL_same_674 : decode cL_same 674 = .ok (.aload_n 0, 1) := by decide +kernel
theorem dL_same_675 : decode cL_same 675 = .ok (.iconst 2, 1) := by decide +kernel
theorem dL_same_676 : decode cL_same 676 = .ok (.invokevirtual 49, 3) := by decide +kernel
theorem dL_same_679 : decode cL_same 679 = .ok (.aload_n 1, 1) := by decide +kernel
theorem dL_same_680 : decode cL_same 680 = .ok (.iconst 1, 1) := by decide +kernel
theorem dL_same_681 : decode cL_same 681 = .ok (.iaload, 1) := by decide +kernel
theorem dL_same_682 : decode cL_same 682 = .ok (.if_icmp .ne 53, 3) := by decide +kernel
theorem dL_same_685 : decode cL_same 685 = .ok (.aload_n 0, 1) := by decide +kernel
theorem dL_same_686 : decode cL_same 686 = .ok (.iconst 3, 1) := by decide +kernel
theorem dL_same_687 : decode cL_same 687 = .ok (.invokevirtual 49, 3) := by decide +kernel
theorem dL_same_690 : decode cL_same 690 = .ok (.iload 7, 2) := by decide +kernel
theorem dL_same_692 : decode cL_same 692 = .ok (.if_icmp .ne 43, 3) := by decide +kernel
theorem dL_same_695 : decode cL_same 695 = .ok (.aload_n 0, 1) := by decide +kernel
theorem dL_same_696 : decode cL_same 696 = .ok (.iconst 4, 1) := by decide +kernel
theorem dL_same_697 : decode cL_same 697 = .ok (.invokevirtual 49, 3) := by decide +kernel
theorem dL_same_700 : decode cL_same 700 = .ok (.aload_n 1, 1) := by decide +kernel
theorem dL_same_701 : decode cL_same 701 = .ok (.iconst 2, 1) := by decide +kernel
theorem dL_same_702 : decode cL_same 702 = .ok (.iaload, 1) := by decide +kernel
theorem dL_same_703 : decode cL_same 703 = .ok (.if_icmp .ne 32, 3) := by decide +kernel
theorem dL_same_706 : decode cL_same 706 = .ok (.aload_n 0, 1) := by decide +kernel
theorem dL_same_707 : decode cL_same 707 = .ok (.iconst 5, 1) := by decide +kernel
theorem dL_same_708 : decode cL_same 708 = .ok (.invokevirtual 49, 3) := by decide +kernel
theorem dL_same_711 : decode cL_same 711 = .ok (.aload 4, 2) := by decide +kernel
theorem dL_same_713 : decode cL_same 713 = .ok (.iconst 3, 1) := by decide +kernel
theorem dL_same_714 : decode cL_same 714 = .ok (.iaload, 1) := by decide +kernel
theorem dL_same_715 : decode cL_same 715 = .ok (.if_icmp .ne 20, 3) := by decide +kernel
theorem dL_same_718 : decode cL_same 718 = .ok (.aload_n 0, 1) := by decide +kernel
theorem dL_same_719 : decode cL_same 719 = .ok (.iconst 0, 1) := by decide +kernel
theorem dL_same_720 : decode cL_same 720 = .ok (.aload_n 1, 1) := by decide +kernel
theorem dL_same_721 : decode cL_same 721 = .ok (.iconst 0, 1) := by decide +kernel
theorem dL_same_722 : decode cL_same 722 = .ok (.iaload, 1) := by decide +kernel
theorem dL_same_723 : decode cL_same 723 = .ok (.iconst 0, 1) := by decide +kernel
theorem dL_same_724 : decode cL_same 724 = .ok (.invokevirtual 46, 3) := by decide +kernel
theorem dL_same_727 : decode cL_same 727 = .ok (.iconst (-1), 1) := by decide +kernel
theorem dL_same_728 : decode cL_same 728 = .ok (.if_icmp .ne 7, 3) := by decide +kernel
theorem dL_same_731 : decode cL_same 731 = .ok (.iconst 1, 1) := by decide +kernel
theorem dL_same_732 : decode cL_same 732 = .ok (.goto 4, 3) := by decide +kernel
theorem dL_same_735 : decode cL_same 735 = .ok (.iconst 0, 1) := by decide +kernel
theorem dL_same_736 : decode cL_same 736 = .ok (.ireturn, 1) := by decide +kernel
theorem dL_would_0 : decode cL_would 0 = .ok (.aload_n 0, 1) := by decide +kernel
theorem dL_would_1 : decode cL_would 1 = .ok (.iload_n 1, 1) := by decide +kernel
theorem dL_would_2 : decode cL_would 2 = .ok (.iconst 4, 1) := by decide +kernel
theorem dL_would_3 : decode cL_would 3 = .ok (.invokevirtual 24, 3) := by decide +kernel
theorem dL_would_6 : decode cL_would 6 = .ok (.istore 5, 2) := by decide +kernel
theorem dL_would_8 : decode cL_would 8 = .ok (.aload_n 0, 1) := by decide +kernel
theorem dL_would_9 : decode cL_would 9 = .ok (.iload_n 2, 1) := by decide +kernel
theorem dL_would_10 : decode cL_would 10 = .ok (.iconst 4, 1) := by decide +kernel
theorem dL_would_11 : decode cL_would 11 = .ok (.invokevirtual 24, 3) := by decide +kernel
theorem dL_would_14 : decode cL_would 14 = .ok (.istore 6, 2) := by decide +kernel
theorem dL_would_16 : decode cL_would 16 = .ok (.aload_n 0, 1) := by decide +kernel
theorem dL_would_17 : decode cL_would 17 = .ok (.iconst 3, 1) := by decide +kernel
theorem dL_would_18 : decode cL_would 18 = .ok (.invokevirtual 49, 3) := by decide +kernel
theorem dL_would_21 : decode cL_would 21 = .ok (.istore 7, 2) := by decide +kernel
theorem dL_would_23 : decode cL_would 23 = .ok (.aload_n 0, 1) := by decide +kernel
theorem dL_would_24 : decode cL_would 24 = .ok (.iload_n 1, 1) := by decide +kernel
theorem dL_would_25 : decode cL_would 25 = .ok (.iload_n 2, 1) := by decide +kernel
theorem dL_would_26 : decode cL_would 26 = .ok (.iload_n 3, 1) := by decide +kernel
theorem dL_would_27 : decode cL_would 27 = .ok (.iload 4, 2) := by decide +kernel
theorem dL_would_29 : decode cL_would 29 = .ok (.iconst 0, 1) := by decide +kernel
theorem dL_would_30 : decode cL_would 30 = .ok (.invokevirtual 52, 3) := by decide +kernel
theorem dL_would_33 : decode cL_would 33 = .ok (.ldc 56, 2) := by decide +kernel
theorem dL_would_35 : decode cL_would 35 = .ok (.isub, 1) := by decide +kernel
theorem dL_would_36 : decode cL_would 36 = .ok (.istore 8, 2) := by decide +kernel
theorem dL_would_38 : decode cL_would 38 = .ok (.aload_n 0, 1) := by decide +kernel
theorem dL_would_39 : decode cL_would 39 = .ok (.iload_n 1, 1) := by decide +kernel
theorem dL_would_40 : decode cL_would 40 = .ok (.iload_n 2, 1) := by decide +kernel
theorem dL_would_41 : decode cL_would 41 = .ok (.iload_n 3, 1) := by decide +kernel
theorem dL_would_42 : decode cL_would 42 = .ok (.iload 4, 2) := by decide +kernel
theorem dL_would_44 : decode cL_would 44 = .ok (.iconst 1, 1) := by decide +kernel
theorem dL_would_45 : decode cL_would 45 = .ok (.invokevirtual 52, 3) := by decide +kernel
theorem dL_would_48 : decode cL_would 48 = .ok (.ldc 56, 2) := by decide +kernel
theorem dL_would_50 : decode cL_would 50 = .ok (.isub, 1) := by decide +kernel
theorem dL_would_51 : decode cL_would 51 = .ok (.istore 9, 2) := by decide +kernel
theorem dL_would_53 : decode cL_would 53 = .ok (.aload_n 0, 1) := by decide +kernel
theorem dL_would_54 : decode cL_would 54 = .ok (.iload_n 1, 1) := by decide +kernel
theorem dL_would_55 : decode cL_would 55 = .ok (.iload_n 2, 1) := by decide +kernel
theorem dL_would_56 : decode cL_would 56 = .ok (.iload_n 3, 1) := by decide +kernel
theorem dL_would_57 : decode cL_would 57 = .ok (.iload 4, 2) := by decide +kernel
theorem dL_would_59 : decode cL_would 59 = .ok (.iconst 2, 1) := by decide +kernel
theorem dL_would_60 : decode cL_would 60 = .ok (.invokevirtual 52, 3) := by decide +kernel
theorem dL_would_63 : decode cL_would 63 = .ok (.ldc 56, 2) := by decide +kernel
theorem dL_would_65 : decode cL_would 65 = .ok (.isub, 1) := by decide +kernel
theorem dL_would_66 : decode cL_would 66 = .ok (.istore 10, 2) := by decide +kernel
theorem dL_would_68 : decode cL_would 68 = .ok (.aload_n 0, 1) := by decide +kernel
theorem dL_would_69 : decode cL_would 69 = .ok (.iload_n 1, 1) := by decide +kernel
theorem dL_would_70 : decode cL_would 70 = .ok (.iload_n 2, 1) := by decide +kernel
theorem dL_would_71 : decode cL_would 71 = .ok (.iload_n 3, 1) := by decide +kernel
theorem dL_would_72 : decode cL_would 72 = .ok (.iload 4, 2) := by decide +kernel
theorem dL_would_74 : decode cL_would 74 = .ok (.invokevirtual 57, 3) := by decide +kernel
theorem dL_would_77 : decode cL_would 77 = .ok (.ifCond .lt 51, 3) := by decide +kernel
theorem dL_would_80 : decode cL_would 80 = .ok (.aload_n 0, 1) := by decide +kernel
theorem dL_would_81 : decode cL_would 81 = .ok (.iload_n 1, 1) := by decide +kernel
theorem dL_would_82 : decode cL_would 82 = .ok (.iconst 4, 1) := by decide +kernel
theorem dL_would_83 : decode cL_would 83 = .ok (.invokevirtual 24, 3) := by decide +kernel
theorem dL_would_86 : decode cL_would 86 = .ok (.iload 5, 2) := by decide +kernel
theorem dL_would_88 : decode cL_would 88 = .ok (.iload 8, 2) := by decide +kernel
theorem dL_would_90 : decode cL_would 90 = .ok (.iadd, 1) := by decide +kernel
theorem dL_would_91 : decode cL_would 91 = .ok (.if_icmp .ne 37, 3) := by decide +kernel
theorem dL_would_94 : decode cL_would 94 = .ok (.aload_n 0, 1) := by decide +kernel
theorem dL_would_95 : decode cL_would 95 = .ok (.iload_n 2, 1) := by decide +kernel
theorem dL_would_96 : decode cL_would 96 = .ok (.iconst 4, 1) := by decide +kernel
theorem dL_would_97 : decode cL_would 97 = .ok (.invokevirtual 24, 3) := by decide +kernel
theorem dL_would_100 : decode cL_would 100 = .ok (.iload 6, 2) := by decide +kernel
theorem dL_would_102 : decode cL_would 102 = .ok (.iload 9, 2) := by decide +kernel
theorem dL_would_104 : decode cL_would 104 = .ok (.isub, 1) := by decide +kernel
theorem dL_would_105 : decode cL_would 105 = .ok (.if_icmp .ne 23, 3) := by decide +kernel
theorem dL_would_108 : decode cL_would 108 = .ok (.aload_n 0, 1) := by decide +kernel
theorem dL_would_109 : decode cL_would 109 = .ok (.iconst 3, 1) := by decide +kernel
theorem dL_would_110 : decode cL_would 110 = .ok (.invokevirtual 49, 3) := by decide +kernel
theorem dL_would_113 : decode cL_would 113 = .ok (.iload 7, 2) := by decide +kernel
theorem dL_would_115 : decode cL_would 115 = .ok (.iload 10, 2) := by decide +kernel
theorem dL_would_117 : decode cL_would 117 = .ok (.iadd, 1) := by decide +kernel
theorem dL_would_118 : decode cL_would 118 = .ok (.if_icmp .ne 10, 3) := by decide +kernel
theorem dL_would_121 : decode cL_would 121 = .ok (.aload_n 0, 1) := by decide +kernel
theorem dL_would_122 : decode cL_would 122 = .ok (.invokevirtual 60, 3) := by decide +kernel
theorem dL_would_125 : decode cL_would 125 = .ok (.ifCond .ge 5, 3) := by decide +kernel
theorem dL_would_128 : decode cL_would 128 = .ok (.iconst 0, 1) := by decide +kernel
theorem dL_would_129 : decode cL_would 129 = .ok (.ireturn, 1) := by decide +kernel
theorem dL_would_130 : decode cL_would 130 = .ok (.aload_n 0, 1) := by decide +kernel
theorem dL_would_131 : decode cL_would 131 = .ok (.iload_n 1, 1) := by decide +kernel
theorem dL_would_132 : decode cL_would 132 = .ok (.iconst 0, 1) := by decide +kernel
theorem dL_would_133 : decode cL_would 133 = .ok (.invokevirtual 64, 3) := by decide +kernel
theorem dL_would_136 : decode cL_would 136 = .ok (.istore 11, 2) := by decide +kernel
theorem dL_would_138 : decode cL_would 138 = .ok (.aload_n 0, 1) := by decide +kernel
theorem dL_would_139 : decode cL_would 139 = .ok (.iload_n 1, 1) := by decide +kernel
theorem dL_would_140 : decode cL_would 140 = .ok (.iconst 1, 1) := by decide +kernel
theorem dL_would_141 : decode cL_would 141 = .ok (.invokevirtual 64, 3) := by decide +kernel
theorem dL_would_144 : decode cL_would 144 = .ok (.istore 12, 2) := by decide +kernel
theorem dL_would_146 : decode cL_would 146 = .ok (.iconst 0, 1) := by decide +kernel
theorem dL_would_147 : decode cL_would 147 = .ok (.istore 13, 2) := by decide +kernel
theorem dL_would_149 : decode cL_would 149 = .ok (.iload 13, 2) := by decide +kernel
theorem dL_would_151 : decode cL_would 151 = .ok (.iconst 5, 1) := by decide +kernel
theorem dL_would_152 : decode cL_would 152 = .ok (.if_icmp .ge 72, 3) := by decide +kernel
theorem dL_would_155 : decode cL_would 155 = .ok (.aload_n 0, 1) := by decide +kernel
theorem dL_would_156 : decode cL_would 156 = .ok (.iload_n 1, 1) := by decide +kernel
theorem dL_would_157 : decode cL_would 157 = .ok (.iload 13, 2) := by decide +kernel
theorem dL_would_159 : decode cL_would 159 = .ok (.invokevirtual 67, 3) := by decide +kernel
theorem dL_would_162 : decode cL_would 162 = .ok (.ifCond .ge 5, 3) := by decide +kernel
theorem dL_would_165 : decode cL_would 165 = .ok (.iconst 0, 1) := by decide +kernel
theorem dL_would_166 : decode cL_would 166 = .ok (.ireturn, 1) := by decide +kernel
theorem dL_would_167 : decode cL_would 167 = .ok (.aload_n 0, 1) := by decide +kernel
theorem dL_would_168 : decode cL_would 168 = .ok (.iconst 3, 1) := by decide +kernel
theorem dL_would_169 : decode cL_would 169 = .ok (.invokevirtual 49, 3) := by decide +kernel
theorem dL_would_172 : decode cL_would 172 = .ok (.istore 14, 2) := by decide +kernel
theorem dL_would_174 : decode cL_would 174 = .ok (.aload_n 0, 1) := by decide +kernel
theorem dL_would_175 : decode cL_would 175 = .ok (.invokevirtual 60, 3) := by decide +kernel
theorem dL_would_178 : decode cL_would 178 = .ok (.ifCond .lt 38, 3) := by decide +kernel
theorem dL_would_181 : decode cL_would 181 = .ok (.iload 14, 2) := by decide +kernel
theorem dL_would_183 : decode cL_would 183 = .ok (.iload 12, 2) := by decide +kernel
theorem dL_would_185 : decode cL_would 185 = .ok (.if_icmp .gt 31, 3) := by decide +kernel
theorem dL_would_188 : decode cL_would 188 = .ok (.iload 13, 2) := by decide +kernel
theorem dL_would_190 : decode cL_would 190 = .ok (.iload 11, 2) := by decide +kernel
theorem dL_would_192 : decode cL_would 192 = .ok (.if_icmp .ge 10, 3) := by decide +kernel
theorem dL_would_195 : decode cL_would 195 = .ok (.iload 14, 2) := by decide +kernel
theorem dL_would_197 : decode cL_would 197 = .ok (.iload 12, 2) := by decide +kernel
theorem dL_would_199 : decode cL_would 199 = .ok (.if_icmp .eq 17, 3) := by decide +kernel
theorem dL_would_202 : decode cL_would 202 = .ok (.iload 13, 2) := by decide +kernel
theorem dL_would_204 : decode cL_would 204 = .ok (.iload 11, 2) := by decide +kernel
theorem dL_would_206 : decode cL_would 206 = .ok (.if_icmp .ne 12, 3) := by decide +kernel
theorem dL_would_209 : decode cL_would 209 = .ok (.iload 14, 2) := by decide +kernel
theorem dL_would_211 : decode cL_would 211 = .ok (.iload 12, 2) := by decide +kernel
theorem dL_would_213 : decode cL_would 213 = .ok (.if_icmp .eq 5, 3) := by decide +kernel
theorem dL_would_216 : decode cL_would 216 = .ok (.iconst 0, 1) := by decide +kernel
theorem dL_would_217 : decode cL_would 217 = .ok (.ireturn, 1) := by decide +kernel
theorem dL_would_218 : decode cL_would 218 = .ok (.iinc 13 1, 3) := by decide +kernel
theorem dL_would_221 : decode cL_would 221 = .ok (.goto (-72), 3) := by decide +kernel
theorem dL_would_224 : decode cL_would 224 = .ok (.aload_n 0, 1) := by decide +kernel
theorem dL_would_225 : decode cL_would 225 = .ok (.bipush 9, 2) := by decide +kernel
theorem dL_would_227 : decode cL_would 227 = .ok (.invokevirtual 70, 3) := by decide +kernel
theorem dL_would_230 : decode cL_would 230 = .ok (.iload 12, 2) := by decide +kernel
theorem dL_would_232 : decode cL_would 232 = .ok (.if_icmp .lt 17, 3) := by decide +kernel
theorem dL_would_235 : decode cL_would 235 = .ok (.aload_n 0, 1) := by decide +kernel
theorem dL_would_236 : decode cL_would 236 = .ok (.iconst 3, 1) := by decide +kernel
theorem dL_would_237 : decode cL_would 237 = .ok (.invokevirtual 49, 3) := by decide +kernel
theorem dL_would_240 : decode cL_would 240 = .ok (.iload 7, 2) := by decide +kernel
theorem dL_would_242 : decode cL_would 242 = .ok (.if_icmp .ne 7, 3) := by decide +kernel
theorem dL_would_245 : decode cL_would 245 = .ok (.iconst 1, 1) := by decide +kernel
theorem dL_would_246 : decode cL_would 246 = .ok (.goto 4, 3) := by decide +kernel
theorem dL_would_249 : decode cL_would 249 = .ok (.iconst 0, 1) := by decide +kernel
theorem dL_would_250 : decode cL_would 250 = .ok (.ireturn, 1) := by decide +kernel
theorem dL_law_0 : decode cL_law 0 = .ok (.new 25, 3) := by decide +kernel
theorem dL_law_3 : decode cL_law 3 = .ok (.dup, 1) := by decide +kernel
theorem dL_law_4 : decode cL_law 4 = .ok (.invokespecial 73, 3) := by decide +kernel
theorem dL_law_7 : decode cL_law 7 = .ok (.astore_n 1, 1) := by decide +kernel
theorem dL_law_8 : decode cL_law 8 = .ok (.iconst 3, 1) := by decide +kernel
theorem dL_law_9 : decode cL_law 9 = .ok (.newarray .int, 2) := by decide +kernel
theorem dL_law_11 : decode cL_law 11 = .ok (.astore_n 2, 1) := by decide +kernel
theorem dL_law_12 : decode cL_law 12 = .ok (.bipush 16, 2) := by decide +kernel
theorem dL_law_14 : decode cL_law 14 = .ok (.newarray .int, 2) := by decide +kernel
theorem dL_law_16 : decode cL_law 16 = .ok (.astore_n 3, 1) := by decide +kernel
theorem dL_law_17 : decode cL_law 17 = .ok (.bipush 48, 2) := by decide +kernel
theorem dL_law_19 : decode cL_law 19 = .ok (.newarray .int, 2) := by decide +kernel
theorem dL_law_21 : decode cL_law 21 = .ok (.astore 4, 2) := by decide +kernel
theorem dL_law_23 : decode cL_law 23 = .ok (.iconst 4, 1) := by decide +kernel
theorem dL_law_24 : decode cL_law 24 = .ok (.newarray .int, 2) := by decide +kernel
theorem dL_law_26 : decode cL_law 26 = .ok (.astore 5, 2) := by decide +kernel
theorem dL_law_28 : decode cL_law 28 = .ok (.bipush 40, 2) := by decide +kernel
theorem dL_law_30 : decode cL_law 30 = .ok (.newarray .int, 2) := by decide +kernel
theorem dL_law_32 : decode cL_law 32 = .ok (.astore 6, 2) := by decide +kernel
theorem dL_law_34 : decode cL_law 34 = .ok (.bipush 50, 2) := by decide +kernel
theorem dL_law_36 : decode cL_law 36 = .ok (.newarray .int, 2) := by decide +kernel
theorem dL_law_38 : decode cL_law 38 = .ok (.astore 7, 2) := by decide +kernel
theorem dL_law_40 : decode cL_law 40 = .ok (.aload 5, 2) := by decide +kernel
theorem dL_law_42 : decode cL_law 42 = .ok (.iconst 3, 1) := by decide +kernel
theorem dL_law_43 : decode cL_law 43 = .ok (.bipush 7, 2) := by decide +kernel
theorem dL_law_45 : decode cL_law 45 = .ok (.iastore, 1) := by decide +kernel
theorem dL_law_46 : decode cL_law 46 = .ok (.iconst 0, 1) := by decide +kernel
theorem dL_law_47 : decode cL_law 47 = .ok (.istore 8, 2) := by decide +kernel
theorem dL_law_49 : decode cL_law 49 = .ok (.iload 8, 2) := by decide +kernel
theorem dL_law_51 : decode cL_law 51 = .ok (.iconst 4, 1) := by decide +kernel
theorem dL_law_52 : decode cL_law 52 = .ok (.if_icmp .ge 125, 3) := by decide +kernel
theorem dL_law_55 : decode cL_law 55 = .ok (.aload_n 0, 1) := by decide +kernel
theorem dL_law_56 : decode cL_law 56 = .ok (.iload 8, 2) := by decide +kernel
theorem dL_law_58 : decode cL_law 58 = .ok (.invokestatic 74, 3) := by decide +kernel
theorem dL_law_61 : decode cL_law 61 = .ok (.istore 9, 2) := by decide +kernel
theorem dL_law_63 : decode cL_law 63 = .ok (.aload_n 3, 1) := by decide +kernel
theorem dL_law_64 : decode cL_law 64 = .ok (.iconst 4, 1) := by decide +kernel
theorem dL_law_65 : decode cL_law 65 = .ok (.iload 8, 2) := by decide +kernel
theorem dL_law_67 : decode cL_law 67 = .ok (.imul, 1) := by decide +kernel
theorem dL_law_68 : decode cL_law 68 = .ok (.iload 8, 2) := by decide +kernel
theorem dL_law_70 : decode cL_law 70 = .ok (.iconst 2, 1) := by decide +kernel
theorem dL_law_71 : decode cL_law 71 = .ok (.if_icmp .ne 7, 3) := by decide +kernel
theorem dL_law_74 : decode cL_law 74 = .ok (.iconst 3, 1) := by decide +kernel
theorem dL_law_75 : decode cL_law 75 = .ok (.goto 19, 3) := by decide +kernel
theorem dL_law_78 : decode cL_law 78 = .ok (.iload 8, 2) := by decide +kernel
theorem dL_law_80 : decode cL_law 80 = .ok (.iconst 3, 1) := by decide +kernel
theorem dL_law_81 : decode cL_law 81 = .ok (.if_icmp .ne 8, 3) := by decide +kernel
theorem dL_law_84 : decode cL_law 84 = .ok (.bipush 30, 2) := by decide +kernel
theorem dL_law_86 : decode cL_law 86 = .ok (.goto 8, 3) := by decide +kernel
theorem dL_law_89 : decode cL_law 89 = .ok (.bipush 12, 2) := by decide +kernel
theorem dL_law_91 : decode cL_law 91 = .ok (.iload 8, 2) := by decide +kernel
theorem dL_law_93 : decode cL_law 93 = .ok (.imul, 1) := by decide +kernel
theorem dL_law_94 : decode cL_law 94 = .ok (.iload 9, 2) := by decide +kernel
theorem dL_law_96 : decode cL_law 96 = .ok (.iconst 3, 1) := by decide +kernel
theorem dL_law_97 : decode cL_law 97 = .ok (.invokestatic 78, 3) := by decide +kernel
theorem dL_law_100 : decode cL_law 100 = .ok (.iadd, 1) := by decide +kernel
theorem dL_law_101 : decode cL_law 101 = .ok (.iastore, 1) := by decide +kernel
theorem dL_law_102 : decode cL_law 102 = .ok (.aload_n 3, 1) := by decide +kernel
theorem dL_law_103 : decode cL_law 103 = .ok (.iconst 4, 1) := by decide +kernel
theorem dL_law_104 : decode cL_law 104 = .ok (.iload 8, 2) := by decide +kernel
theorem dL_law_106 : decode cL_law 106 = .ok (.imul, 1) := by decide +kernel
theorem dL_law_107 : decode cL_law 107 = .ok (.iconst 1, 1) := by decide +kernel
theorem dL_law_108 : decode cL_law 108 = .ok (.iadd, 1) := by decide +kernel
theorem dL_law_109 : decode cL_law 109 = .ok (.iconst 1, 1) := by decide +kernel
theorem dL_law_110 : decode cL_law 110 = .ok (.iload 9, 2) := by decide +kernel
theorem dL_law_112 : decode cL_law 112 = .ok (.iconst 2, 1) := by decide +kernel
theorem dL_law_113 : decode cL_law 113 = .ok (.ishr, 1) := by decide +kernel
theorem dL_law_114 : decode cL_law 114 = .ok (.bipush 20, 2) := by decide +kernel
theorem dL_law_116 : decode cL_law 116 = .ok (.invokestatic 78, 3) := by decide +kernel
theorem dL_law_119 : decode cL_law 119 = .ok (.iadd, 1) := by decide +kernel
theorem dL_law_120 : decode cL_law 120 = .ok (.iastore, 1) := by decide +kernel
theorem dL_law_121 : decode cL_law 121 = .ok (.aload_n 3, 1) := by decide +kernel
theorem dL_law_122 : decode cL_law 122 = .ok (.iconst 4, 1) := by decide +kernel
theorem dL_law_123 : decode cL_law 123 = .ok (.iload 8, 2) := by decide +kernel
theorem dL_law_125 : decode cL_law 125 = .ok (.imul, 1) := by decide +kernel
theorem dL_law_126 : decode cL_law 126 = .ok (.iconst 2, 1) := by decide +kernel
theorem dL_law_127 : decode cL_law 127 = .ok (.iadd, 1) := by decide +kernel
theorem dL_law_128 : decode cL_law 128 = .ok (.iload 9, 2) := by decide +kernel
theorem dL_law_130 : decode cL_law 130 = .ok (.bipush 7, 2) := by decide +kernel
theorem dL_law_132 : decode cL_law 132 = .ok (.ishr, 1) := by decide +kernel
theorem dL_law_133 : decode cL_law 133 = .ok (.iconst 5, 1) := by decide +kernel
theorem dL_law_134 : decode cL_law 134 = .ok (.invokestatic 78, 3) := by decide +kernel
theorem dL_law_137 : decode cL_law 137 = .ok (.iastore, 1) := by decide +kernel
theorem dL_law_138 : decode cL_law 138 = .ok (.aload_n 1, 1) := by decide +kernel
theorem dL_law_139 : decode cL_law 139 = .ok (.aload_n 3, 1) := by decide +kernel
theorem dL_law_140 : decode cL_law 140 = .ok (.iconst 4, 1) := by decide +kernel
theorem dL_law_141 : decode cL_law 141 = .ok (.iload 8, 2) := by decide +kernel
theorem dL_law_143 : decode cL_law 143 = .ok (.imul, 1) := by decide +kernel
theorem dL_law_144 : decode cL_law 144 = .ok (.iaload, 1) := by decide +kernel
theorem dL_law_145 : decode cL_law 145 = .ok (.aload_n 3, 1) := by decide +kernel
theorem dL_law_146 : decode cL_law 146 = .ok (.iconst 4, 1) := by decide +kernel
theorem dL_law_147 : decode cL_law 147 = .ok (.iload 8, 2) := by decide +kernel
theorem dL_law_149 : decode cL_law 149 = .ok (.imul, 1) := by decide +kernel
theorem dL_law_150 : decode cL_law 150 = .ok (.iconst 1, 1) := by decide +kernel
theorem dL_law_151 : decode cL_law 151 = .ok (.iadd, 1) := by decide +kernel
theorem dL_law_152 : decode cL_law 152 = .ok (.iaload, 1) := by decide +kernel
theorem dL_law_153 : decode cL_law 153 = .ok (.aload_n 3, 1) := by decide +kernel
theorem dL_law_154 : decode cL_law 154 = .ok (.iconst 4, 1) := by decide +kernel
theorem dL_law_155 : decode cL_law 155 = .ok (.iload 8, 2) := by decide +kernel
theorem dL_law_157 : decode cL_law 157 = .ok (.imul, 1) := by decide +kernel
theorem dL_law_158 : decode cL_law 158 = .ok (.iconst 2, 1) := by decide +kernel
theorem dL_law_159 : decode cL_law 159 = .ok (.iadd, 1) := by decide +kernel
theorem dL_law_160 : decode cL_law 160 = .ok (.iaload, 1) := by decide +kernel
theorem dL_law_161 : decode cL_law 161 = .ok (.invokevirtual 81, 3) := by decide +kernel
theorem dL_law_164 : decode cL_law 164 = .ok (.iload 8, 2) := by decide +kernel
theorem dL_law_166 : decode cL_law 166 = .ok (.if_icmp .eq 5, 3) := by decide +kernel
theorem dL_law_169 : decode cL_law 169 = .ok (.iconst 0, 1) := by decide +kernel
theorem dL_law_170 : decode cL_law 170 = .ok (.ireturn, 1) := by decide +kernel
theorem dL_law_171 : decode cL_law 171 = .ok (.iinc 8 1, 3) := by decide +kernel
theorem dL_law_174 : decode cL_law 174 = .ok (.goto (-125), 3) := by decide +kernel
theorem dL_law_177 : decode cL_law 177 = .ok (.iconst 0, 1) := by decide +kernel
theorem dL_law_178 : decode cL_law 178 = .ok (.istore 8, 2) := by decide +kernel
theorem dL_law_180 : decode cL_law 180 = .ok (.iload 8, 2) := by decide +kernel
theorem dL_law_182 : decode cL_law 182 = .ok (.bipush 18, 2) := by decide +kernel
theorem dL_law_184 : decode cL_law 184 = .ok (.if_icmp .ge 557, 3) := by decide +kernel
theorem dL_law_187 : decode cL_law 187 = .ok (.aload_n 0, 1) := by decide +kernel
theorem dL_law_188 : decode cL_law 188 = .ok (.iconst 4, 1) := by decide +kernel
theorem dL_law_189 : decode cL_law 189 = .ok (.iload 8, 2) := by decide +kernel
theorem dL_law_191 : decode cL_law 191 = .ok (.iadd, 1) := by decide +kernel
theorem dL_law_192 : decode cL_law 192 = .ok (.invokestatic 74, 3) := by decide +kernel
theorem dL_law_195 : decode cL_law 195 = .ok (.istore 9, 2) := by decide +kernel
theorem dL_law_197 : decode cL_law 197 = .ok (.iload 9, 2) := by decide +kernel
theorem dL_law_199 : decode cL_law 199 = .ok (.bipush 8, 2) := by decide +kernel
theorem dL_law_201 : decode cL_law 201 = .ok (.invokestatic 78, 3) := by decide +kernel
theorem dL_law_204 : decode cL_law 204 = .ok (.istore 10, 2) := by decide +kernel
theorem dL_law_206 : decode cL_law 206 = .ok (.iload 9, 2) := by decide +kernel
theorem dL_law_208 : decode cL_law 208 = .ok (.iconst 3, 1) := by decide +kernel
theorem dL_law_209 : decode cL_law 209 = .ok (.ishr, 1) := by decide +kernel
theorem dL_law_210 : decode cL_law 210 = .ok (.iconst 4, 1) := by decide +kernel
theorem dL_law_211 : decode cL_law 211 = .ok (.invokestatic 78, 3) := by decide +kernel
theorem dL_law_214 : decode cL_law 214 = .ok (.istore 11, 2) := by decide +kernel
theorem dL_law_216 : decode cL_law 216 = .ok (.iload 11, 2) := by decide +kernel
theorem dL_law_218 : decode cL_law 218 = .ok (.iconst 1, 1) := by decide +kernel
theorem dL_law_219 : decode cL_law 219 = .ok (.iadd, 1) := by decide +kernel
theorem dL_law_220 : decode cL_law 220 = .ok (.iload 9, 2) := by decide +kernel
theorem dL_law_222 : decode cL_law 222 = .ok (.iconst 5, 1) := by decide +kernel
theorem dL_law_223 : decode cL_law 223 = .ok (.ishr, 1) := by decide +kernel
theorem dL_law_224 : decode cL_law 224 = .ok (.iconst 3, 1) := by decide +kernel
theorem dL_law_225 : decode cL_law 225 = .ok (.invokestatic 78, 3) := by decide +kernel
theorem dL_law_228 : decode cL_law 228 = .ok (.iadd, 1) := by decide +kernel
theorem dL_law_229 : decode cL_law 229 = .ok (.iconst 4, 1) := by decide +kernel
theorem dL_law_230 : decode cL_law 230 = .ok (.irem, 1) := by decide +kernel
theorem dL_law_231 : decode cL_law 231 = .ok (.istore 12, 2) := by decide +kernel
theorem dL_law_233 : decode cL_law 233 = .ok (.iload 9, 2) := by decide +kernel
theorem dL_law_235 : decode cL_law 235 = .ok (.bipush 7, 2) := by decide +kernel
theorem dL_law_237 : decode cL_law 237 = .ok (.ishr, 1) := by decide +kernel
theorem dL_law_238 : decode cL_law 238 = .ok (.iconst 3, 1) := by decide +kernel
theorem dL_law_239 : decode cL_law 239 = .ok (.invokestatic 78, 3) := by decide +kernel
theorem dL_law_242 : decode cL_law 242 = .ok (.istore 13, 2) := by decide +kernel
theorem dL_law_244 : decode cL_law 244 = .ok (.iconst 1, 1) := by decide +kernel
theorem dL_law_245 : decode cL_law 245 = .ok (.iload 9, 2) := by decide +kernel
theorem dL_law_247 : decode cL_law 247 = .ok (.bipush 9, 2) := by decide +kernel
theorem dL_law_249 : decode cL_law 249 = .ok (.ishr, 1) := by decide +kernel
theorem dL_law_250 : decode cL_law 250 = .ok (.bipush 60, 2) := by decide +kernel
theorem dL_law_252 : decode cL_law 252 = .ok (.invokestatic 78, 3) := by decide +kernel
theorem dL_law_255 : decode cL_law 255 = .ok (.iadd, 1) := by decide +kernel
theorem dL_law_256 : decode cL_law 256 = .ok (.istore 14, 2) := by decide +kernel
theorem dL_law_258 : decode cL_law 258 = .ok (.iload 9, 2) := by decide +kernel
theorem dL_law_260 : decode cL_law 260 = .ok (.bipush 15, 2) := by decide +kernel
theorem dL_law_262 : decode cL_law 262 = .ok (.ishr, 1) := by decide +kernel
theorem dL_law_263 : decode cL_law 263 = .ok (.bipush 12, 2) := by decide +kernel
theorem dL_law_265 : decode cL_law 265 = .ok (.invokestatic 78, 3) := by decide +kernel
theorem dL_law_268 : decode cL_law 268 = .ok (.istore 15, 2) := by decide +kernel
theorem dL_law_270 : decode cL_law 270 = .ok (.iload 10, 2) := by decide +kernel
theorem dL_law_272 : decode cL_law 272 = .ok (.ifCond .ne 48, 3) := by decide +kernel
theorem dL_law_275 : decode cL_law 275 = .ok (.iload 9, 2) := by decide +kernel
theorem dL_law_277 : decode cL_law 277 = .ok (.bipush 9, 2) := by decide +kernel
theorem dL_law_279 : decode cL_law 279 = .ok (.ishr, 1) := by decide +kernel
theorem dL_law_280 : decode cL_law 280 = .ok (.iconst 5, 1) := by decide +kernel
theorem dL_law_281 : decode cL_law 281 = .ok (.invokestatic 78, 3) := by decide +kernel
theorem dL_law_284 : decode cL_law 284 = .ok (.istore 16, 2) := by decide +kernel
theorem dL_law_286 : decode cL_law 286 = .ok (.aload_n 1, 1) := by decide +kernel
theorem dL_law_287 : decode cL_law 287 = .ok (.iload 11, 2) := by decide +kernel
theorem dL_law_289 : decode cL_law 289 = .ok (.iload 16, 2) := by decide +kernel
theorem dL_law_291 : decode cL_law 291 = .ok (.invokevirtual 67, 3) := by decide +kernel
theorem dL_law_294 : decode cL_law 294 = .ok (.aload_n 3, 1) := by decide +kernel
theorem dL_law_295 : decode cL_law 295 = .ok (.iconst 4, 1) := by decide +kernel
theorem dL_law_296 : decode cL_law 296 = .ok (.iload 11, 2) := by decide +kernel
theorem dL_law_298 : decode cL_law 298 = .ok (.imul, 1) := by decide +kernel
theorem dL_law_299 : decode cL_law 299 = .ok (.iconst 2, 1) := by decide +kernel
theorem dL_law_300 : decode cL_law 300 = .ok (.iadd, 1) := by decide +kernel
theorem dL_law_301 : decode cL_law 301 = .ok (.iaload, 1) := by decide +kernel
theorem dL_law_302 : decode cL_law 302 = .ok (.if_icmp .eq 5, 3) := by decide +kernel
theorem dL_law_305 : decode cL_law 305 = .ok (.iconst 0, 1) := by decide +kernel
theorem dL_law_306 : decode cL_law 306 = .ok (.ireturn, 1) := by decide +kernel
theorem dL_law_307 : decode cL_law 307 = .ok (.aload_n 3, 1) := by decide +kernel
theorem dL_law_308 : decode cL_law 308 = .ok (.iconst 4, 1) := by decide +kernel
theorem dL_law_309 : decode cL_law 309 = .ok (.iload 11, 2) := by decide +kernel
theorem dL_law_311 : decode cL_law 311 = .ok (.imul, 1) := by decide +kernel
theorem dL_law_312 : decode cL_law 312 = .ok (.iconst 2, 1) := by decide +kernel
theorem dL_law_313 : decode cL_law 313 = .ok (.iadd, 1) := by decide +kernel
theorem dL_law_314 : decode cL_law 314 = .ok (.iload 16, 2) := by decide +kernel
theorem dL_law_316 : decode cL_law 316 = .ok (.iastore, 1) := by decide +kernel
theorem dL_law_317 : decode cL_law 317 = .ok (.goto 361, 3) := by decide +kernel
theorem dL_law_320 : decode cL_law 320 = .ok (.iload 10, 2) := by decide +kernel
theorem dL_law_322 : decode cL_law 322 = .ok (.iconst 1, 1) := by decide +kernel
theorem dL_law_323 : decode cL_law 323 = .ok (.if_icmp .ne 46, 3) := by decide +kernel
theorem dL_law_326 : decode cL_law 326 = .ok (.iload 9, 2) := by decide +kernel
theorem dL_law_328 : decode cL_law 328 = .ok (.bipush 9, 2) := by decide +kernel
theorem dL_law_330 : decode cL_law 330 = .ok (.ishr, 1) := by decide +kernel
theorem dL_law_331 : decode cL_law 331 = .ok (.bipush 10, 2) := by decide +kernel
theorem dL_law_333 : decode cL_law 333 = .ok (.invokestatic 78, 3) := by decide +kernel
theorem dL_law_336 : decode cL_law 336 = .ok (.istore 16, 2) := by decide +kernel
theorem dL_law_338 : decode cL_law 338 = .ok (.aload_n 1, 1) := by decide +kernel
theorem dL_law_339 : decode cL_law 339 = .ok (.iload 13, 2) := by decide +kernel
theorem dL_law_341 : decode cL_law 341 = .ok (.invokestatic 31, 3) := by decide +kernel
theorem dL_law_344 : decode cL_law 344 = .ok (.iload 16, 2) := by decide +kernel
theorem dL_law_346 : decode cL_law 346 = .ok (.invokevirtual 84, 3) := by decide +kernel
theorem dL_law_349 : decode cL_law 349 = .ok (.aload 5, 2) := by decide +kernel
theorem dL_law_351 : decode cL_law 351 = .ok (.iload 13, 2) := by decide +kernel
theorem dL_law_353 : decode cL_law 353 = .ok (.iaload, 1) := by decide +kernel
theorem dL_law_354 : decode cL_law 354 = .ok (.if_icmp .eq 5, 3) := by decide +kernel
theorem dL_law_357 : decode cL_law 357 = .ok (.iconst 0, 1) := by decide +kernel
theorem dL_law_358 : decode cL_law 358 = .ok (.ireturn, 1) := by decide +kernel
theorem dL_law_359 : decode cL_law 359 = .ok (.aload 5, 2) := by decide +kernel
theorem dL_law_361 : decode cL_law 361 = .ok (.iload 13, 2) := by decide +kernel
theorem dL_law_363 : decode cL_law 363 = .ok (.iload 16, 2) := by decide +kernel
theorem dL_law_365 : decode cL_law 365 = .ok (.iastore, 1) := by decide +kernel
theorem dL_law_366 : decode cL_law 366 = .ok (.goto 312, 3) := by decide +kernel
theorem dL_law_369 : decode cL_law 369 = .ok (.iload 10, 2) := by decide +kernel
theorem dL_law_371 : decode cL_law 371 = .ok (.iconst 2, 1) := by decide +kernel
theorem dL_law_372 : decode cL_law 372 = .ok (.if_icmp .ne 72, 3) := by decide +kernel
theorem dL_law_375 : decode cL_law 375 = .ok (.iload 9, 2) := by decide +kernel
theorem dL_law_377 : decode cL_law 377 = .ok (.bipush 9, 2) := by decide +kernel
theorem dL_law_379 : decode cL_law 379 = .ok (.ishr, 1) := by decide +kernel
theorem dL_law_380 : decode cL_law 380 = .ok (.bipush 90, 2) := by decide +kernel
theorem dL_law_382 : decode cL_law 382 = .ok (.invokestatic 78, 3) := by decide +kernel
theorem dL_law_385 : decode cL_law 385 = .ok (.istore 16, 2) := by decide +kernel
theorem dL_law_387 : decode cL_law 387 = .ok (.aload_n 1, 1) := by decide +kernel
theorem dL_law_388 : decode cL_law 388 = .ok (.iload 11, 2) := by decide +kernel
theorem dL_law_390 : decode cL_law 390 = .ok (.iload 12, 2) := by decide +kernel
theorem dL_law_392 : decode cL_law 392 = .ok (.iload 13, 2) := by decide +kernel
theorem dL_law_394 : decode cL_law 394 = .ok (.invokestatic 31, 3) := by decide +kernel
theorem dL_law_397 : decode cL_law 397 = .ok (.iload 16, 2) := by decide +kernel
theorem dL_law_399 : decode cL_law 399 = .ok (.invokevirtual 57, 3) := by decide +kernel
theorem dL_law_402 : decode cL_law 402 = .ok (.aload 4, 2) := by decide +kernel
theorem dL_law_404 : decode cL_law 404 = .ok (.bipush 16, 2) := by decide +kernel
theorem dL_law_406 : decode cL_law 406 = .ok (.iload 13, 2) := by decide +kernel
theorem dL_law_408 : decode cL_law 408 = .ok (.imul, 1) := by decide +kernel
theorem dL_law_409 : decode cL_law 409 = .ok (.iconst 4, 1) := by decide +kernel
theorem dL_law_410 : decode cL_law 410 = .ok (.iload 11, 2) := by decide +kernel
theorem dL_law_412 : decode cL_law 412 = .ok (.imul, 1) := by decide +kernel
theorem dL_law_413 : decode cL_law 413 = .ok (.iadd, 1) := by decide +kernel
theorem dL_law_414 : decode cL_law 414 = .ok (.iload 12, 2) := by decide +kernel
theorem dL_law_416 : decode cL_law 416 = .ok (.iadd, 1) := by decide +kernel
theorem dL_law_417 : decode cL_law 417 = .ok (.iaload, 1) := by decide +kernel
theorem dL_law_418 : decode cL_law 418 = .ok (.if_icmp .eq 5, 3) := by decide +kernel
theorem dL_law_421 : decode cL_law 421 = .ok (.iconst 0, 1) := by decide +kernel
theorem dL_law_422 : decode cL_law 422 = .ok (.ireturn, 1) := by decide +kernel
theorem dL_law_423 : decode cL_law 423 = .ok (.aload 4, 2) := by decide +kernel
theorem dL_law_425 : decode cL_law 425 = .ok (.bipush 16, 2) := by decide +kernel
theorem dL_law_427 : decode cL_law 427 = .ok (.iload 13, 2) := by decide +kernel
theorem dL_law_429 : decode cL_law 429 = .ok (.imul, 1) := by decide +kernel
theorem dL_law_430 : decode cL_law 430 = .ok (.iconst 4, 1) := by decide +kernel
theorem dL_law_431 : decode cL_law 431 = .ok (.iload 11, 2) := by decide +kernel
theorem dL_law_433 : decode cL_law 433 = .ok (.imul, 1) := by decide +kernel
theorem dL_law_434 : decode cL_law 434 = .ok (.iadd, 1) := by decide +kernel
theorem dL_law_435 : decode cL_law 435 = .ok (.iload 12, 2) := by decide +kernel
theorem dL_law_437 : decode cL_law 437 = .ok (.iadd, 1) := by decide +kernel
theorem dL_law_438 : decode cL_law 438 = .ok (.iload 16, 2) := by decide +kernel
theorem dL_law_440 : decode cL_law 440 = .ok (.iastore, 1) := by decide +kernel
theorem dL_law_441 : decode cL_law 441 = .ok (.goto 237, 3) := by decide +kernel
theorem dL_law_444 : decode cL_law 444 = .ok (.iload 10, 2) := by decide +kernel
theorem dL_law_446 : decode cL_law 446 = .ok (.iconst 5, 1) := by decide +kernel
theorem dL_law_447 : decode cL_law 447 = .ok (.if_icmp .ge 98, 3) := by decide +kernel
theorem dL_law_450 : decode cL_law 450 = .ok (.aload_n 1, 1) := by decide +kernel
theorem dL_law_451 : decode cL_law 451 = .ok (.iload 11, 2) := by decide +kernel
theorem dL_law_453 : decode cL_law 453 = .ok (.iload 13, 2) := by decide +kernel
theorem dL_law_455 : decode cL_law 455 = .ok (.invokestatic 31, 3) := by decide +kernel
theorem dL_law_458 : decode cL_law 458 = .ok (.iload 14, 2) := by decide +kernel
theorem dL_law_460 : decode cL_law 460 = .ok (.iload 15, 2) := by decide +kernel
theorem dL_law_462 : decode cL_law 462 = .ok (.invokevirtual 87, 3) := by decide +kernel
theorem dL_law_465 : decode cL_law 465 = .ok (.aload_n 2, 1) := by decide +kernel
theorem dL_law_466 : decode cL_law 466 = .ok (.iconst 0, 1) := by decide +kernel
theorem dL_law_467 : decode cL_law 467 = .ok (.iaload, 1) := by decide +kernel
theorem dL_law_468 : decode cL_law 468 = .ok (.bipush 10, 2) := by decide +kernel
theorem dL_law_470 : decode cL_law 470 = .ok (.if_icmp .ne 8, 3) := by decide +kernel
theorem dL_law_473 : decode cL_law 473 = .ok (.bipush (-4), 2) := by decide +kernel
theorem dL_law_475 : decode cL_law 475 = .ok (.goto 8, 3) := by decide +kernel
theorem dL_law_478 : decode cL_law 478 = .ok (.aload_n 2, 1) := by decide +kernel
theorem dL_law_479 : decode cL_law 479 = .ok (.iconst 0, 1) := by decide +kernel
theorem dL_law_480 : decode cL_law 480 = .ok (.iaload, 1) := by decide +kernel
theorem dL_law_481 : decode cL_law 481 = .ok (.iconst 1, 1) := by decide +kernel
theorem dL_law_482 : decode cL_law 482 = .ok (.iadd, 1) := by decide +kernel
theorem dL_law_483 : decode cL_law 483 = .ok (.if_icmp .eq 5, 3) := by decide +kernel
theorem dL_law_486 : decode cL_law 486 = .ok (.iconst 0, 1) := by decide +kernel
theorem dL_law_487 : decode cL_law 487 = .ok (.ireturn, 1) := by decide +kernel
theorem dL_law_488 : decode cL_law 488 = .ok (.aload_n 2, 1) := by decide +kernel
theorem dL_law_489 : decode cL_law 489 = .ok (.iconst 0, 1) := by decide +kernel
theorem dL_law_490 : decode cL_law 490 = .ok (.iaload, 1) := by decide +kernel
theorem dL_law_491 : decode cL_law 491 = .ok (.bipush 10, 2) := by decide +kernel
theorem dL_law_493 : decode cL_law 493 = .ok (.if_icmp .ge 185, 3) := by decide +kernel
theorem dL_law_496 : decode cL_law 496 = .ok (.iconst 4, 1) := by decide +kernel
theorem dL_law_497 : decode cL_law 497 = .ok (.aload_n 2, 1) := by decide +kernel
theorem dL_law_498 : decode cL_law 498 = .ok (.iconst 0, 1) := by decide +kernel
theorem dL_law_499 : decode cL_law 499 = .ok (.dup2, 1) := by decide +kernel
theorem dL_law_500 : decode cL_law 500 = .ok (.iaload, 1) := by decide +kernel
theorem dL_law_501 : decode cL_law 501 = .ok (.dup_x2, 1) := by decide +kernel
theorem dL_law_502 : decode cL_law 502 = .ok (.iconst 1, 1) := by decide +kernel
theorem dL_law_503 : decode cL_law 503 = .ok (.iadd, 1) := by decide +kernel
theorem dL_law_504 : decode cL_law 504 = .ok (.iastore, 1) := by decide +kernel
theorem dL_law_505 : decode cL_law 505 = .ok (.imul, 1) := by decide +kernel
theorem dL_law_506 : decode cL_law 506 = .ok (.istore 16, 2) := by decide +kernel
theorem dL_law_508 : decode cL_law 508 = .ok (.aload 6, 2) := by decide +kernel
theorem dL_law_510 : decode cL_law 510 = .ok (.iload 16, 2) := by decide +kernel
theorem dL_law_512 : decode cL_law 512 = .ok (.iload 11, 2) := by decide +kernel
theorem dL_law_514 : decode cL_law 514 = .ok (.iastore, 1) := by decide +kernel
theorem dL_law_515 : decode cL_law 515 = .ok (.aload 6, 2) := by decide +kernel
theorem dL_law_517 : decode cL_law 517 = .ok (.iload 16, 2) := by decide +kernel
theorem dL_law_519 : decode cL_law 519 = .ok (.iconst 1, 1) := by decide +kernel
theorem dL_law_520 : decode cL_law 520 = .ok (.iadd, 1) := by decide +kernel
theorem dL_law_521 : decode cL_law 521 = .ok (.iload 13, 2) := by decide +kernel
theorem dL_law_523 : decode cL_law 523 = .ok (.iastore, 1) := by decide +kernel
theorem dL_law_524 : decode cL_law 524 = .ok (.aload 6, 2) := by decide +kernel
theorem dL_law_526 : decode cL_law 526 = .ok (.iload 16, 2) := by decide +kernel
theorem dL_law_528 : decode cL_law 528 = .ok (.iconst 2, 1) := by decide +kernel
theorem dL_law_529 : decode cL_law 529 = .ok (.iadd, 1) := by decide +kernel
theorem dL_law_530 : decode cL_law 530 = .ok (.iload 14, 2) := by decide +kernel
theorem dL_law_532 : decode cL_law 532 = .ok (.iastore, 1) := by decide +kernel
theorem dL_law_533 : decode cL_law 533 = .ok (.aload 6, 2) := by decide +kernel
theorem dL_law_535 : decode cL_law 535 = .ok (.iload 16, 2) := by decide +kernel
theorem dL_law_537 : decode cL_law 537 = .ok (.iconst 3, 1) := by decide +kernel
theorem dL_law_538 : decode cL_law 538 = .ok (.iadd, 1) := by decide +kernel
theorem dL_law_539 : decode cL_law 539 = .ok (.iload 15, 2) := by decide +kernel
theorem dL_law_541 : decode cL_law 541 = .ok (.iastore, 1) := by decide +kernel
theorem dL_law_542 : decode cL_law 542 = .ok (.goto 136, 3) := by decide +kernel
theorem dL_law_545 : decode cL_law 545 = .ok (.iload 10, 2) := by decide +kernel
theorem dL_law_547 : decode cL_law 547 = .ok (.bipush 7, 2) := by decide +kernel
theorem dL_law_549 : decode cL_law 549 = .ok (.if_icmp .ge 109, 3) := by decide +kernel
theorem dL_law_552 : decode cL_law 552 = .ok (.aload_n 1, 1) := by decide +kernel
theorem dL_law_553 : decode cL_law 553 = .ok (.iload 12, 2) := by decide +kernel
theorem dL_law_555 : decode cL_law 555 = .ok (.iload 11, 2) := by decide +kernel
theorem dL_law_557 : decode cL_law 557 = .ok (.iload 13, 2) := by decide +kernel
theorem dL_law_559 : decode cL_law 559 = .ok (.invokestatic 31, 3) := by decide +kernel
theorem dL_law_562 : decode cL_law 562 = .ok (.iload 14, 2) := by decide +kernel
theorem dL_law_564 : decode cL_law 564 = .ok (.iload 15, 2) := by decide +kernel
theorem dL_law_566 : decode cL_law 566 = .ok (.invokevirtual 90, 3) := by decide +kernel
theorem dL_law_569 : decode cL_law 569 = .ok (.aload_n 2, 1) := by decide +kernel
theorem dL_law_570 : decode cL_law 570 = .ok (.iconst 1, 1) := by decide +kernel
theorem dL_law_571 : decode cL_law 571 = .ok (.iaload, 1) := by decide +kernel
theorem dL_law_572 : decode cL_law 572 = .ok (.bipush 10, 2) := by decide +kernel
theorem dL_law_574 : decode cL_law 574 = .ok (.if_icmp .ne 8, 3) := by decide +kernel
theorem dL_law_577 : decode cL_law 577 = .ok (.bipush (-4), 2) := by decide +kernel
theorem dL_law_579 : decode cL_law 579 = .ok (.goto 8, 3) := by decide +kernel
theorem dL_law_582 : decode cL_law 582 = .ok (.aload_n 2, 1) := by decide +kernel
theorem dL_law_583 : decode cL_law 583 = .ok (.iconst 1, 1) := by decide +kernel
theorem dL_law_584 : decode cL_law 584 = .ok (.iaload, 1) := by decide +kernel
theorem dL_law_585 : decode cL_law 585 = .ok (.iconst 1, 1) := by decide +kernel
theorem dL_law_586 : decode cL_law 586 = .ok (.iadd, 1) := by decide +kernel
theorem dL_law_587 : decode cL_law 587 = .ok (.if_icmp .eq 5, 3) := by decide +kernel
theorem dL_law_590 : decode cL_law 590 = .ok (.iconst 0, 1) := by decide +kernel
theorem dL_law_591 : decode cL_law 591 = .ok (.ireturn, 1) := by decide +kernel
theorem dL_law_592 : decode cL_law 592 = .ok (.aload_n 2, 1) := by decide +kernel
theorem dL_law_593 : decode cL_law 593 = .ok (.iconst 1, 1) := by decide +kernel
theorem dL_law_594 : decode cL_law 594 = .ok (.iaload, 1) := by decide +kernel
theorem dL_law_595 : decode cL_law 595 = .ok (.bipush 10, 2) := by decide +kernel
theorem dL_law_597 : decode cL_law 597 = .ok (.if_icmp .ge 81, 3) := by decide +kernel
theorem dL_law_600 : decode cL_law 600 = .ok (.iconst 5, 1) := by decide +kernel
theorem dL_law_601 : decode cL_law 601 = .ok (.aload_n 2, 1) := by decide +kernel
theorem dL_law_602 : decode cL_law 602 = .ok (.iconst 1, 1) := by decide +kernel
theorem dL_law_603 : decode cL_law 603 = .ok (.dup2, 1) := by decide +kernel
theorem dL_law_604 : decode cL_law 604 = .ok (.iaload, 1) := by decide +kernel
theorem dL_law_605 : decode cL_law 605 = .ok (.dup_x2, 1) := by decide +kernel
theorem dL_law_606 : decode cL_law 606 = .ok (.iconst 1, 1) := by decide +kernel
theorem dL_law_607 : decode cL_law 607 = .ok (.iadd, 1) := by decide +kernel
theorem dL_law_608 : decode cL_law 608 = .ok (.iastore, 1) := by decide +kernel
theorem dL_law_609 : decode cL_law 609 = .ok (.imul, 1) := by decide +kernel
theorem dL_law_610 : decode cL_law 610 = .ok (.istore 16, 2) := by decide +kernel
theorem dL_law_612 : decode cL_law 612 = .ok (.aload 7, 2) := by decide +kernel
theorem dL_law_614 : decode cL_law 614 = .ok (.iload 16, 2) := by decide +kernel
theorem dL_law_616 : decode cL_law 616 = .ok (.iload 11, 2) := by decide +kernel
theorem dL_law_618 : decode cL_law 618 = .ok (.iastore, 1) := by decide +kernel
theorem dL_law_619 : decode cL_law 619 = .ok (.aload 7, 2) := by decide +kernel
theorem dL_law_621 : decode cL_law 621 = .ok (.iload 16, 2) := by decide +kernel
theorem dL_law_623 : decode cL_law 623 = .ok (.iconst 1, 1) := by decide +kernel
theorem dL_law_624 : decode cL_law 624 = .ok (.iadd, 1) := by decide +kernel
theorem dL_law_625 : decode cL_law 625 = .ok (.iload 13, 2) := by decide +kernel
theorem dL_law_627 : decode cL_law 627 = .ok (.iastore, 1) := by decide +kernel
theorem dL_law_628 : decode cL_law 628 = .ok (.aload 7, 2) := by decide +kernel
theorem dL_law_630 : decode cL_law 630 = .ok (.iload 16, 2) := by decide +kernel
theorem dL_law_632 : decode cL_law 632 = .ok (.iconst 2, 1) := by decide +kernel
theorem dL_law_633 : decode cL_law 633 = .ok (.iadd, 1) := by decide +kernel
theorem dL_law_634 : decode cL_law 634 = .ok (.iload 14, 2) := by decide +kernel
theorem dL_law_636 : decode cL_law 636 = .ok (.iastore, 1) := by decide +kernel
theorem dL_law_637 : decode cL_law 637 = .ok (.aload 7, 2) := by decide +kernel
theorem dL_law_639 : decode cL_law 639 = .ok (.iload 16, 2) := by decide +kernel
theorem dL_law_641 : decode cL_law 641 = .ok (.iconst 3, 1) := by decide +kernel
theorem dL_law_642 : decode cL_law 642 = .ok (.iadd, 1) := by decide +kernel
theorem dL_law_643 : decode cL_law 643 = .ok (.iload 15, 2) := by decide +kernel
theorem dL_law_645 : decode cL_law 645 = .ok (.iastore, 1) := by decide +kernel
theorem dL_law_646 : decode cL_law 646 = .ok (.aload 7, 2) := by decide +kernel
theorem dL_law_648 : decode cL_law 648 = .ok (.iload 16, 2) := by decide +kernel
theorem dL_law_650 : decode cL_law 650 = .ok (.iconst 4, 1) := by decide +kernel
theorem dL_law_651 : decode cL_law 651 = .ok (.iadd, 1) := by decide +kernel
theorem dL_law_652 : decode cL_law 652 = .ok (.iload 12, 2) := by decide +kernel
theorem dL_law_654 : decode cL_law 654 = .ok (.iastore, 1) := by decide +kernel
theorem dL_law_655 : decode cL_law 655 = .ok (.goto 23, 3) := by decide +kernel
theorem dL_law_658 : decode cL_law 658 = .ok (.aload_n 1, 1) := by decide +kernel
theorem dL_law_659 : decode cL_law 659 = .ok (.invokevirtual 93, 3) := by decide +kernel
theorem dL_law_662 : decode cL_law 662 = .ok (.aload_n 2, 1) := by decide +kernel
theorem dL_law_663 : decode cL_law 663 = .ok (.aload_n 3, 1) := by decide +kernel
theorem dL_law_664 : decode cL_law 664 = .ok (.aload 4, 2) := by decide +kernel
theorem dL_law_666 : decode cL_law 666 = .ok (.aload 6, 2) := by decide +kernel
theorem dL_law_668 : decode cL_law 668 = .ok (.aload 7, 2) := by decide +kernel
theorem dL_law_670 : decode cL_law 670 = .ok (.invokestatic 96, 3) := by decide +kernel
theorem dL_law_673 : decode cL_law 673 = .ok (.if_icmp .eq 5, 3) := by decide +kernel
theorem dL_law_676 : decode cL_law 676 = .ok (.iconst 0, 1) := by decide +kernel
theorem dL_law_677 : decode cL_law 677 = .ok (.ireturn, 1) := by decide +kernel
theorem dL_law_678 : decode cL_law 678 = .ok (.aload_n 1, 1) := by decide +kernel
theorem dL_law_679 : decode cL_law 679 = .ok (.aload_n 2, 1) := by decide +kernel
theorem dL_law_680 : decode cL_law 680 = .ok (.aload_n 3, 1) := by decide +kernel
theorem dL_law_681 : decode cL_law 681 = .ok (.aload 4, 2) := by decide +kernel
theorem dL_law_683 : decode cL_law 683 = .ok (.aload 5, 2) := by decide +kernel
theorem dL_law_685 : decode cL_law 685 = .ok (.aload 6, 2) := by decide +kernel
theorem dL_law_687 : decode cL_law 687 = .ok (.aload 7, 2) := by decide +kernel
theorem dL_law_689 : decode cL_law 689 = .ok (.invokestatic 99, 3) := by decide +kernel
theorem dL_law_692 : decode cL_law 692 = .ok (.ifCond .eq 41, 3) := by decide +kernel
theorem dL_law_695 : decode cL_law 695 = .ok (.iload 9, 2) := by decide +kernel
theorem dL_law_697 : decode cL_law 697 = .ok (.bipush 18, 2) := by decide +kernel
theorem dL_law_699 : decode cL_law 699 = .ok (.ishr, 1) := by decide +kernel
theorem dL_law_700 : decode cL_law 700 = .ok (.iconst 3, 1) := by decide +kernel
theorem dL_law_701 : decode cL_law 701 = .ok (.invokestatic 78, 3) := by decide +kernel
theorem dL_law_704 : decode cL_law 704 = .ok (.ifCond .ne 31, 3) := by decide +kernel
theorem dL_law_707 : decode cL_law 707 = .ok (.aload_n 1, 1) := by decide +kernel
theorem dL_law_708 : decode cL_law 708 = .ok (.iload 11, 2) := by decide +kernel
theorem dL_law_710 : decode cL_law 710 = .ok (.iload 12, 2) := by decide +kernel
theorem dL_law_712 : decode cL_law 712 = .ok (.iload 13, 2) := by decide +kernel
theorem dL_law_714 : decode cL_law 714 = .ok (.invokestatic 31, 3) := by decide +kernel
theorem dL_law_717 : decode cL_law 717 = .ok (.iload 9, 2) := by decide +kernel
theorem dL_law_719 : decode cL_law 719 = .ok (.bipush 10, 2) := by decide +kernel
theorem dL_law_721 : decode cL_law 721 = .ok (.ishr, 1) := by decide +kernel
theorem dL_law_722 : decode cL_law 722 = .ok (.bipush 100, 2) := by decide +kernel
theorem dL_law_724 : decode cL_law 724 = .ok (.invokestatic 78, 3) := by decide +kernel
theorem dL_law_727 : decode cL_law 727 = .ok (.invokestatic 103, 3) := by decide +kernel
theorem dL_law_730 : decode cL_law 730 = .ok (.ifCond .ne 5, 3) := by decide +kernel
theorem dL_law_733 : decode cL_law 733 = .ok (.iconst 0, 1) := by decide +kernel
theorem dL_law_734 : decode cL_law 734 = .ok (.ireturn, 1) := by decide +kernel
theorem dL_law_735 : decode cL_law 735 = .ok (.iinc 8 1, 3) := by decide +kernel
theorem dL_law_738 : decode cL_law 738 = .ok (.goto (-558), 3) := by decide +kernel
theorem dL_law_741 : decode cL_law 741 = .ok (.iconst 1, 1) := by decide +kernel
theorem dL_law_742 : decode cL_law 742 = .ok (.ireturn, 1) := by decide +kernel
