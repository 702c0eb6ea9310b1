theorem dX0_init_0 : decode cX0_init 0 = .ok (.aload_n 0, 1) := by decide +kernel
theorem dX0_init_1 : decode cX0_init 1 = .ok (.invokespecial 3, 3) := by decide +kernel
theorem dX0_init_4 : decode cX0_init 4 = .ok (.aload_n 0, 1) := by decide +kernel
theorem dX0_init_5 : decode cX0_init 5 = .ok (.iconst 0, 1) := by decide +kernel
theorem dX0_init_6 : decode cX0_init 6 = .ok (.putfield 9, 3) := by decide +kernel
theorem dX0_init_9 : decode cX0_init 9 = .ok (.aload_n 0, 1) := by decide +kernel
theorem dX0_init_10 : decode cX0_init 10 = .ok (.bipush 6, 2) := by decide +kernel
theorem dX0_init_12 : decode cX0_init 12 = .ok (.newarray .int, 2) := by decide +kernel
theorem dX0_init_14 : decode cX0_init 14 = .ok (.putfield 15, 3) := by decide +kernel
theorem dX0_init_17 : decode cX0_init 17 = .ok (.aload_n 0, 1) := by decide +kernel
theorem dX0_init_18 : decode cX0_init 18 = .ok (.bipush 6, 2) := by decide +kernel
theorem dX0_init_20 : decode cX0_init 20 = .ok (.newarray .int, 2) := by decide +kernel
theorem dX0_init_22 : decode cX0_init 22 = .ok (.putfield 19, 3) := by decide +kernel
theorem dX0_init_25 : decode cX0_init 25 = .ok (.aload_n 0, 1) := by decide +kernel
theorem dX0_init_26 : decode cX0_init 26 = .ok (.bipush 6, 2) := by decide +kernel
theorem dX0_init_28 : decode cX0_init 28 = .ok (.newarray .int, 2) := by decide +kernel
theorem dX0_init_30 : decode cX0_init 30 = .ok (.putfield 22, 3) := by decide +kernel
theorem dX0_init_33 : decode cX0_init 33 = .ok (.aload_n 0, 1) := by decide +kernel
theorem dX0_init_34 : decode cX0_init 34 = .ok (.bipush 6, 2) := by decide +kernel
theorem dX0_init_36 : decode cX0_init 36 = .ok (.newarray .int, 2) := by decide +kernel
theorem dX0_init_38 : decode cX0_init 38 = .ok (.putfield 25, 3) := by decide +kernel
theorem dX0_init_41 : decode cX0_init 41 = .ok (.aload_n 0, 1) := by decide +kernel
theorem dX0_init_42 : decode cX0_init 42 = .ok (.bipush 10, 2) := by decide +kernel
theorem dX0_init_44 : decode cX0_init 44 = .ok (.newarray .int, 2) := by decide +kernel
theorem dX0_init_46 : decode cX0_init 46 = .ok (.putfield 28, 3) := by decide +kernel
theorem dX0_init_49 : decode cX0_init 49 = .ok (.aload_n 0, 1) := by decide +kernel
theorem dX0_init_50 : decode cX0_init 50 = .ok (.bipush 7, 2) := by decide +kernel
theorem dX0_init_52 : decode cX0_init 52 = .ok (.putfield 31, 3) := by decide +kernel
theorem dX0_init_55 : decode cX0_init 55 = .ok (.aload_n 0, 1) := by decide +kernel
theorem dX0_init_56 : decode cX0_init 56 = .ok (.sipush 360, 3) := by decide +kernel
theorem dX0_init_59 : decode cX0_init 59 = .ok (.newarray .int, 2) := by decide +kernel
theorem dX0_init_61 : decode cX0_init 61 = .ok (.putfield 34, 3) := by decide +kernel
theorem dX0_init_64 : decode cX0_init 64 = .ok (.aload_n 0, 1) := by decide +kernel
theorem dX0_init_65 : decode cX0_init 65 = .ok (.new 37, 3) := by decide +kernel
theorem dX0_init_68 : decode cX0_init 68 = .ok (.dup, 1) := by decide +kernel
theorem dX0_init_69 : decode cX0_init 69 = .ok (.invokespecial 39, 3) := by decide +kernel
theorem dX0_init_72 : decode cX0_init 72 = .ok (.putfield 40, 3) := by decide +kernel
theorem dX0_init_75 : decode cX0_init 75 = .ok (.aload_n 0, 1) := by decide +kernel
theorem dX0_init_76 : decode cX0_init 76 = .ok (.new 37, 3) := by decide +kernel
theorem dX0_init_79 : decode cX0_init 79 = .ok (.dup, 1) := by decide +kernel
theorem dX0_init_80 : decode cX0_init 80 = .ok (.invokespecial 39, 3) := by decide +kernel
theorem dX0_init_83 : decode cX0_init 83 = .ok (.putfield 44, 3) := by decide +kernel
theorem dX0_init_86 : decode cX0_init 86 = .ok (.aload_n 0, 1) := by decide +kernel
theorem dX0_init_87 : decode cX0_init 87 = .ok (.iconst 0, 1) := by decide +kernel
theorem dX0_init_88 : decode cX0_init 88 = .ok (.putfield 47, 3) := by decide +kernel
theorem dX0_init_91 : decode cX0_init 91 = .ok (.return_, 1) := by decide +kernel
theorem dX0_copyFrom_0 : decode cX0_copyFrom 0 = .ok (.aload_n 0, 1) := by decide +kernel
theorem dX0_copyFrom_1 : decode cX0_copyFrom 1 = .ok (.aload_n 1, 1) := by decide +kernel
theorem dX0_copyFrom_2 : decode cX0_copyFrom 2 = .ok (.getfield 9, 3) := by decide +kernel
theorem dX0_copyFrom_5 : decode cX0_copyFrom 5 = .ok (.putfield 9, 3) := by decide +kernel
theorem dX0_copyFrom_8 : decode cX0_copyFrom 8 = .ok (.aload_n 1, 1) := by decide +kernel
theorem dX0_copyFrom_9 : decode cX0_copyFrom 9 = .ok (.getfield 15, 3) := by decide +kernel
theorem dX0_copyFrom_12 : decode cX0_copyFrom 12 = .ok (.iconst 0, 1) := by decide +kernel
theorem dX0_copyFrom_13 : decode cX0_copyFrom 13 = .ok (.aload_n 0, 1) := by decide +kernel
theorem dX0_copyFrom_14 : decode cX0_copyFrom 14 = .ok (.getfield 15, 3) := by decide +kernel
theorem dX0_copyFrom_17 : decode cX0_copyFrom 17 = .ok (.iconst 0, 1) := by decide +kernel
theorem dX0_copyFrom_18 : decode cX0_copyFrom 18 = .ok (.bipush 6, 2) := by decide +kernel
theorem dX0_copyFrom_20 : decode cX0_copyFrom 20 = .ok (.invokestatic 50, 3) := by decide +kernel
theorem dX0_copyFrom_23 : decode cX0_copyFrom 23 = .ok (.aload_n 1, 1) := by decide +kernel
theorem dX0_copyFrom_24 : decode cX0_copyFrom 24 = .ok (.getfield 19, 3) := by decide +kernel
theorem dX0_copyFrom_27 : decode cX0_copyFrom 27 = .ok (.iconst 0, 1) := by decide +kernel
theorem dX0_copyFrom_28 : decode cX0_copyFrom 28 = .ok (.aload_n 0, 1) := by decide +kernel
theorem dX0_copyFrom_29 : decode cX0_copyFrom 29 = .ok (.getfield 19, 3) := by decide +kernel
theorem dX0_copyFrom_32 : decode cX0_copyFrom 32 = .ok (.iconst 0, 1) := by decide +kernel
theorem dX0_copyFrom_33 : decode cX0_copyFrom 33 = .ok (.bipush 6, 2) := by decide +kernel
theorem dX0_copyFrom_35 : decode cX0_copyFrom 35 = .ok (.invokestatic 50, 3) := by decide +kernel
theorem dX0_copyFrom_38 : decode cX0_copyFrom 38 = .ok (.aload_n 1, 1) := by decide +kernel
theorem dX0_copyFrom_39 : decode cX0_copyFrom 39 = .ok (.getfield 22, 3) := by decide +kernel
theorem dX0_copyFrom_42 : decode cX0_copyFrom 42 = .ok (.iconst 0, 1) := by decide +kernel
theorem dX0_copyFrom_43 : decode cX0_copyFrom 43 = .ok (.aload_n 0, 1) := by decide +kernel
theorem dX0_copyFrom_44 : decode cX0_copyFrom 44 = .ok (.getfield 22, 3) := by decide +kernel
theorem dX0_copyFrom_47 : decode cX0_copyFrom 47 = .ok (.iconst 0, 1) := by decide +kernel
theorem dX0_copyFrom_48 : decode cX0_copyFrom 48 = .ok (.bipush 6, 2) := by decide +kernel
theorem dX0_copyFrom_50 : decode cX0_copyFrom 50 = .ok (.invokestatic 50, 3) := by decide +kernel
theorem dX0_copyFrom_53 : decode cX0_copyFrom 53 = .ok (.aload_n 1, 1) := by decide +kernel
theorem dX0_copyFrom_54 : decode cX0_copyFrom 54 = .ok (.getfield 25, 3) := by decide +kernel
theorem dX0_copyFrom_57 : decode cX0_copyFrom 57 = .ok (.iconst 0, 1) := by decide +kernel
theorem dX0_copyFrom_58 : decode cX0_copyFrom 58 = .ok (.aload_n 0, 1) := by decide +kernel
theorem dX0_copyFrom_59 : decode cX0_copyFrom 59 = .ok (.getfield 25, 3) := by decide +kernel
theorem dX0_copyFrom_62 : decode cX0_copyFrom 62 = .ok (.iconst 0, 1) := by decide +kernel
theorem dX0_copyFrom_63 : decode cX0_copyFrom 63 = .ok (.bipush 6, 2) := by decide +kernel
theorem dX0_copyFrom_65 : decode cX0_copyFrom 65 = .ok (.invokestatic 50, 3) := by decide +kernel
theorem dX0_copyFrom_68 : decode cX0_copyFrom 68 = .ok (.aload_n 1, 1) := by decide +kernel
theorem dX0_copyFrom_69 : decode cX0_copyFrom 69 = .ok (.getfield 28, 3) := by decide +kernel
theorem dX0_copyFrom_72 : decode cX0_copyFrom 72 = .ok (.iconst 0, 1) := by decide +kernel
theorem dX0_copyFrom_73 : decode cX0_copyFrom 73 = .ok (.aload_n 0, 1) := by decide +kernel
theorem dX0_copyFrom_74 : decode cX0_copyFrom 74 = .ok (.getfield 28, 3) := by decide +kernel
theorem dX0_copyFrom_77 : decode cX0_copyFrom 77 = .ok (.iconst 0, 1) := by decide +kernel
theorem dX0_copyFrom_78 : decode cX0_copyFrom 78 = .ok (.bipush 10, 2) := by decide +kernel
theorem dX0_copyFrom_80 : decode cX0_copyFrom 80 = .ok (.invokestatic 50, 3) := by decide +kernel
theorem dX0_copyFrom_83 : decode cX0_copyFrom 83 = .ok (.aload_n 0, 1) := by decide +kernel
theorem dX0_copyFrom_84 : decode cX0_copyFrom 84 = .ok (.aload_n 1, 1) := by decide +kernel
theorem dX0_copyFrom_85 : decode cX0_copyFrom 85 = .ok (.getfield 31, 3) := by decide +kernel
theorem dX0_copyFrom_88 : decode cX0_copyFrom 88 = .ok (.putfield 31, 3) := by decide +kernel
theorem dX0_copyFrom_91 : decode cX0_copyFrom 91 = .ok (.aload_n 1, 1) := by decide +kernel
theorem dX0_copyFrom_92 : decode cX0_copyFrom 92 = .ok (.getfield 34, 3) := by decide +kernel
theorem dX0_copyFrom_95 : decode cX0_copyFrom 95 = .ok (.iconst 0, 1) := by decide +kernel
theorem dX0_copyFrom_96 : decode cX0_copyFrom 96 = .ok (.aload_n 0, 1) := by decide +kernel
theorem dX0_copyFrom_97 : decode cX0_copyFrom 97 = .ok (.getfield 34, 3) := by decide +kernel
theorem dX0_copyFrom_100 : decode cX0_copyFrom 100 = .ok (.iconst 0, 1) := by decide +kernel
theorem dX0_copyFrom_101 : decode cX0_copyFrom 101 = .ok (.sipush 360, 3) := by decide +kernel
theorem dX0_copyFrom_104 : decode cX0_copyFrom 104 = .ok (.invokestatic 50, 3) := by decide +kernel
theorem dX0_copyFrom_107 : decode cX0_copyFrom 107 = .ok (.aload_n 0, 1) := by decide +kernel
theorem dX0_copyFrom_108 : decode cX0_copyFrom 108 = .ok (.getfield 40, 3) := by decide +kernel
theorem dX0_copyFrom_111 : decode cX0_copyFrom 111 = .ok (.aload_n 1, 1) := by decide +kernel
theorem dX0_copyFrom_112 : decode cX0_copyFrom 112 = .ok (.getfield 40, 3) := by decide +kernel
theorem dX0_copyFrom_115 : decode cX0_copyFrom 115 = .ok (.invokevirtual 56, 3) := by decide +kernel
theorem dX0_copyFrom_118 : decode cX0_copyFrom 118 = .ok (.aload_n 0, 1) := by decide +kernel
theorem dX0_copyFrom_119 : decode cX0_copyFrom 119 = .ok (.getfield 44, 3) := by decide +kernel
theorem dX0_copyFrom_122 : decode cX0_copyFrom 122 = .ok (.aload_n 1, 1) := by decide +kernel
theorem dX0_copyFrom_123 : decode cX0_copyFrom 123 = .ok (.getfield 44, 3) := by decide +kernel
theorem dX0_copyFrom_126 : decode cX0_copyFrom 126 = .ok (.invokevirtual 56, 3) := by decide +kernel
theorem dX0_copyFrom_129 : decode cX0_copyFrom 129 = .ok (.aload_n 0, 1) := by decide +kernel
theorem dX0_copyFrom_130 : decode cX0_copyFrom 130 = .ok (.aload_n 1, 1) := by decide +kernel
theorem dX0_copyFrom_131 : decode cX0_copyFrom 131 = .ok (.getfield 47, 3) := by decide +kernel
theorem dX0_copyFrom_134 : decode cX0_copyFrom 134 = .ok (.putfield 47, 3) := by decide +kernel
theorem dX0_copyFrom_137 : decode cX0_copyFrom 137 = .ok (.return_, 1) := by decide +kernel
theorem dX0_hasRow_0 : decode cX0_hasRow 0 = .ok (.iload_n 1, 1) := by decide +kernel
theorem dX0_hasRow_1 : decode cX0_hasRow 1 = .ok (.iconst 0, 1) := by decide +kernel
theorem dX0_hasRow_2 : decode cX0_hasRow 2 = .ok (.aload_n 0, 1) := by decide +kernel
theorem dX0_hasRow_3 : decode cX0_hasRow 3 = .ok (.getfield 9, 3) := by decide +kernel
theorem dX0_hasRow_6 : decode cX0_hasRow 6 = .ok (.iconst 1, 1) := by decide +kernel
theorem dX0_hasRow_7 : decode cX0_hasRow 7 = .ok (.isub, 1) := by decide +kernel
theorem dX0_hasRow_8 : decode cX0_hasRow 8 = .ok (.invokestatic 60, 3) := by decide +kernel
theorem dX0_hasRow_11 : decode cX0_hasRow 11 = .ok (.ifCond .ne 7, 3) := by decide +kernel
theorem dX0_hasRow_14 : decode cX0_hasRow 14 = .ok (.iconst 1, 1) := by decide +kernel
theorem dX0_hasRow_15 : decode cX0_hasRow 15 = .ok (.goto 4, 3) := by decide +kernel
theorem dX0_hasRow_18 : decode cX0_hasRow 18 = .ok (.iconst 0, 1) := by decide +kernel
theorem dX0_hasRow_19 : decode cX0_hasRow 19 = .ok (.ireturn, 1) := by decide +kernel
theorem dX0_rightAt_0 : decode cX0_rightAt 0 = .ok (.iload_n 0, 1) := by decide +kernel
theorem dX0_rightAt_1 : decode cX0_rightAt 1 = .ok (.bipush 6, 2) := by decide +kernel
theorem dX0_rightAt_3 : decode cX0_rightAt 3 = .ok (.imul, 1) := by decide +kernel
theorem dX0_rightAt_4 : decode cX0_rightAt 4 = .ok (.iload_n 1, 1) := by decide +kernel
theorem dX0_rightAt_5 : decode cX0_rightAt 5 = .ok (.iadd, 1) := by decide +kernel
theorem dX0_rightAt_6 : decode cX0_rightAt 6 = .ok (.bipush 10, 2) := by decide +kernel
theorem dX0_rightAt_8 : decode cX0_rightAt 8 = .ok (.imul, 1) := by decide +kernel
theorem dX0_rightAt_9 : decode cX0_rightAt 9 = .ok (.iload_n 2, 1) := by decide +kernel
theorem dX0_rightAt_10 : decode cX0_rightAt 10 = .ok (.iadd, 1) := by decide +kernel
theorem dX0_rightAt_11 : decode cX0_rightAt 11 = .ok (.ireturn, 1) := by decide +kernel
theorem dX0_offersOf_0 : decode cX0_offersOf 0 = .ok (.iload_n 1, 1) := by decide +kernel
theorem dX0_offersOf_1 : decode cX0_offersOf 1 = .ok (.ifCond .ne 10, 3) := by decide +kernel
theorem dX0_offersOf_4 : decode cX0_offersOf 4 = .ok (.aload_n 0, 1) := by decide +kernel
theorem dX0_offersOf_5 : decode cX0_offersOf 5 = .ok (.getfield 40, 3) := by decide +kernel
theorem dX0_offersOf_8 : decode cX0_offersOf 8 = .ok (.goto 7, 3) := by decide +kernel
theorem dX0_offersOf_11 : decode cX0_offersOf 11 = .ok (.aload_n 0, 1) := by decide +kernel
theorem dX0_offersOf_12 : decode cX0_offersOf 12 = .ok (.getfield 44, 3) := by decide +kernel
theorem dX0_offersOf_15 : decode cX0_offersOf 15 = .ok (.areturn, 1) := by decide +kernel
theorem dX0_build_0 : decode cX0_build 0 = .ok (.iload_n 1, 1) := by decide +kernel
theorem dX0_build_1 : decode cX0_build 1 = .ok (.iconst 0, 1) := by decide +kernel
theorem dX0_build_2 : decode cX0_build 2 = .ok (.sipush 200, 3) := by decide +kernel
theorem dX0_build_5 : decode cX0_build 5 = .ok (.invokestatic 60, 3) := by decide +kernel
theorem dX0_build_8 : decode cX0_build 8 = .ok (.ifCond .ne 22, 3) := by decide +kernel
theorem dX0_build_11 : decode cX0_build 11 = .ok (.iload_n 2, 1) := by decide +kernel
theorem dX0_build_12 : decode cX0_build 12 = .ok (.iconst 1, 1) := by decide +kernel
theorem dX0_build_13 : decode cX0_build 13 = .ok (.bipush 20, 2) := by decide +kernel
theorem dX0_build_15 : decode cX0_build 15 = .ok (.invokestatic 60, 3) := by decide +kernel
theorem dX0_build_18 : decode cX0_build 18 = .ok (.ifCond .ne 12, 3) := by decide +kernel
theorem dX0_build_21 : decode cX0_build 21 = .ok (.iload_n 3, 1) := by decide +kernel
theorem dX0_build_22 : decode cX0_build 22 = .ok (.iconst 0, 1) := by decide +kernel
theorem dX0_build_23 : decode cX0_build 23 = .ok (.iconst 4, 1) := by decide +kernel
theorem dX0_build_24 : decode cX0_build 24 = .ok (.invokestatic 60, 3) := by decide +kernel
theorem dX0_build_27 : decode cX0_build 27 = .ok (.ifCond .eq 6, 3) := by decide +kernel
theorem dX0_build_30 : decode cX0_build 30 = .ok (.bipush (-2), 2) := by decide +kernel
theorem dX0_build_32 : decode cX0_build 32 = .ok (.ireturn, 1) := by decide +kernel
theorem dX0_build_33 : decode cX0_build 33 = .ok (.aload_n 0, 1) := by decide +kernel
theorem dX0_build_34 : decode cX0_build 34 = .ok (.getfield 9, 3) := by decide +kernel
theorem dX0_build_37 : decode cX0_build 37 = .ok (.bipush 6, 2) := by decide +kernel
theorem dX0_build_39 : decode cX0_build 39 = .ok (.if_icmp .lt 6, 3) := by decide +kernel
theorem dX0_build_42 : decode cX0_build 42 = .ok (.bipush (-4), 2) := by decide +kernel
theorem dX0_build_44 : decode cX0_build 44 = .ok (.ireturn, 1) := by decide +kernel
theorem dX0_build_45 : decode cX0_build 45 = .ok (.aload_n 0, 1) := by decide +kernel
theorem dX0_build_46 : decode cX0_build 46 = .ok (.iload_n 1, 1) := by decide +kernel
theorem dX0_build_47 : decode cX0_build 47 = .ok (.invokevirtual 64, 3) := by decide +kernel
theorem dX0_build_50 : decode cX0_build 50 = .ok (.ifCond .eq 6, 3) := by decide +kernel
theorem dX0_build_53 : decode cX0_build 53 = .ok (.bipush (-5), 2) := by decide +kernel
theorem dX0_build_55 : decode cX0_build 55 = .ok (.ireturn, 1) := by decide +kernel
theorem dX0_build_56 : decode cX0_build 56 = .ok (.aload_n 0, 1) := by decide +kernel
theorem dX0_build_57 : decode cX0_build 57 = .ok (.getfield 9, 3) := by decide +kernel
theorem dX0_build_60 : decode cX0_build 60 = .ok (.istore 4, 2) := by decide +kernel
theorem dX0_build_62 : decode cX0_build 62 = .ok (.aload_n 0, 1) := by decide +kernel
theorem dX0_build_63 : decode cX0_build 63 = .ok (.getfield 15, 3) := by decide +kernel
theorem dX0_build_66 : decode cX0_build 66 = .ok (.iload 4, 2) := by decide +kernel
theorem dX0_build_68 : decode cX0_build 68 = .ok (.iload_n 1, 1) := by decide +kernel
theorem dX0_build_69 : decode cX0_build 69 = .ok (.iastore, 1) := by decide +kernel
theorem dX0_build_70 : decode cX0_build 70 = .ok (.aload_n 0, 1) := by decide +kernel
theorem dX0_build_71 : decode cX0_build 71 = .ok (.getfield 19, 3) := by decide +kernel
theorem dX0_build_74 : decode cX0_build 74 = .ok (.iload 4, 2) := by decide +kernel
theorem dX0_build_76 : decode cX0_build 76 = .ok (.iload_n 2, 1) := by decide +kernel
theorem dX0_build_77 : decode cX0_build 77 = .ok (.iastore, 1) := by decide +kernel
theorem dX0_build_78 : decode cX0_build 78 = .ok (.aload_n 0, 1) := by decide +kernel
theorem dX0_build_79 : decode cX0_build 79 = .ok (.getfield 22, 3) := by decide +kernel
theorem dX0_build_82 : decode cX0_build 82 = .ok (.iload 4, 2) := by decide +kernel
theorem dX0_build_84 : decode cX0_build 84 = .ok (.iload_n 3, 1) := by decide +kernel
theorem dX0_build_85 : decode cX0_build 85 = .ok (.iastore, 1) := by decide +kernel
theorem dX0_build_86 : decode cX0_build 86 = .ok (.aload_n 0, 1) := by decide +kernel
theorem dX0_build_87 : decode cX0_build 87 = .ok (.dup, 1) := by decide +kernel
theorem dX0_build_88 : decode cX0_build 88 = .ok (.getfield 9, 3) := by decide +kernel
theorem dX0_build_91 : decode cX0_build 91 = .ok (.iconst 1, 1) := by decide +kernel
theorem dX0_build_92 : decode cX0_build 92 = .ok (.iadd, 1) := by decide +kernel
theorem dX0_build_93 : decode cX0_build 93 = .ok (.putfield 9, 3) := by decide +kernel
theorem dX0_build_96 : decode cX0_build 96 = .ok (.iload 4, 2) := by decide +kernel
theorem dX0_build_98 : decode cX0_build 98 = .ok (.ireturn, 1) := by decide +kernel
theorem dX0_isTaken_0 : decode cX0_isTaken 0 = .ok (.iconst 0, 1) := by decide +kernel
theorem dX0_isTaken_1 : decode cX0_isTaken 1 = .ok (.istore_n 2, 1) := by decide +kernel
theorem dX0_isTaken_2 : decode cX0_isTaken 2 = .ok (.iload_n 2, 1) := by decide +kernel
theorem dX0_isTaken_3 : decode cX0_isTaken 3 = .ok (.aload_n 0, 1) := by decide +kernel
theorem dX0_isTaken_4 : decode cX0_isTaken 4 = .ok (.getfield 9, 3) := by decide +kernel
theorem dX0_isTaken_7 : decode cX0_isTaken 7 = .ok (.if_icmp .ge 21, 3) := by decide +kernel
theorem dX0_isTaken_10 : decode cX0_isTaken 10 = .ok (.aload_n 0, 1) := by decide +kernel
theorem dX0_isTaken_11 : decode cX0_isTaken 11 = .ok (.getfield 15, 3) := by decide +kernel
theorem dX0_isTaken_14 : decode cX0_isTaken 14 = .ok (.iload_n 2, 1) := by decide +kernel
theorem dX0_isTaken_15 : decode cX0_isTaken 15 = .ok (.iaload, 1) := by decide +kernel
theorem dX0_isTaken_16 : decode cX0_isTaken 16 = .ok (.iload_n 1, 1) := by decide +kernel
theorem dX0_isTaken_17 : decode cX0_isTaken 17 = .ok (.if_icmp .ne 5, 3) := by decide +kernel
theorem dX0_isTaken_20 : decode cX0_isTaken 20 = .ok (.iconst 1, 1) := by decide +kernel
theorem dX0_isTaken_21 : decode cX0_isTaken 21 = .ok (.ireturn, 1) := by decide +kernel
theorem dX0_isTaken_22 : decode cX0_isTaken 22 = .ok (.iinc 2 1, 3) := by decide +kernel
theorem dX0_isTaken_25 : decode cX0_isTaken 25 = .ok (.goto (-23), 3) := by decide +kernel
theorem dX0_isTaken_28 : decode cX0_isTaken 28 = .ok (.iconst 0, 1) := by decide +kernel
theorem dX0_isTaken_29 : decode cX0_isTaken 29 = .ok (.ireturn, 1) := by decide +kernel
theorem dX0_changeTilt_0 : decode cX0_changeTilt 0 = .ok (.aload_n 0, 1) := by decide +kernel
theorem dX0_changeTilt_1 : decode cX0_changeTilt 1 = .ok (.iload_n 1, 1) := by decide +kernel
theorem dX0_changeTilt_2 : decode cX0_changeTilt 2 = .ok (.invokevirtual 68, 3) := by decide +kernel
theorem dX0_changeTilt_5 : decode cX0_changeTilt 5 = .ok (.ifCond .ne 5, 3) := by decide +kernel
theorem dX0_changeTilt_8 : decode cX0_changeTilt 8 = .ok (.iconst (-1), 1) := by decide +kernel
theorem dX0_changeTilt_9 : decode cX0_changeTilt 9 = .ok (.ireturn, 1) := by decide +kernel
theorem dX0_changeTilt_10 : decode cX0_changeTilt 10 = .ok (.iload_n 2, 1) := by decide +kernel
theorem dX0_changeTilt_11 : decode cX0_changeTilt 11 = .ok (.iconst 0, 1) := by decide +kernel
theorem dX0_changeTilt_12 : decode cX0_changeTilt 12 = .ok (.iconst 4, 1) := by decide +kernel
theorem dX0_changeTilt_13 : decode cX0_changeTilt 13 = .ok (.invokestatic 60, 3) := by decide +kernel
theorem dX0_changeTilt_16 : decode cX0_changeTilt 16 = .ok (.ifCond .eq 6, 3) := by decide +kernel
theorem dX0_changeTilt_19 : decode cX0_changeTilt 19 = .ok (.bipush (-2), 2) := by decide +kernel
theorem dX0_changeTilt_21 : decode cX0_changeTilt 21 = .ok (.ireturn, 1) := by decide +kernel
theorem dX0_changeTilt_22 : decode cX0_changeTilt 22 = .ok (.aload_n 0, 1) := by decide +kernel
theorem dX0_changeTilt_23 : decode cX0_changeTilt 23 = .ok (.getfield 22, 3) := by decide +kernel
theorem dX0_changeTilt_26 : decode cX0_changeTilt 26 = .ok (.iload_n 1, 1) := by decide +kernel
theorem dX0_changeTilt_27 : decode cX0_changeTilt 27 = .ok (.iaload, 1) := by decide +kernel
theorem dX0_changeTilt_28 : decode cX0_changeTilt 28 = .ok (.istore_n 3, 1) := by decide +kernel
theorem dX0_changeTilt_29 : decode cX0_changeTilt 29 = .ok (.aload_n 0, 1) := by decide +kernel
theorem dX0_changeTilt_30 : decode cX0_changeTilt 30 = .ok (.getfield 22, 3) := by decide +kernel
theorem dX0_changeTilt_33 : decode cX0_changeTilt 33 = .ok (.iload_n 1, 1) := by decide +kernel
theorem dX0_changeTilt_34 : decode cX0_changeTilt 34 = .ok (.iload_n 2, 1) := by decide +kernel
theorem dX0_changeTilt_35 : decode cX0_changeTilt 35 = .ok (.iastore, 1) := by decide +kernel
theorem dX0_changeTilt_36 : decode cX0_changeTilt 36 = .ok (.iload_n 3, 1) := by decide +kernel
theorem dX0_changeTilt_37 : decode cX0_changeTilt 37 = .ok (.ireturn, 1) := by decide +kernel
theorem dX0_changeWind_0 : decode cX0_changeWind 0 = .ok (.iload_n 1, 1) := by decide +kernel
theorem dX0_changeWind_1 : decode cX0_changeWind 1 = .ok (.invokestatic 71, 3) := by decide +kernel
theorem dX0_changeWind_4 : decode cX0_changeWind 4 = .ok (.ifCond .ne 5, 3) := by decide +kernel
theorem dX0_changeWind_7 : decode cX0_changeWind 7 = .ok (.iconst (-1), 1) := by decide +kernel
theorem dX0_changeWind_8 : decode cX0_changeWind 8 = .ok (.ireturn, 1) := by decide +kernel
theorem dX0_changeWind_9 : decode cX0_changeWind 9 = .ok (.iload_n 2, 1) := by decide +kernel
theorem dX0_changeWind_10 : decode cX0_changeWind 10 = .ok (.iconst 0, 1) := by decide +kernel
theorem dX0_changeWind_11 : decode cX0_changeWind 11 = .ok (.bipush 9, 2) := by decide +kernel
theorem dX0_changeWind_13 : decode cX0_changeWind 13 = .ok (.invokestatic 60, 3) := by decide +kernel
theorem dX0_changeWind_16 : decode cX0_changeWind 16 = .ok (.ifCond .eq 6, 3) := by decide +kernel
theorem dX0_changeWind_19 : decode cX0_changeWind 19 = .ok (.bipush (-2), 2) := by decide +kernel
theorem dX0_changeWind_21 : decode cX0_changeWind 21 = .ok (.ireturn, 1) := by decide +kernel
theorem dX0_changeWind_22 : decode cX0_changeWind 22 = .ok (.aload_n 0, 1) := by decide +kernel
theorem dX0_changeWind_23 : decode cX0_changeWind 23 = .ok (.getfield 28, 3) := by decide +kernel
theorem dX0_changeWind_26 : decode cX0_changeWind 26 = .ok (.iload_n 1, 1) := by decide +kernel
theorem dX0_changeWind_27 : decode cX0_changeWind 27 = .ok (.iaload, 1) := by decide +kernel
theorem dX0_changeWind_28 : decode cX0_changeWind 28 = .ok (.istore_n 3, 1) := by decide +kernel
theorem dX0_changeWind_29 : decode cX0_changeWind 29 = .ok (.aload_n 0, 1) := by decide +kernel
theorem dX0_changeWind_30 : decode cX0_changeWind 30 = .ok (.getfield 28, 3) := by decide +kernel
theorem dX0_changeWind_33 : decode cX0_changeWind 33 = .ok (.iload_n 1, 1) := by decide +kernel
theorem dX0_changeWind_34 : decode cX0_changeWind 34 = .ok (.iload_n 2, 1) := by decide +kernel
theorem dX0_changeWind_35 : decode cX0_changeWind 35 = .ok (.iastore, 1) := by decide +kernel
theorem dX0_changeWind_36 : decode cX0_changeWind 36 = .ok (.iload_n 3, 1) := by decide +kernel
theorem dX0_changeWind_37 : decode cX0_changeWind 37 = .ok (.ireturn, 1) := by decide +kernel
theorem dX0_rightError_0 : decode cX0_rightError 0 = .ok (.aload_n 0, 1) := by decide +kernel
theorem dX0_rightError_1 : decode cX0_rightError 1 = .ok (.iload_n 1, 1) := by decide +kernel
theorem dX0_rightError_2 : decode cX0_rightError 2 = .ok (.invokevirtual 68, 3) := by decide +kernel
theorem dX0_rightError_5 : decode cX0_rightError 5 = .ok (.ifCond .eq 18, 3) := by decide +kernel
theorem dX0_rightError_8 : decode cX0_rightError 8 = .ok (.aload_n 0, 1) := by decide +kernel
theorem dX0_rightError_9 : decode cX0_rightError 9 = .ok (.iload_n 2, 1) := by decide +kernel
theorem dX0_rightError_10 : decode cX0_rightError 10 = .ok (.invokevirtual 68, 3) := by decide +kernel
theorem dX0_rightError_13 : decode cX0_rightError 13 = .ok (.ifCond .eq 10, 3) := by decide +kernel
theorem dX0_rightError_16 : decode cX0_rightError 16 = .ok (.iload_n 3, 1) := by decide +kernel
theorem dX0_rightError_17 : decode cX0_rightError 17 = .ok (.invokestatic 71, 3) := by decide +kernel
theorem dX0_rightError_20 : decode cX0_rightError 20 = .ok (.ifCond .ne 5, 3) := by decide +kernel
theorem dX0_rightError_23 : decode cX0_rightError 23 = .ok (.iconst (-1), 1) := by decide +kernel
theorem dX0_rightError_24 : decode cX0_rightError 24 = .ok (.ireturn, 1) := by decide +kernel
theorem dX0_rightError_25 : decode cX0_rightError 25 = .ok (.iload_n 1, 1) := by decide +kernel
theorem dX0_rightError_26 : decode cX0_rightError 26 = .ok (.iload_n 2, 1) := by decide +kernel
theorem dX0_rightError_27 : decode cX0_rightError 27 = .ok (.if_icmp .eq 15, 3) := by decide +kernel
theorem dX0_rightError_30 : decode cX0_rightError 30 = .ok (.iload 4, 2) := by decide +kernel
theorem dX0_rightError_32 : decode cX0_rightError 32 = .ok (.iconst 0, 1) := by decide +kernel
theorem dX0_rightError_33 : decode cX0_rightError 33 = .ok (.sipush 999, 3) := by decide +kernel
theorem dX0_rightError_36 : decode cX0_rightError 36 = .ok (.invokestatic 60, 3) := by decide +kernel
theorem dX0_rightError_39 : decode cX0_rightError 39 = .ok (.ifCond .eq 8, 3) := by decide +kernel
theorem dX0_rightError_42 : decode cX0_rightError 42 = .ok (.bipush (-2), 2) := by decide +kernel
theorem dX0_rightError_44 : decode cX0_rightError 44 = .ok (.goto 4, 3) := by decide +kernel
theorem dX0_rightError_47 : decode cX0_rightError 47 = .ok (.iconst 0, 1) := by decide +kernel
theorem dX0_rightError_48 : decode cX0_rightError 48 = .ok (.ireturn, 1) := by decide +kernel
theorem dX0_changeRight_0 : decode cX0_changeRight 0 = .ok (.aload_n 0, 1) := by decide +kernel
theorem dX0_changeRight_1 : decode cX0_changeRight 1 = .ok (.iload_n 1, 1) := by decide +kernel
theorem dX0_changeRight_2 : decode cX0_changeRight 2 = .ok (.iload_n 2, 1) := by decide +kernel
theorem dX0_changeRight_3 : decode cX0_changeRight 3 = .ok (.iload_n 3, 1) := by decide +kernel
theorem dX0_changeRight_4 : decode cX0_changeRight 4 = .ok (.iload 4, 2) := by decide +kernel
theorem dX0_changeRight_6 : decode cX0_changeRight 6 = .ok (.invokevirtual 74, 3) := by decide +kernel
theorem dX0_changeRight_9 : decode cX0_changeRight 9 = .ok (.istore 5, 2) := by decide +kernel
theorem dX0_changeRight_11 : decode cX0_changeRight 11 = .ok (.iload 5, 2) := by decide +kernel
theorem dX0_changeRight_13 : decode cX0_changeRight 13 = .ok (.ifCond .eq 6, 3) := by decide +kernel
theorem dX0_changeRight_16 : decode cX0_changeRight 16 = .ok (.iload 5, 2) := by decide +kernel
theorem dX0_changeRight_18 : decode cX0_changeRight 18 = .ok (.ireturn, 1) := by decide +kernel
theorem dX0_changeRight_19 : decode cX0_changeRight 19 = .ok (.iload_n 1, 1) := by decide +kernel
theorem dX0_changeRight_20 : decode cX0_changeRight 20 = .ok (.iload_n 2, 1) := by decide +kernel
theorem dX0_changeRight_21 : decode cX0_changeRight 21 = .ok (.iload_n 3, 1) := by decide +kernel
theorem dX0_changeRight_22 : decode cX0_changeRight 22 = .ok (.invokestatic 78, 3) := by decide +kernel
theorem dX0_changeRight_25 : decode cX0_changeRight 25 = .ok (.istore 6, 2) := by decide +kernel
theorem dX0_changeRight_27 : decode cX0_changeRight 27 = .ok (.aload_n 0, 1) := by decide +kernel
theorem dX0_changeRight_28 : decode cX0_changeRight 28 = .ok (.getfield 34, 3) := by decide +kernel
theorem dX0_changeRight_31 : decode cX0_changeRight 31 = .ok (.iload 6, 2) := by decide +kernel
theorem dX0_changeRight_33 : decode cX0_changeRight 33 = .ok (.iaload, 1) := by decide +kernel
theorem dX0_changeRight_34 : decode cX0_changeRight 34 = .ok (.istore 7, 2) := by decide +kernel
theorem dX0_changeRight_36 : decode cX0_changeRight 36 = .ok (.aload_n 0, 1) := by decide +kernel
theorem dX0_changeRight_37 : decode cX0_changeRight 37 = .ok (.getfield 34, 3) := by decide +kernel
theorem dX0_changeRight_40 : decode cX0_changeRight 40 = .ok (.iload 6, 2) := by decide +kernel
theorem dX0_changeRight_42 : decode cX0_changeRight 42 = .ok (.iload 4, 2) := by decide +kernel
theorem dX0_changeRight_44 : decode cX0_changeRight 44 = .ok (.iastore, 1) := by decide +kernel
theorem dX0_changeRight_45 : decode cX0_changeRight 45 = .ok (.iload 7, 2) := by decide +kernel
theorem dX0_changeRight_47 : decode cX0_changeRight 47 = .ok (.ireturn, 1) := by decide +kernel
theorem dX1_init_0 : decode cX1_init 0 = .ok (.aload_n 0, 1) := by decide +kernel
theorem dX1_init_1 : decode cX1_init 1 = .ok (.invokespecial 3, 3) := by decide +kernel
theorem dX1_init_4 : decode cX1_init 4 = .ok (.aload_n 0, 1) := by decide +kernel
theorem dX1_init_5 : decode cX1_init 5 = .ok (.iconst 0, 1) := by decide +kernel
theorem dX1_init_6 : decode cX1_init 6 = .ok (.putfield 9, 3) := by decide +kernel
theorem dX1_init_9 : decode cX1_init 9 = .ok (.aload_n 0, 1) := by decide +kernel
theorem dX1_init_10 : decode cX1_init 10 = .ok (.bipush 7, 2) := by decide +kernel
theorem dX1_init_12 : decode cX1_init 12 = .ok (.anewarray 15, 3) := by decide +kernel
theorem dX1_init_15 : decode cX1_init 15 = .ok (.putfield 17, 3) := by decide +kernel
theorem dX1_init_18 : decode cX1_init 18 = .ok (.iconst 0, 1) := by decide +kernel
theorem dX1_init_19 : decode cX1_init 19 = .ok (.istore_n 1, 1) := by decide +kernel
theorem dX1_init_20 : decode cX1_init 20 = .ok (.iload_n 1, 1) := by decide +kernel
theorem dX1_init_21 : decode cX1_init 21 = .ok (.bipush 6, 2) := by decide +kernel
theorem dX1_init_23 : decode cX1_init 23 = .ok (.if_icmp .gt 22, 3) := by decide +kernel
theorem dX1_init_26 : decode cX1_init 26 = .ok (.aload_n 0, 1) := by decide +kernel
theorem dX1_init_27 : decode cX1_init 27 = .ok (.getfield 17, 3) := by decide +kernel
theorem dX1_init_30 : decode cX1_init 30 = .ok (.iload_n 1, 1) := by decide +kernel
theorem dX1_init_31 : decode cX1_init 31 = .ok (.new 15, 3) := by decide +kernel
theorem dX1_init_34 : decode cX1_init 34 = .ok (.dup, 1) := by decide +kernel
theorem dX1_init_35 : decode cX1_init 35 = .ok (.invokespecial 21, 3) := by decide +kernel
theorem dX1_init_38 : decode cX1_init 38 = .ok (.aastore, 1) := by decide +kernel
theorem dX1_init_39 : decode cX1_init 39 = .ok (.iinc 1 1, 3) := by decide +kernel
theorem dX1_init_42 : decode cX1_init 42 = .ok (.goto (-22), 3) := by decide +kernel
theorem dX1_init_45 : decode cX1_init 45 = .ok (.return_, 1) := by decide +kernel
theorem dX1_mark_0 : decode cX1_mark 0 = .ok (.aload_n 0, 1) := by decide +kernel
theorem dX1_mark_1 : decode cX1_mark 1 = .ok (.getfield 17, 3) := by decide +kernel
theorem dX1_mark_4 : decode cX1_mark 4 = .ok (.aload_n 0, 1) := by decide +kernel
theorem dX1_mark_5 : decode cX1_mark 5 = .ok (.getfield 9, 3) := by decide +kernel
theorem dX1_mark_8 : decode cX1_mark 8 = .ok (.aaload, 1) := by decide +kernel
theorem dX1_mark_9 : decode cX1_mark 9 = .ok (.aload_n 1, 1) := by decide +kernel
theorem dX1_mark_10 : decode cX1_mark 10 = .ok (.invokevirtual 22, 3) := by decide +kernel
theorem dX1_mark_13 : decode cX1_mark 13 = .ok (.return_, 1) := by decide +kernel
theorem dX1_keep_0 : decode cX1_keep 0 = .ok (.iload_n 1, 1) := by decide +kernel
theorem dX1_keep_1 : decode cX1_keep 1 = .ok (.ifCond .lt 25, 3) := by decide +kernel
theorem dX1_keep_4 : decode cX1_keep 4 = .ok (.aload_n 0, 1) := by decide +kernel
theorem dX1_keep_5 : decode cX1_keep 5 = .ok (.getfield 9, 3) := by decide +kernel
theorem dX1_keep_8 : decode cX1_keep 8 = .ok (.bipush 6, 2) := by decide +kernel
theorem dX1_keep_10 : decode cX1_keep 10 = .ok (.if_icmp .ge 16, 3) := by decide +kernel
theorem dX1_keep_13 : decode cX1_keep 13 = .ok (.aload_n 0, 1) := by decide +kernel
theorem dX1_keep_14 : decode cX1_keep 14 = .ok (.dup, 1) := by decide +kernel
theorem dX1_keep_15 : decode cX1_keep 15 = .ok (.getfield 9, 3) := by decide +kernel
theorem dX1_keep_18 : decode cX1_keep 18 = .ok (.iconst 1, 1) := by decide +kernel
theorem dX1_keep_19 : decode cX1_keep 19 = .ok (.iadd, 1) := by decide +kernel
theorem dX1_keep_20 : decode cX1_keep 20 = .ok (.putfield 9, 3) := by decide +kernel
theorem dX1_keep_23 : decode cX1_keep 23 = .ok (.goto 11, 3) := by decide +kernel
theorem dX1_keep_26 : decode cX1_keep 26 = .ok (.iload_n 1, 1) := by decide +kernel
theorem dX1_keep_27 : decode cX1_keep 27 = .ok (.ifCond .lt 7, 3) := by decide +kernel
theorem dX1_keep_30 : decode cX1_keep 30 = .ok (.aload_n 0, 1) := by decide +kernel
theorem dX1_keep_31 : decode cX1_keep 31 = .ok (.invokevirtual 26, 3) := by decide +kernel
theorem dX1_keep_34 : decode cX1_keep 34 = .ok (.iload_n 1, 1) := by decide +kernel
theorem dX1_keep_35 : decode cX1_keep 35 = .ok (.ireturn, 1) := by decide +kernel
theorem dX1_dropOldest_0 : decode cX1_dropOldest 0 = .ok (.aload_n 0, 1) := by decide +kernel
theorem dX1_dropOldest_1 : decode cX1_dropOldest 1 = .ok (.getfield 17, 3) := by decide +kernel
theorem dX1_dropOldest_4 : decode cX1_dropOldest 4 = .ok (.iconst 0, 1) := by decide +kernel
theorem dX1_dropOldest_5 : decode cX1_dropOldest 5 = .ok (.aaload, 1) := by decide +kernel
theorem dX1_dropOldest_6 : decode cX1_dropOldest 6 = .ok (.astore_n 1, 1) := by decide +kernel
theorem dX1_dropOldest_7 : decode cX1_dropOldest 7 = .ok (.iconst 0, 1) := by decide +kernel
theorem dX1_dropOldest_8 : decode cX1_dropOldest 8 = .ok (.istore_n 2, 1) := by decide +kernel
theorem dX1_dropOldest_9 : decode cX1_dropOldest 9 = .ok (.iload_n 2, 1) := by decide +kernel
theorem dX1_dropOldest_10 : decode cX1_dropOldest 10 = .ok (.bipush 6, 2) := by decide +kernel
theorem dX1_dropOldest_12 : decode cX1_dropOldest 12 = .ok (.if_icmp .ge 23, 3) := by decide +kernel
theorem dX1_dropOldest_15 : decode cX1_dropOldest 15 = .ok (.aload_n 0, 1) := by decide +kernel
theorem dX1_dropOldest_16 : decode cX1_dropOldest 16 = .ok (.getfield 17, 3) := by decide +kernel
theorem dX1_dropOldest_19 : decode cX1_dropOldest 19 = .ok (.iload_n 2, 1) := by decide +kernel
theorem dX1_dropOldest_20 : decode cX1_dropOldest 20 = .ok (.aload_n 0, 1) := by decide +kernel
theorem dX1_dropOldest_21 : decode cX1_dropOldest 21 = .ok (.getfield 17, 3) := by decide +kernel
theorem dX1_dropOldest_24 : decode cX1_dropOldest 24 = .ok (.iload_n 2, 1) := by decide +kernel
theorem dX1_dropOldest_25 : decode cX1_dropOldest 25 = .ok (.iconst 1, 1) := by decide +kernel
theorem dX1_dropOldest_26 : decode cX1_dropOldest 26 = .ok (.iadd, 1) := by decide +kernel
theorem dX1_dropOldest_27 : decode cX1_dropOldest 27 = .ok (.aaload, 1) := by decide +kernel
theorem dX1_dropOldest_28 : decode cX1_dropOldest 28 = .ok (.aastore, 1) := by decide +kernel
theorem dX1_dropOldest_29 : decode cX1_dropOldest 29 = .ok (.iinc 2 1, 3) := by decide +kernel
theorem dX1_dropOldest_32 : decode cX1_dropOldest 32 = .ok (.goto (-23), 3) := by decide +kernel
theorem dX1_dropOldest_35 : decode cX1_dropOldest 35 = .ok (.aload_n 0, 1) := by decide +kernel
theorem dX1_dropOldest_36 : decode cX1_dropOldest 36 = .ok (.getfield 17, 3) := by decide +kernel
theorem dX1_dropOldest_39 : decode cX1_dropOldest 39 = .ok (.bipush 6, 2) := by decide +kernel
theorem dX1_dropOldest_41 : decode cX1_dropOldest 41 = .ok (.aload_n 1, 1) := by decide +kernel
theorem dX1_dropOldest_42 : decode cX1_dropOldest 42 = .ok (.aastore, 1) := by decide +kernel
theorem dX1_dropOldest_43 : decode cX1_dropOldest 43 = .ok (.return_, 1) := by decide +kernel
theorem dX1_goBack_0 : decode cX1_goBack 0 = .ok (.aload_n 0, 1) := by decide +kernel
theorem dX1_goBack_1 : decode cX1_goBack 1 = .ok (.getfield 9, 3) := by decide +kernel
theorem dX1_goBack_4 : decode cX1_goBack 4 = .ok (.ifCond .ne 6, 3) := by decide +kernel
theorem dX1_goBack_7 : decode cX1_goBack 7 = .ok (.bipush (-5), 2) := by decide +kernel
theorem dX1_goBack_9 : decode cX1_goBack 9 = .ok (.ireturn, 1) := by decide +kernel
theorem dX1_goBack_10 : decode cX1_goBack 10 = .ok (.aload_n 0, 1) := by decide +kernel
theorem dX1_goBack_11 : decode cX1_goBack 11 = .ok (.dup, 1) := by decide +kernel
theorem dX1_goBack_12 : decode cX1_goBack 12 = .ok (.getfield 9, 3) := by decide +kernel
theorem dX1_goBack_15 : decode cX1_goBack 15 = .ok (.iconst 1, 1) := by decide +kernel
theorem dX1_goBack_16 : decode cX1_goBack 16 = .ok (.isub, 1) := by decide +kernel
theorem dX1_goBack_17 : decode cX1_goBack 17 = .ok (.putfield 9, 3) := by decide +kernel
theorem dX1_goBack_20 : decode cX1_goBack 20 = .ok (.aload_n 1, 1) := by decide +kernel
theorem dX1_goBack_21 : decode cX1_goBack 21 = .ok (.aload_n 0, 1) := by decide +kernel
theorem dX1_goBack_22 : decode cX1_goBack 22 = .ok (.getfield 17, 3) := by decide +kernel
theorem dX1_goBack_25 : decode cX1_goBack 25 = .ok (.aload_n 0, 1) := by decide +kernel
theorem dX1_goBack_26 : decode cX1_goBack 26 = .ok (.getfield 9, 3) := by decide +kernel
theorem dX1_goBack_29 : decode cX1_goBack 29 = .ok (.aaload, 1) := by decide +kernel
theorem dX1_goBack_30 : decode cX1_goBack 30 = .ok (.invokevirtual 22, 3) := by decide +kernel
theorem dX1_goBack_33 : decode cX1_goBack 33 = .ok (.aload_n 0, 1) := by decide +kernel
theorem dX1_goBack_34 : decode cX1_goBack 34 = .ok (.getfield 9, 3) := by decide +kernel
theorem dX1_goBack_37 : decode cX1_goBack 37 = .ok (.ireturn, 1) := by decide +kernel
theorem dX2_init_0 : decode cX2_init 0 = .ok (.aload_n 0, 1) := by decide +kernel
theorem dX2_init_1 : decode cX2_init 1 = .ok (.invokespecial 3, 3) := by decide +kernel
theorem dX2_init_4 : decode cX2_init 4 = .ok (.aload_n 0, 1) := by decide +kernel
theorem dX2_init_5 : decode cX2_init 5 = .ok (.iconst 0, 1) := by decide +kernel
theorem dX2_init_6 : decode cX2_init 6 = .ok (.putfield 9, 3) := by decide +kernel
theorem dX2_init_9 : decode cX2_init 9 = .ok (.aload_n 0, 1) := by decide +kernel
theorem dX2_init_10 : decode cX2_init 10 = .ok (.bipush 36, 2) := by decide +kernel
theorem dX2_init_12 : decode cX2_init 12 = .ok (.newarray .int, 2) := by decide +kernel
theorem dX2_init_14 : decode cX2_init 14 = .ok (.putfield 15, 3) := by decide +kernel
theorem dX2_init_17 : decode cX2_init 17 = .ok (.aload_n 0, 1) := by decide +kernel
theorem dX2_init_18 : decode cX2_init 18 = .ok (.bipush 6, 2) := by decide +kernel
theorem dX2_init_20 : decode cX2_init 20 = .ok (.newarray .int, 2) := by decide +kernel
theorem dX2_init_22 : decode cX2_init 22 = .ok (.putfield 19, 3) := by decide +kernel
theorem dX2_init_25 : decode cX2_init 25 = .ok (.aload_n 0, 1) := by decide +kernel
theorem dX2_init_26 : decode cX2_init 26 = .ok (.bipush 6, 2) := by decide +kernel
theorem dX2_init_28 : decode cX2_init 28 = .ok (.newarray .int, 2) := by decide +kernel
theorem dX2_init_30 : decode cX2_init 30 = .ok (.putfield 22, 3) := by decide +kernel
theorem dX2_init_33 : decode cX2_init 33 = .ok (.aload_n 0, 1) := by decide +kernel
theorem dX2_init_34 : decode cX2_init 34 = .ok (.bipush 6, 2) := by decide +kernel
theorem dX2_init_36 : decode cX2_init 36 = .ok (.newarray .int, 2) := by decide +kernel
theorem dX2_init_38 : decode cX2_init 38 = .ok (.putfield 25, 3) := by decide +kernel
theorem dX2_init_41 : decode cX2_init 41 = .ok (.aload_n 0, 1) := by decide +kernel
theorem dX2_init_42 : decode cX2_init 42 = .ok (.aload_n 1, 1) := by decide +kernel
theorem dX2_init_43 : decode cX2_init 43 = .ok (.putfield 28, 3) := by decide +kernel
theorem dX2_init_46 : decode cX2_init 46 = .ok (.return_, 1) := by decide +kernel
theorem dX2_look_0 : decode cX2_look 0 = .ok (.aload_n 0, 1) := by decide +kernel
theorem dX2_look_1 : decode cX2_look 1 = .ok (.iload_n 1, 1) := by decide +kernel
theorem dX2_look_2 : decode cX2_look 2 = .ok (.putfield 9, 3) := by decide +kernel
theorem dX2_look_5 : decode cX2_look 5 = .ok (.iconst 0, 1) := by decide +kernel
theorem dX2_look_6 : decode cX2_look 6 = .ok (.istore_n 2, 1) := by decide +kernel
theorem dX2_look_7 : decode cX2_look 7 = .ok (.iload_n 2, 1) := by decide +kernel
theorem dX2_look_8 : decode cX2_look 8 = .ok (.aload_n 0, 1) := by decide +kernel
theorem dX2_look_9 : decode cX2_look 9 = .ok (.getfield 28, 3) := by decide +kernel
theorem dX2_look_12 : decode cX2_look 12 = .ok (.getfield 32, 3) := by decide +kernel
theorem dX2_look_15 : decode cX2_look 15 = .ok (.if_icmp .ge 77, 3) := by decide +kernel
theorem dX2_look_18 : decode cX2_look 18 = .ok (.iconst 0, 1) := by decide +kernel
theorem dX2_look_19 : decode cX2_look 19 = .ok (.istore_n 3, 1) := by decide +kernel
theorem dX2_look_20 : decode cX2_look 20 = .ok (.iload_n 3, 1) := by decide +kernel
theorem dX2_look_21 : decode cX2_look 21 = .ok (.aload_n 0, 1) := by decide +kernel
theorem dX2_look_22 : decode cX2_look 22 = .ok (.getfield 28, 3) := by decide +kernel
theorem dX2_look_25 : decode cX2_look 25 = .ok (.getfield 32, 3) := by decide +kernel
theorem dX2_look_28 : decode cX2_look 28 = .ok (.if_icmp .ge 26, 3) := by decide +kernel
theorem dX2_look_31 : decode cX2_look 31 = .ok (.aload_n 0, 1) := by decide +kernel
theorem dX2_look_32 : decode cX2_look 32 = .ok (.getfield 15, 3) := by decide +kernel
theorem dX2_look_35 : decode cX2_look 35 = .ok (.iload_n 2, 1) := by decide +kernel
theorem dX2_look_36 : decode cX2_look 36 = .ok (.bipush 6, 2) := by decide +kernel
theorem dX2_look_38 : decode cX2_look 38 = .ok (.imul, 1) := by decide +kernel
theorem dX2_look_39 : decode cX2_look 39 = .ok (.iload_n 3, 1) := by decide +kernel
theorem dX2_look_40 : decode cX2_look 40 = .ok (.iadd, 1) := by decide +kernel
theorem dX2_look_41 : decode cX2_look 41 = .ok (.aload_n 0, 1) := by decide +kernel
theorem dX2_look_42 : decode cX2_look 42 = .ok (.iload_n 2, 1) := by decide +kernel
theorem dX2_look_43 : decode cX2_look 43 = .ok (.iload_n 3, 1) := by decide +kernel
theorem dX2_look_44 : decode cX2_look 44 = .ok (.invokevirtual 37, 3) := by decide +kernel
theorem dX2_look_47 : decode cX2_look 47 = .ok (.iastore, 1) := by decide +kernel
theorem dX2_look_48 : decode cX2_look 48 = .ok (.iinc 3 1, 3) := by decide +kernel
theorem dX2_look_51 : decode cX2_look 51 = .ok (.goto (-31), 3) := by decide +kernel
theorem dX2_look_54 : decode cX2_look 54 = .ok (.aload_n 0, 1) := by decide +kernel
theorem dX2_look_55 : decode cX2_look 55 = .ok (.getfield 19, 3) := by decide +kernel
theorem dX2_look_58 : decode cX2_look 58 = .ok (.iload_n 2, 1) := by decide +kernel
theorem dX2_look_59 : decode cX2_look 59 = .ok (.aload_n 0, 1) := by decide +kernel
theorem dX2_look_60 : decode cX2_look 60 = .ok (.iload_n 2, 1) := by decide +kernel
theorem dX2_look_61 : decode cX2_look 61 = .ok (.invokevirtual 41, 3) := by decide +kernel
theorem dX2_look_64 : decode cX2_look 64 = .ok (.iastore, 1) := by decide +kernel
theorem dX2_look_65 : decode cX2_look 65 = .ok (.aload_n 0, 1) := by decide +kernel
theorem dX2_look_66 : decode cX2_look 66 = .ok (.getfield 22, 3) := by decide +kernel
theorem dX2_look_69 : decode cX2_look 69 = .ok (.iload_n 2, 1) := by decide +kernel
theorem dX2_look_70 : decode cX2_look 70 = .ok (.aload_n 0, 1) := by decide +kernel
theorem dX2_look_71 : decode cX2_look 71 = .ok (.getfield 28, 3) := by decide +kernel
theorem dX2_look_74 : decode cX2_look 74 = .ok (.getfield 45, 3) := by decide +kernel
theorem dX2_look_77 : decode cX2_look 77 = .ok (.iload_n 2, 1) := by decide +kernel
theorem dX2_look_78 : decode cX2_look 78 = .ok (.iaload, 1) := by decide +kernel
theorem dX2_look_79 : decode cX2_look 79 = .ok (.aload_n 0, 1) := by decide +kernel
theorem dX2_look_80 : decode cX2_look 80 = .ok (.iload_n 2, 1) := by decide +kernel
theorem dX2_look_81 : decode cX2_look 81 = .ok (.invokevirtual 48, 3) := by decide +kernel
theorem dX2_look_84 : decode cX2_look 84 = .ok (.imul, 1) := by decide +kernel
theorem dX2_look_85 : decode cX2_look 85 = .ok (.iastore, 1) := by decide +kernel
theorem dX2_look_86 : decode cX2_look 86 = .ok (.iinc 2 1, 3) := by decide +kernel
theorem dX2_look_89 : decode cX2_look 89 = .ok (.goto (-82), 3) := by decide +kernel
theorem dX2_look_92 : decode cX2_look 92 = .ok (.return_, 1) := by decide +kernel
theorem dX2_isFlat_0 : decode cX2_isFlat 0 = .ok (.aload_n 0, 1) := by decide +kernel
theorem dX2_isFlat_1 : decode cX2_isFlat 1 = .ok (.getfield 28, 3) := by decide +kernel
theorem dX2_isFlat_4 : decode cX2_isFlat 4 = .ok (.getfield 51, 3) := by decide +kernel
theorem dX2_isFlat_7 : decode cX2_isFlat 7 = .ok (.aload_n 0, 1) := by decide +kernel
theorem dX2_isFlat_8 : decode cX2_isFlat 8 = .ok (.getfield 9, 3) := by decide +kernel
theorem dX2_isFlat_11 : decode cX2_isFlat 11 = .ok (.iaload, 1) := by decide +kernel
theorem dX2_isFlat_12 : decode cX2_isFlat 12 = .ok (.aload_n 0, 1) := by decide +kernel
theorem dX2_isFlat_13 : decode cX2_isFlat 13 = .ok (.getfield 28, 3) := by decide +kernel
theorem dX2_isFlat_16 : decode cX2_isFlat 16 = .ok (.getfield 54, 3) := by decide +kernel
theorem dX2_isFlat_19 : decode cX2_isFlat 19 = .ok (.if_icmp .lt 7, 3) := by decide +kernel
theorem dX2_isFlat_22 : decode cX2_isFlat 22 = .ok (.iconst 1, 1) := by decide +kernel
theorem dX2_isFlat_23 : decode cX2_isFlat 23 = .ok (.goto 4, 3) := by decide +kernel
theorem dX2_isFlat_26 : decode cX2_isFlat 26 = .ok (.iconst 0, 1) := by decide +kernel
theorem dX2_isFlat_27 : decode cX2_isFlat 27 = .ok (.ireturn, 1) := by decide +kernel
theorem dX2_sun_0 : decode cX2_sun 0 = .ok (.getstatic 57, 3) := by decide +kernel
theorem dX2_sun_3 : decode cX2_sun 3 = .ok (.aload_n 0, 1) := by decide +kernel
theorem dX2_sun_4 : decode cX2_sun 4 = .ok (.getfield 9, 3) := by decide +kernel
theorem dX2_sun_7 : decode cX2_sun 7 = .ok (.iaload, 1) := by decide +kernel
theorem dX2_sun_8 : decode cX2_sun 8 = .ok (.ireturn, 1) := by decide +kernel
theorem dX2_ahead_0 : decode cX2_ahead 0 = .ok (.aload_n 0, 1) := by decide +kernel
theorem dX2_ahead_1 : decode cX2_ahead 1 = .ok (.getfield 28, 3) := by decide +kernel
theorem dX2_ahead_4 : decode cX2_ahead 4 = .ok (.getfield 60, 3) := by decide +kernel
theorem dX2_ahead_7 : decode cX2_ahead 7 = .ok (.iload_n 2, 1) := by decide +kernel
theorem dX2_ahead_8 : decode cX2_ahead 8 = .ok (.iaload, 1) := by decide +kernel
theorem dX2_ahead_9 : decode cX2_ahead 9 = .ok (.aload_n 0, 1) := by decide +kernel
theorem dX2_ahead_10 : decode cX2_ahead 10 = .ok (.getfield 28, 3) := by decide +kernel
theorem dX2_ahead_13 : decode cX2_ahead 13 = .ok (.getfield 60, 3) := by decide +kernel
theorem dX2_ahead_16 : decode cX2_ahead 16 = .ok (.iload_n 1, 1) := by decide +kernel
theorem dX2_ahead_17 : decode cX2_ahead 17 = .ok (.iaload, 1) := by decide +kernel
theorem dX2_ahead_18 : decode cX2_ahead 18 = .ok (.isub, 1) := by decide +kernel
theorem dX2_ahead_19 : decode cX2_ahead 19 = .ok (.istore_n 3, 1) := by decide +kernel
theorem dX2_ahead_20 : decode cX2_ahead 20 = .ok (.aload_n 0, 1) := by decide +kernel
theorem dX2_ahead_21 : decode cX2_ahead 21 = .ok (.getfield 9, 3) := by decide +kernel
theorem dX2_ahead_24 : decode cX2_ahead 24 = .ok (.iconst 5, 1) := by decide +kernel
theorem dX2_ahead_25 : decode cX2_ahead 25 = .ok (.if_icmp .ge 7, 3) := by decide +kernel
theorem dX2_ahead_28 : decode cX2_ahead 28 = .ok (.iload_n 3, 1) := by decide +kernel
theorem dX2_ahead_29 : decode cX2_ahead 29 = .ok (.goto 5, 3) := by decide +kernel
theorem dX2_ahead_32 : decode cX2_ahead 32 = .ok (.iload_n 3, 1) := by decide +kernel
theorem dX2_ahead_33 : decode cX2_ahead 33 = .ok (.ineg, 1) := by decide +kernel
theorem dX2_ahead_34 : decode cX2_ahead 34 = .ok (.ireturn, 1) := by decide +kernel
theorem dX2_lossBetween_0 : decode cX2_lossBetween 0 = .ok (.aload_n 0, 1) := by decide +kernel
theorem dX2_lossBetween_1 : decode cX2_lossBetween 1 = .ok (.iload_n 1, 1) := by decide +kernel
theorem dX2_lossBetween_2 : decode cX2_lossBetween 2 = .ok (.iload_n 2, 1) := by decide +kernel
theorem dX2_lossBetween_3 : decode cX2_lossBetween 3 = .ok (.invokevirtual 63, 3) := by decide +kernel
theorem dX2_lossBetween_6 : decode cX2_lossBetween 6 = .ok (.istore_n 3, 1) := by decide +kernel
theorem dX2_lossBetween_7 : decode cX2_lossBetween 7 = .ok (.getstatic 66, 3) := by decide +kernel
theorem dX2_lossBetween_10 : decode cX2_lossBetween 10 = .ok (.aload_n 0, 1) := by decide +kernel
theorem dX2_lossBetween_11 : decode cX2_lossBetween 11 = .ok (.getfield 9, 3) := by decide +kernel
theorem dX2_lossBetween_14 : decode cX2_lossBetween 14 = .ok (.iaload, 1) := by decide +kernel
theorem dX2_lossBetween_15 : decode cX2_lossBetween 15 = .ok (.istore 4, 2) := by decide +kernel
theorem dX2_lossBetween_17 : decode cX2_lossBetween 17 = .ok (.iload_n 3, 1) := by decide +kernel
theorem dX2_lossBetween_18 : decode cX2_lossBetween 18 = .ok (.ifCond .le 17, 3) := by decide +kernel
theorem dX2_lossBetween_21 : decode cX2_lossBetween 21 = .ok (.iconst 2, 1) := by decide +kernel
theorem dX2_lossBetween_22 : decode cX2_lossBetween 22 = .ok (.iload_n 3, 1) := by decide +kernel
theorem dX2_lossBetween_23 : decode cX2_lossBetween 23 = .ok (.imul, 1) := by decide +kernel
theorem dX2_lossBetween_24 : decode cX2_lossBetween 24 = .ok (.iload 4, 2) := by decide +kernel
theorem dX2_lossBetween_26 : decode cX2_lossBetween 26 = .ok (.iadd, 1) := by decide +kernel
theorem dX2_lossBetween_27 : decode cX2_lossBetween 27 = .ok (.iconst 1, 1) := by decide +kernel
theorem dX2_lossBetween_28 : decode cX2_lossBetween 28 = .ok (.isub, 1) := by decide +kernel
theorem dX2_lossBetween_29 : decode cX2_lossBetween 29 = .ok (.iload 4, 2) := by decide +kernel
theorem dX2_lossBetween_31 : decode cX2_lossBetween 31 = .ok (.idiv, 1) := by decide +kernel
theorem dX2_lossBetween_32 : decode cX2_lossBetween 32 = .ok (.goto 6, 3) := by decide +kernel
theorem dX2_lossBetween_35 : decode cX2_lossBetween 35 = .ok (.sipush 1000, 3) := by decide +kernel
theorem dX2_lossBetween_38 : decode cX2_lossBetween 38 = .ok (.ireturn, 1) := by decide +kernel
theorem dX2_limitOf_0 : decode cX2_limitOf 0 = .ok (.aload_n 0, 1) := by decide +kernel
theorem dX2_limitOf_1 : decode cX2_limitOf 1 = .ok (.invokevirtual 69, 3) := by decide +kernel
theorem dX2_limitOf_4 : decode cX2_limitOf 4 = .ok (.ifCond .eq 5, 3) := by decide +kernel
theorem dX2_limitOf_7 : decode cX2_limitOf 7 = .ok (.iconst 0, 1) := by decide +kernel
theorem dX2_limitOf_8 : decode cX2_limitOf 8 = .ok (.ireturn, 1) := by decide +kernel
theorem dX2_limitOf_9 : decode cX2_limitOf 9 = .ok (.sipush 1000, 3) := by decide +kernel
theorem dX2_limitOf_12 : decode cX2_limitOf 12 = .ok (.istore_n 2, 1) := by decide +kernel
theorem dX2_limitOf_13 : decode cX2_limitOf 13 = .ok (.iconst 0, 1) := by decide +kernel
theorem dX2_limitOf_14 : decode cX2_limitOf 14 = .ok (.istore_n 3, 1) := by decide +kernel
theorem dX2_limitOf_15 : decode cX2_limitOf 15 = .ok (.iload_n 3, 1) := by decide +kernel
theorem dX2_limitOf_16 : decode cX2_limitOf 16 = .ok (.aload_n 0, 1) := by decide +kernel
theorem dX2_limitOf_17 : decode cX2_limitOf 17 = .ok (.getfield 28, 3) := by decide +kernel
theorem dX2_limitOf_20 : decode cX2_limitOf 20 = .ok (.getfield 32, 3) := by decide +kernel
theorem dX2_limitOf_23 : decode cX2_limitOf 23 = .ok (.if_icmp .ge 52, 3) := by decide +kernel
theorem dX2_limitOf_26 : decode cX2_limitOf 26 = .ok (.iload_n 3, 1) := by decide +kernel
theorem dX2_limitOf_27 : decode cX2_limitOf 27 = .ok (.iload_n 1, 1) := by decide +kernel
theorem dX2_limitOf_28 : decode cX2_limitOf 28 = .ok (.if_icmp .eq 41, 3) := by decide +kernel
theorem dX2_limitOf_31 : decode cX2_limitOf 31 = .ok (.aload_n 0, 1) := by decide +kernel
theorem dX2_limitOf_32 : decode cX2_limitOf 32 = .ok (.getfield 28, 3) := by decide +kernel
theorem dX2_limitOf_35 : decode cX2_limitOf 35 = .ok (.getfield 73, 3) := by decide +kernel
theorem dX2_limitOf_38 : decode cX2_limitOf 38 = .ok (.iload_n 1, 1) := by decide +kernel
theorem dX2_limitOf_39 : decode cX2_limitOf 39 = .ok (.iload_n 3, 1) := by decide +kernel
theorem dX2_limitOf_40 : decode cX2_limitOf 40 = .ok (.aload_n 0, 1) := by decide +kernel
theorem dX2_limitOf_41 : decode cX2_limitOf 41 = .ok (.getfield 9, 3) := by decide +kernel
theorem dX2_limitOf_44 : decode cX2_limitOf 44 = .ok (.invokestatic 76, 3) := by decide +kernel
theorem dX2_limitOf_47 : decode cX2_limitOf 47 = .ok (.iaload, 1) := by decide +kernel
theorem dX2_limitOf_48 : decode cX2_limitOf 48 = .ok (.istore 4, 2) := by decide +kernel
theorem dX2_limitOf_50 : decode cX2_limitOf 50 = .ok (.iload_n 2, 1) := by decide +kernel
theorem dX2_limitOf_51 : decode cX2_limitOf 51 = .ok (.iload 4, 2) := by decide +kernel
theorem dX2_limitOf_53 : decode cX2_limitOf 53 = .ok (.aload_n 0, 1) := by decide +kernel
theorem dX2_limitOf_54 : decode cX2_limitOf 54 = .ok (.getfield 15, 3) := by decide +kernel
theorem dX2_limitOf_57 : decode cX2_limitOf 57 = .ok (.iload_n 1, 1) := by decide +kernel
theorem dX2_limitOf_58 : decode cX2_limitOf 58 = .ok (.bipush 6, 2) := by decide +kernel
theorem dX2_limitOf_60 : decode cX2_limitOf 60 = .ok (.imul, 1) := by decide +kernel
theorem dX2_limitOf_61 : decode cX2_limitOf 61 = .ok (.iload_n 3, 1) := by decide +kernel
theorem dX2_limitOf_62 : decode cX2_limitOf 62 = .ok (.iadd, 1) := by decide +kernel
theorem dX2_limitOf_63 : decode cX2_limitOf 63 = .ok (.iaload, 1) := by decide +kernel
theorem dX2_limitOf_64 : decode cX2_limitOf 64 = .ok (.iadd, 1) := by decide +kernel
theorem dX2_limitOf_65 : decode cX2_limitOf 65 = .ok (.invokestatic 80, 3) := by decide +kernel
theorem dX2_limitOf_68 : decode cX2_limitOf 68 = .ok (.istore_n 2, 1) := by decide +kernel
theorem dX2_limitOf_69 : decode cX2_limitOf 69 = .ok (.iinc 3 1, 3) := by decide +kernel
theorem dX2_limitOf_72 : decode cX2_limitOf 72 = .ok (.goto (-57), 3) := by decide +kernel
theorem dX2_limitOf_75 : decode cX2_limitOf 75 = .ok (.iconst 4, 1) := by decide +kernel
theorem dX2_limitOf_76 : decode cX2_limitOf 76 = .ok (.istore_n 3, 1) := by decide +kernel
theorem dX2_limitOf_77 : decode cX2_limitOf 77 = .ok (.iload_n 3, 1) := by decide +kernel
theorem dX2_limitOf_78 : decode cX2_limitOf 78 = .ok (.ifCond .le 24, 3) := by decide +kernel
theorem dX2_limitOf_81 : decode cX2_limitOf 81 = .ok (.aload_n 0, 1) := by decide +kernel
theorem dX2_limitOf_82 : decode cX2_limitOf 82 = .ok (.getfield 28, 3) := by decide +kernel
theorem dX2_limitOf_85 : decode cX2_limitOf 85 = .ok (.getfield 45, 3) := by decide +kernel
theorem dX2_limitOf_88 : decode cX2_limitOf 88 = .ok (.iload_n 1, 1) := by decide +kernel
theorem dX2_limitOf_89 : decode cX2_limitOf 89 = .ok (.iaload, 1) := by decide +kernel
theorem dX2_limitOf_90 : decode cX2_limitOf 90 = .ok (.iload_n 3, 1) := by decide +kernel
theorem dX2_limitOf_91 : decode cX2_limitOf 91 = .ok (.imul, 1) := by decide +kernel
theorem dX2_limitOf_92 : decode cX2_limitOf 92 = .ok (.iload_n 2, 1) := by decide +kernel
theorem dX2_limitOf_93 : decode cX2_limitOf 93 = .ok (.if_icmp .le 9, 3) := by decide +kernel
theorem dX2_limitOf_96 : decode cX2_limitOf 96 = .ok (.iinc 3 (-1), 3) := by decide +kernel
theorem dX2_limitOf_99 : decode cX2_limitOf 99 = .ok (.goto (-22), 3) := by decide +kernel
theorem dX2_limitOf_102 : decode cX2_limitOf 102 = .ok (.iload_n 3, 1) := by decide +kernel
theorem dX2_limitOf_103 : decode cX2_limitOf 103 = .ok (.ireturn, 1) := by decide +kernel
theorem dX2_tiltOf_0 : decode cX2_tiltOf 0 = .ok (.aload_n 0, 1) := by decide +kernel
theorem dX2_tiltOf_1 : decode cX2_tiltOf 1 = .ok (.getfield 28, 3) := by decide +kernel
theorem dX2_tiltOf_4 : decode cX2_tiltOf 4 = .ok (.getfield 85, 3) := by decide +kernel
theorem dX2_tiltOf_7 : decode cX2_tiltOf 7 = .ok (.iload_n 1, 1) := by decide +kernel
theorem dX2_tiltOf_8 : decode cX2_tiltOf 8 = .ok (.iaload, 1) := by decide +kernel
theorem dX2_tiltOf_9 : decode cX2_tiltOf 9 = .ok (.aload_n 0, 1) := by decide +kernel
theorem dX2_tiltOf_10 : decode cX2_tiltOf 10 = .ok (.getfield 19, 3) := by decide +kernel
theorem dX2_tiltOf_13 : decode cX2_tiltOf 13 = .ok (.iload_n 1, 1) := by decide +kernel
theorem dX2_tiltOf_14 : decode cX2_tiltOf 14 = .ok (.iaload, 1) := by decide +kernel
theorem dX2_tiltOf_15 : decode cX2_tiltOf 15 = .ok (.invokestatic 80, 3) := by decide +kernel
theorem dX2_tiltOf_18 : decode cX2_tiltOf 18 = .ok (.ireturn, 1) := by decide +kernel
theorem dX2_shadow_0 : decode cX2_shadow 0 = .ok (.iconst 0, 1) := by decide +kernel
theorem dX2_shadow_1 : decode cX2_shadow 1 = .ok (.iload_n 3, 1) := by decide +kernel
theorem dX2_shadow_2 : decode cX2_shadow 2 = .ok (.aload_n 0, 1) := by decide +kernel
theorem dX2_shadow_3 : decode cX2_shadow 3 = .ok (.getfield 15, 3) := by decide +kernel
theorem dX2_shadow_6 : decode cX2_shadow 6 = .ok (.iload_n 1, 1) := by decide +kernel
theorem dX2_shadow_7 : decode cX2_shadow 7 = .ok (.bipush 6, 2) := by decide +kernel
theorem dX2_shadow_9 : decode cX2_shadow 9 = .ok (.imul, 1) := by decide +kernel
theorem dX2_shadow_10 : decode cX2_shadow 10 = .ok (.iload_n 2, 1) := by decide +kernel
theorem dX2_shadow_11 : decode cX2_shadow 11 = .ok (.iadd, 1) := by decide +kernel
theorem dX2_shadow_12 : decode cX2_shadow 12 = .ok (.iaload, 1) := by decide +kernel
theorem dX2_shadow_13 : decode cX2_shadow 13 = .ok (.isub, 1) := by decide +kernel
theorem dX2_shadow_14 : decode cX2_shadow 14 = .ok (.invokestatic 88, 3) := by decide +kernel
theorem dX2_shadow_17 : decode cX2_shadow 17 = .ok (.ireturn, 1) := by decide +kernel
theorem dX2_toBlame_0 : decode cX2_toBlame 0 = .ok (.bipush (-6), 2) := by decide +kernel
theorem dX2_toBlame_2 : decode cX2_toBlame 2 = .ok (.istore_n 2, 1) := by decide +kernel
theorem dX2_toBlame_3 : decode cX2_toBlame 3 = .ok (.iconst 0, 1) := by decide +kernel
theorem dX2_toBlame_4 : decode cX2_toBlame 4 = .ok (.istore_n 3, 1) := by decide +kernel
theorem dX2_toBlame_5 : decode cX2_toBlame 5 = .ok (.iconst 0, 1) := by decide +kernel
theorem dX2_toBlame_6 : decode cX2_toBlame 6 = .ok (.istore 4, 2) := by decide +kernel
theorem dX2_toBlame_8 : decode cX2_toBlame 8 = .ok (.iconst 0, 1) := by decide +kernel
theorem dX2_toBlame_9 : decode cX2_toBlame 9 = .ok (.istore 5, 2) := by decide +kernel
theorem dX2_toBlame_11 : decode cX2_toBlame 11 = .ok (.iload 5, 2) := by decide +kernel
theorem dX2_toBlame_13 : decode cX2_toBlame 13 = .ok (.aload_n 0, 1) := by decide +kernel
theorem dX2_toBlame_14 : decode cX2_toBlame 14 = .ok (.getfield 28, 3) := by decide +kernel
theorem dX2_toBlame_17 : decode cX2_toBlame 17 = .ok (.getfield 32, 3) := by decide +kernel
theorem dX2_toBlame_20 : decode cX2_toBlame 20 = .ok (.if_icmp .ge 79, 3) := by decide +kernel
theorem dX2_toBlame_23 : decode cX2_toBlame 23 = .ok (.iload 5, 2) := by decide +kernel
theorem dX2_toBlame_25 : decode cX2_toBlame 25 = .ok (.iload_n 1, 1) := by decide +kernel
theorem dX2_toBlame_26 : decode cX2_toBlame 26 = .ok (.if_icmp .ne 7, 3) := by decide +kernel
theorem dX2_toBlame_29 : decode cX2_toBlame 29 = .ok (.iconst 0, 1) := by decide +kernel
theorem dX2_toBlame_30 : decode cX2_toBlame 30 = .ok (.goto 17, 3) := by decide +kernel
theorem dX2_toBlame_33 : decode cX2_toBlame 33 = .ok (.aload_n 0, 1) := by decide +kernel
theorem dX2_toBlame_34 : decode cX2_toBlame 34 = .ok (.iload 5, 2) := by decide +kernel
theorem dX2_toBlame_36 : decode cX2_toBlame 36 = .ok (.iload_n 1, 1) := by decide +kernel
theorem dX2_toBlame_37 : decode cX2_toBlame 37 = .ok (.aload_n 0, 1) := by decide +kernel
theorem dX2_toBlame_38 : decode cX2_toBlame 38 = .ok (.getfield 22, 3) := by decide +kernel
theorem dX2_toBlame_41 : decode cX2_toBlame 41 = .ok (.iload 5, 2) := by decide +kernel
theorem dX2_toBlame_43 : decode cX2_toBlame 43 = .ok (.iaload, 1) := by decide +kernel
theorem dX2_toBlame_44 : decode cX2_toBlame 44 = .ok (.invokevirtual 91, 3) := by decide +kernel
theorem dX2_toBlame_47 : decode cX2_toBlame 47 = .ok (.istore 6, 2) := by decide +kernel
theorem dX2_toBlame_49 : decode cX2_toBlame 49 = .ok (.aload_n 0, 1) := by decide +kernel
theorem dX2_toBlame_50 : decode cX2_toBlame 50 = .ok (.iload 5, 2) := by decide +kernel
theorem dX2_toBlame_52 : decode cX2_toBlame 52 = .ok (.iload_n 1, 1) := by decide +kernel
theorem dX2_toBlame_53 : decode cX2_toBlame 53 = .ok (.invokevirtual 63, 3) := by decide +kernel
theorem dX2_toBlame_56 : decode cX2_toBlame 56 = .ok (.istore 7, 2) := by decide +kernel
theorem dX2_toBlame_58 : decode cX2_toBlame 58 = .ok (.iload 6, 2) := by decide +kernel
theorem dX2_toBlame_60 : decode cX2_toBlame 60 = .ok (.iload_n 3, 1) := by decide +kernel
theorem dX2_toBlame_61 : decode cX2_toBlame 61 = .ok (.if_icmp .gt 22, 3) := by decide +kernel
theorem dX2_toBlame_64 : decode cX2_toBlame 64 = .ok (.iload_n 2, 1) := by decide +kernel
theorem dX2_toBlame_65 : decode cX2_toBlame 65 = .ok (.bipush (-6), 2) := by decide +kernel
theorem dX2_toBlame_67 : decode cX2_toBlame 67 = .ok (.if_icmp .eq 26, 3) := by decide +kernel
theorem dX2_toBlame_70 : decode cX2_toBlame 70 = .ok (.iload 6, 2) := by decide +kernel
theorem dX2_toBlame_72 : decode cX2_toBlame 72 = .ok (.iload_n 3, 1) := by decide +kernel
theorem dX2_toBlame_73 : decode cX2_toBlame 73 = .ok (.if_icmp .ne 20, 3) := by decide +kernel
theorem dX2_toBlame_76 : decode cX2_toBlame 76 = .ok (.iload 7, 2) := by decide +kernel
theorem dX2_toBlame_78 : decode cX2_toBlame 78 = .ok (.iload 4, 2) := by decide +kernel
theorem dX2_toBlame_80 : decode cX2_toBlame 80 = .ok (.if_icmp .ge 13, 3) := by decide +kernel
theorem dX2_toBlame_83 : decode cX2_toBlame 83 = .ok (.iload 5, 2) := by decide +kernel
theorem dX2_toBlame_85 : decode cX2_toBlame 85 = .ok (.istore_n 2, 1) := by decide +kernel
theorem dX2_toBlame_86 : decode cX2_toBlame 86 = .ok (.iload 6, 2) := by decide +kernel
theorem dX2_toBlame_88 : decode cX2_toBlame 88 = .ok (.istore_n 3, 1) := by decide +kernel
theorem dX2_toBlame_89 : decode cX2_toBlame 89 = .ok (.iload 7, 2) := by decide +kernel
theorem dX2_toBlame_91 : decode cX2_toBlame 91 = .ok (.istore 4, 2) := by decide +kernel
theorem dX2_toBlame_93 : decode cX2_toBlame 93 = .ok (.iinc 5 1, 3) := by decide +kernel
theorem dX2_toBlame_96 : decode cX2_toBlame 96 = .ok (.goto (-85), 3) := by decide +kernel
theorem dX2_toBlame_99 : decode cX2_toBlame 99 = .ok (.iload_n 2, 1) := by decide +kernel
theorem dX2_toBlame_100 : decode cX2_toBlame 100 = .ok (.ireturn, 1) := by decide +kernel
theorem dX2_shade_0 : decode cX2_shade 0 = .ok (.aload_n 0, 1) := by decide +kernel
theorem dX2_shade_1 : decode cX2_shade 1 = .ok (.iload_n 1, 1) := by decide +kernel
theorem dX2_shade_2 : decode cX2_shade 2 = .ok (.invokevirtual 94, 3) := by decide +kernel
theorem dX2_shade_5 : decode cX2_shade 5 = .ok (.istore_n 2, 1) := by decide +kernel
theorem dX2_shade_6 : decode cX2_shade 6 = .ok (.iload_n 2, 1) := by decide +kernel
theorem dX2_shade_7 : decode cX2_shade 7 = .ok (.bipush (-6), 2) := by decide +kernel
theorem dX2_shade_9 : decode cX2_shade 9 = .ok (.if_icmp .ne 7, 3) := by decide +kernel
theorem dX2_shade_12 : decode cX2_shade 12 = .ok (.iconst 0, 1) := by decide +kernel
theorem dX2_shade_13 : decode cX2_shade 13 = .ok (.goto 24, 3) := by decide +kernel
theorem dX2_shade_16 : decode cX2_shade 16 = .ok (.aload_n 0, 1) := by decide +kernel
theorem dX2_shade_17 : decode cX2_shade 17 = .ok (.getfield 22, 3) := by decide +kernel
theorem dX2_shade_20 : decode cX2_shade 20 = .ok (.iload_n 1, 1) := by decide +kernel
theorem dX2_shade_21 : decode cX2_shade 21 = .ok (.iaload, 1) := by decide +kernel
theorem dX2_shade_22 : decode cX2_shade 22 = .ok (.aload_n 0, 1) := by decide +kernel
theorem dX2_shade_23 : decode cX2_shade 23 = .ok (.iload_n 2, 1) := by decide +kernel
theorem dX2_shade_24 : decode cX2_shade 24 = .ok (.iload_n 1, 1) := by decide +kernel
theorem dX2_shade_25 : decode cX2_shade 25 = .ok (.aload_n 0, 1) := by decide +kernel
theorem dX2_shade_26 : decode cX2_shade 26 = .ok (.getfield 22, 3) := by decide +kernel
theorem dX2_shade_29 : decode cX2_shade 29 = .ok (.iload_n 2, 1) := by decide +kernel
theorem dX2_shade_30 : decode cX2_shade 30 = .ok (.iaload, 1) := by decide +kernel
theorem dX2_shade_31 : decode cX2_shade 31 = .ok (.invokevirtual 91, 3) := by decide +kernel
theorem dX2_shade_34 : decode cX2_shade 34 = .ok (.invokestatic 80, 3) := by decide +kernel
theorem dX2_shade_37 : decode cX2_shade 37 = .ok (.ireturn, 1) := by decide +kernel
theorem dX2_unshadedYield_0 : decode cX2_unshadedYield 0 = .ok (.aload_n 0, 1) := by decide +kernel
theorem dX2_unshadedYield_1 : decode cX2_unshadedYield 1 = .ok (.getfield 22, 3) := by decide +kernel
theorem dX2_unshadedYield_4 : decode cX2_unshadedYield 4 = .ok (.iload_n 1, 1) := by decide +kernel
theorem dX2_unshadedYield_5 : decode cX2_unshadedYield 5 = .ok (.iaload, 1) := by decide +kernel
theorem dX2_unshadedYield_6 : decode cX2_unshadedYield 6 = .ok (.aload_n 0, 1) := by decide +kernel
theorem dX2_unshadedYield_7 : decode cX2_unshadedYield 7 = .ok (.invokevirtual 97, 3) := by decide +kernel
theorem dX2_unshadedYield_10 : decode cX2_unshadedYield 10 = .ok (.imul, 1) := by decide +kernel
theorem dX2_unshadedYield_11 : decode cX2_unshadedYield 11 = .ok (.aload_n 0, 1) := by decide +kernel
theorem dX2_unshadedYield_12 : decode cX2_unshadedYield 12 = .ok (.getfield 28, 3) := by decide +kernel
theorem dX2_unshadedYield_15 : decode cX2_unshadedYield 15 = .ok (.getfield 45, 3) := by decide +kernel
theorem dX2_unshadedYield_18 : decode cX2_unshadedYield 18 = .ok (.iload_n 1, 1) := by decide +kernel
theorem dX2_unshadedYield_19 : decode cX2_unshadedYield 19 = .ok (.iaload, 1) := by decide +kernel
theorem dX2_unshadedYield_20 : decode cX2_unshadedYield 20 = .ok (.iadd, 1) := by decide +kernel
theorem dX2_unshadedYield_21 : decode cX2_unshadedYield 21 = .ok (.ireturn, 1) := by decide +kernel
theorem dX2_yieldNow_0 : decode cX2_yieldNow 0 = .ok (.aload_n 0, 1) := by decide +kernel
theorem dX2_yieldNow_1 : decode cX2_yieldNow 1 = .ok (.iload_n 1, 1) := by decide +kernel
theorem dX2_yieldNow_2 : decode cX2_yieldNow 2 = .ok (.invokevirtual 101, 3) := by decide +kernel
theorem dX2_yieldNow_5 : decode cX2_yieldNow 5 = .ok (.aload_n 0, 1) := by decide +kernel
theorem dX2_yieldNow_6 : decode cX2_yieldNow 6 = .ok (.iload_n 1, 1) := by decide +kernel
theorem dX2_yieldNow_7 : decode cX2_yieldNow 7 = .ok (.invokevirtual 104, 3) := by decide +kernel
theorem dX2_yieldNow_10 : decode cX2_yieldNow 10 = .ok (.aload_n 0, 1) := by decide +kernel
theorem dX2_yieldNow_11 : decode cX2_yieldNow 11 = .ok (.invokevirtual 97, 3) := by decide +kernel
theorem dX2_yieldNow_14 : decode cX2_yieldNow 14 = .ok (.imul, 1) := by decide +kernel
theorem dX2_yieldNow_15 : decode cX2_yieldNow 15 = .ok (.isub, 1) := by decide +kernel
theorem dX2_yieldNow_16 : decode cX2_yieldNow 16 = .ok (.ireturn, 1) := by decide +kernel
theorem dX2_yieldOfDay_0 : decode cX2_yieldOfDay 0 = .ok (.iconst 0, 1) := by decide +kernel
theorem dX2_yieldOfDay_1 : decode cX2_yieldOfDay 1 = .ok (.istore_n 2, 1) := by decide +kernel
theorem dX2_yieldOfDay_2 : decode cX2_yieldOfDay 2 = .ok (.iconst 0, 1) := by decide +kernel
theorem dX2_yieldOfDay_3 : decode cX2_yieldOfDay 3 = .ok (.istore_n 3, 1) := by decide +kernel
theorem dX2_yieldOfDay_4 : decode cX2_yieldOfDay 4 = .ok (.iload_n 3, 1) := by decide +kernel
theorem dX2_yieldOfDay_5 : decode cX2_yieldOfDay 5 = .ok (.bipush 10, 2) := by decide +kernel
theorem dX2_yieldOfDay_7 : decode cX2_yieldOfDay 7 = .ok (.if_icmp .ge 22, 3) := by decide +kernel
theorem dX2_yieldOfDay_10 : decode cX2_yieldOfDay 10 = .ok (.aload_n 0, 1) := by decide +kernel
theorem dX2_yieldOfDay_11 : decode cX2_yieldOfDay 11 = .ok (.iload_n 3, 1) := by decide +kernel
theorem dX2_yieldOfDay_12 : decode cX2_yieldOfDay 12 = .ok (.invokevirtual 107, 3) := by decide +kernel
theorem dX2_yieldOfDay_15 : decode cX2_yieldOfDay 15 = .ok (.iload_n 2, 1) := by decide +kernel
theorem dX2_yieldOfDay_16 : decode cX2_yieldOfDay 16 = .ok (.aload_n 0, 1) := by decide +kernel
theorem dX2_yieldOfDay_17 : decode cX2_yieldOfDay 17 = .ok (.iload_n 1, 1) := by decide +kernel
theorem dX2_yieldOfDay_18 : decode cX2_yieldOfDay 18 = .ok (.invokevirtual 111, 3) := by decide +kernel
theorem dX2_yieldOfDay_21 : decode cX2_yieldOfDay 21 = .ok (.iadd, 1) := by decide +kernel
theorem dX2_yieldOfDay_22 : decode cX2_yieldOfDay 22 = .ok (.istore_n 2, 1) := by decide +kernel
theorem dX2_yieldOfDay_23 : decode cX2_yieldOfDay 23 = .ok (.iinc 3 1, 3) := by decide +kernel
theorem dX2_yieldOfDay_26 : decode cX2_yieldOfDay 26 = .ok (.goto (-22), 3) := by decide +kernel
theorem dX2_yieldOfDay_29 : decode cX2_yieldOfDay 29 = .ok (.iload_n 2, 1) := by decide +kernel
theorem dX2_yieldOfDay_30 : decode cX2_yieldOfDay 30 = .ok (.ireturn, 1) := by decide +kernel
theorem dX2_unshadedYieldOfDay_0 : decode cX2_unshadedYieldOfDay 0 = .ok (.iconst 0, 1) := by decide +kernel
theorem dX2_unshadedYieldOfDay_1 : decode cX2_unshadedYieldOfDay 1 = .ok (.istore_n 2, 1) := by decide +kernel
theorem dX2_unshadedYieldOfDay_2 : decode cX2_unshadedYieldOfDay 2 = .ok (.iconst 0, 1) := by decide +kernel
theorem dX2_unshadedYieldOfDay_3 : decode cX2_unshadedYieldOfDay 3 = .ok (.istore_n 3, 1) := by decide +kernel
theorem dX2_unshadedYieldOfDay_4 : decode cX2_unshadedYieldOfDay 4 = .ok (.iload_n 3, 1) := by decide +kernel
theorem dX2_unshadedYieldOfDay_5 : decode cX2_unshadedYieldOfDay 5 = .ok (.bipush 10, 2) := by decide +kernel
theorem dX2_unshadedYieldOfDay_7 : decode cX2_unshadedYieldOfDay 7 = .ok (.if_icmp .ge 22, 3) := by decide +kernel
theorem dX2_unshadedYieldOfDay_10 : decode cX2_unshadedYieldOfDay 10 = .ok (.aload_n 0, 1) := by decide +kernel
theorem dX2_unshadedYieldOfDay_11 : decode cX2_unshadedYieldOfDay 11 = .ok (.iload_n 3, 1) := by decide +kernel
theorem dX2_unshadedYieldOfDay_12 : decode cX2_unshadedYieldOfDay 12 = .ok (.invokevirtual 107, 3) := by decide +kernel
theorem dX2_unshadedYieldOfDay_15 : decode cX2_unshadedYieldOfDay 15 = .ok (.iload_n 2, 1) := by decide +kernel
theorem dX2_unshadedYieldOfDay_16 : decode cX2_unshadedYieldOfDay 16 = .ok (.aload_n 0, 1) := by decide +kernel
theorem dX2_unshadedYieldOfDay_17 : decode cX2_unshadedYieldOfDay 17 = .ok (.iload_n 1, 1) := by decide +kernel
theorem dX2_unshadedYieldOfDay_18 : decode cX2_unshadedYieldOfDay 18 = .ok (.invokevirtual 101, 3) := by decide +kernel
theorem dX2_unshadedYieldOfDay_21 : decode cX2_unshadedYieldOfDay 21 = .ok (.iadd, 1) := by decide +kernel
theorem dX2_unshadedYieldOfDay_22 : decode cX2_unshadedYieldOfDay 22 = .ok (.istore_n 2, 1) := by decide +kernel
theorem dX2_unshadedYieldOfDay_23 : decode cX2_unshadedYieldOfDay 23 = .ok (.iinc 3 1, 3) := by decide +kernel
theorem dX2_unshadedYieldOfDay_26 : decode cX2_unshadedYieldOfDay 26 = .ok (.goto (-22), 3) := by decide +kernel
theorem dX2_unshadedYieldOfDay_29 : decode cX2_unshadedYieldOfDay 29 = .ok (.iload_n 2, 1) := by decide +kernel
theorem dX2_unshadedYieldOfDay_30 : decode cX2_unshadedYieldOfDay 30 = .ok (.ireturn, 1) := by decide +kernel
theorem dX2_yieldOfAll_0 : decode cX2_yieldOfAll 0 = .ok (.iconst 0, 1) := by decide +kernel
theorem dX2_yieldOfAll_1 : decode cX2_yieldOfAll 1 = .ok (.istore_n 1, 1) := by decide +kernel
theorem dX2_yieldOfAll_2 : decode cX2_yieldOfAll 2 = .ok (.iconst 0, 1) := by decide +kernel
theorem dX2_yieldOfAll_3 : decode cX2_yieldOfAll 3 = .ok (.istore_n 2, 1) := by decide +kernel
theorem dX2_yieldOfAll_4 : decode cX2_yieldOfAll 4 = .ok (.iload_n 2, 1) := by decide +kernel
theorem dX2_yieldOfAll_5 : decode cX2_yieldOfAll 5 = .ok (.bipush 10, 2) := by decide +kernel
theorem dX2_yieldOfAll_7 : decode cX2_yieldOfAll 7 = .ok (.if_icmp .ge 41, 3) := by decide +kernel
theorem dX2_yieldOfAll_10 : decode cX2_yieldOfAll 10 = .ok (.aload_n 0, 1) := by decide +kernel
theorem dX2_yieldOfAll_11 : decode cX2_yieldOfAll 11 = .ok (.iload_n 2, 1) := by decide +kernel
theorem dX2_yieldOfAll_12 : decode cX2_yieldOfAll 12 = .ok (.invokevirtual 107, 3) := by decide +kernel
theorem dX2_yieldOfAll_15 : decode cX2_yieldOfAll 15 = .ok (.iconst 0, 1) := by decide +kernel
theorem dX2_yieldOfAll_16 : decode cX2_yieldOfAll 16 = .ok (.istore_n 3, 1) := by decide +kernel
theorem dX2_yieldOfAll_17 : decode cX2_yieldOfAll 17 = .ok (.iload_n 3, 1) := by decide +kernel
theorem dX2_yieldOfAll_18 : decode cX2_yieldOfAll 18 = .ok (.aload_n 0, 1) := by decide +kernel
theorem dX2_yieldOfAll_19 : decode cX2_yieldOfAll 19 = .ok (.getfield 28, 3) := by decide +kernel
theorem dX2_yieldOfAll_22 : decode cX2_yieldOfAll 22 = .ok (.getfield 32, 3) := by decide +kernel
theorem dX2_yieldOfAll_25 : decode cX2_yieldOfAll 25 = .ok (.if_icmp .ge 17, 3) := by decide +kernel
theorem dX2_yieldOfAll_28 : decode cX2_yieldOfAll 28 = .ok (.iload_n 1, 1) := by decide +kernel
theorem dX2_yieldOfAll_29 : decode cX2_yieldOfAll 29 = .ok (.aload_n 0, 1) := by decide +kernel
theorem dX2_yieldOfAll_30 : decode cX2_yieldOfAll 30 = .ok (.iload_n 3, 1) := by decide +kernel
theorem dX2_yieldOfAll_31 : decode cX2_yieldOfAll 31 = .ok (.invokevirtual 111, 3) := by decide +kernel
theorem dX2_yieldOfAll_34 : decode cX2_yieldOfAll 34 = .ok (.iadd, 1) := by decide +kernel
theorem dX2_yieldOfAll_35 : decode cX2_yieldOfAll 35 = .ok (.istore_n 1, 1) := by decide +kernel
theorem dX2_yieldOfAll_36 : decode cX2_yieldOfAll 36 = .ok (.iinc 3 1, 3) := by decide +kernel
theorem dX2_yieldOfAll_39 : decode cX2_yieldOfAll 39 = .ok (.goto (-22), 3) := by decide +kernel
theorem dX2_yieldOfAll_42 : decode cX2_yieldOfAll 42 = .ok (.iinc 2 1, 3) := by decide +kernel
theorem dX2_yieldOfAll_45 : decode cX2_yieldOfAll 45 = .ok (.goto (-41), 3) := by decide +kernel
theorem dX2_yieldOfAll_48 : decode cX2_yieldOfAll 48 = .ok (.iload_n 1, 1) := by decide +kernel
theorem dX2_yieldOfAll_49 : decode cX2_yieldOfAll 49 = .ok (.ireturn, 1) := by decide +kernel
theorem dX2_hoursLowered_0 : decode cX2_hoursLowered 0 = .ok (.iconst 0, 1) := by decide +kernel
theorem dX2_hoursLowered_1 : decode cX2_hoursLowered 1 = .ok (.istore_n 2, 1) := by decide +kernel
theorem dX2_hoursLowered_2 : decode cX2_hoursLowered 2 = .ok (.iconst 0, 1) := by decide +kernel
theorem dX2_hoursLowered_3 : decode cX2_hoursLowered 3 = .ok (.istore_n 3, 1) := by decide +kernel
theorem dX2_hoursLowered_4 : decode cX2_hoursLowered 4 = .ok (.iload_n 3, 1) := by decide +kernel
theorem dX2_hoursLowered_5 : decode cX2_hoursLowered 5 = .ok (.bipush 10, 2) := by decide +kernel
theorem dX2_hoursLowered_7 : decode cX2_hoursLowered 7 = .ok (.if_icmp .ge 42, 3) := by decide +kernel
theorem dX2_hoursLowered_10 : decode cX2_hoursLowered 10 = .ok (.aload_n 0, 1) := by decide +kernel
theorem dX2_hoursLowered_11 : decode cX2_hoursLowered 11 = .ok (.iload_n 3, 1) := by decide +kernel
theorem dX2_hoursLowered_12 : decode cX2_hoursLowered 12 = .ok (.invokevirtual 107, 3) := by decide +kernel
theorem dX2_hoursLowered_15 : decode cX2_hoursLowered 15 = .ok (.aload_n 0, 1) := by decide +kernel
theorem dX2_hoursLowered_16 : decode cX2_hoursLowered 16 = .ok (.invokevirtual 69, 3) := by decide +kernel
theorem dX2_hoursLowered_19 : decode cX2_hoursLowered 19 = .ok (.ifCond .ne 24, 3) := by decide +kernel
theorem dX2_hoursLowered_22 : decode cX2_hoursLowered 22 = .ok (.aload_n 0, 1) := by decide +kernel
theorem dX2_hoursLowered_23 : decode cX2_hoursLowered 23 = .ok (.getfield 19, 3) := by decide +kernel
theorem dX2_hoursLowered_26 : decode cX2_hoursLowered 26 = .ok (.iload_n 1, 1) := by decide +kernel
theorem dX2_hoursLowered_27 : decode cX2_hoursLowered 27 = .ok (.iaload, 1) := by decide +kernel
theorem dX2_hoursLowered_28 : decode cX2_hoursLowered 28 = .ok (.aload_n 0, 1) := by decide +kernel
theorem dX2_hoursLowered_29 : decode cX2_hoursLowered 29 = .ok (.getfield 28, 3) := by decide +kernel
theorem dX2_hoursLowered_32 : decode cX2_hoursLowered 32 = .ok (.getfield 85, 3) := by decide +kernel
theorem dX2_hoursLowered_35 : decode cX2_hoursLowered 35 = .ok (.iload_n 1, 1) := by decide +kernel
theorem dX2_hoursLowered_36 : decode cX2_hoursLowered 36 = .ok (.iaload, 1) := by decide +kernel
theorem dX2_hoursLowered_37 : decode cX2_hoursLowered 37 = .ok (.if_icmp .ge 6, 3) := by decide +kernel
theorem dX2_hoursLowered_40 : decode cX2_hoursLowered 40 = .ok (.iinc 2 1, 3) := by decide +kernel
theorem dX2_hoursLowered_43 : decode cX2_hoursLowered 43 = .ok (.iinc 3 1, 3) := by decide +kernel
theorem dX2_hoursLowered_46 : decode cX2_hoursLowered 46 = .ok (.goto (-42), 3) := by decide +kernel
theorem dX2_hoursLowered_49 : decode cX2_hoursLowered 49 = .ok (.iload_n 2, 1) := by decide +kernel
theorem dX2_hoursLowered_50 : decode cX2_hoursLowered 50 = .ok (.ireturn, 1) := by decide +kernel
theorem dX2_hoursShaded_0 : decode cX2_hoursShaded 0 = .ok (.iconst 0, 1) := by decide +kernel
theorem dX2_hoursShaded_1 : decode cX2_hoursShaded 1 = .ok (.istore_n 2, 1) := by decide +kernel
theorem dX2_hoursShaded_2 : decode cX2_hoursShaded 2 = .ok (.iconst 0, 1) := by decide +kernel
theorem dX2_hoursShaded_3 : decode cX2_hoursShaded 3 = .ok (.istore_n 3, 1) := by decide +kernel
theorem dX2_hoursShaded_4 : decode cX2_hoursShaded 4 = .ok (.iload_n 3, 1) := by decide +kernel
theorem dX2_hoursShaded_5 : decode cX2_hoursShaded 5 = .ok (.bipush 10, 2) := by decide +kernel
theorem dX2_hoursShaded_7 : decode cX2_hoursShaded 7 = .ok (.if_icmp .ge 25, 3) := by decide +kernel
theorem dX2_hoursShaded_10 : decode cX2_hoursShaded 10 = .ok (.aload_n 0, 1) := by decide +kernel
theorem dX2_hoursShaded_11 : decode cX2_hoursShaded 11 = .ok (.iload_n 3, 1) := by decide +kernel
theorem dX2_hoursShaded_12 : decode cX2_hoursShaded 12 = .ok (.invokevirtual 107, 3) := by decide +kernel
theorem dX2_hoursShaded_15 : decode cX2_hoursShaded 15 = .ok (.aload_n 0, 1) := by decide +kernel
theorem dX2_hoursShaded_16 : decode cX2_hoursShaded 16 = .ok (.iload_n 1, 1) := by decide +kernel
theorem dX2_hoursShaded_17 : decode cX2_hoursShaded 17 = .ok (.invokevirtual 104, 3) := by decide +kernel
theorem dX2_hoursShaded_20 : decode cX2_hoursShaded 20 = .ok (.ifCond .le 6, 3) := by decide +kernel
theorem dX2_hoursShaded_23 : decode cX2_hoursShaded 23 = .ok (.iinc 2 1, 3) := by decide +kernel
theorem dX2_hoursShaded_26 : decode cX2_hoursShaded 26 = .ok (.iinc 3 1, 3) := by decide +kernel
theorem dX2_hoursShaded_29 : decode cX2_hoursShaded 29 = .ok (.goto (-25), 3) := by decide +kernel
theorem dX2_hoursShaded_32 : decode cX2_hoursShaded 32 = .ok (.iload_n 2, 1) := by decide +kernel
theorem dX2_hoursShaded_33 : decode cX2_hoursShaded 33 = .ok (.ireturn, 1) := by decide +kernel
theorem dX2_mostToBlame_0 : decode cX2_mostToBlame 0 = .ok (.iconst 0, 1) := by decide +kernel
theorem dX2_mostToBlame_1 : decode cX2_mostToBlame 1 = .ok (.istore_n 2, 1) := by decide +kernel
theorem dX2_mostToBlame_2 : decode cX2_mostToBlame 2 = .ok (.iload_n 2, 1) := by decide +kernel
theorem dX2_mostToBlame_3 : decode cX2_mostToBlame 3 = .ok (.bipush 6, 2) := by decide +kernel
theorem dX2_mostToBlame_5 : decode cX2_mostToBlame 5 = .ok (.if_icmp .ge 16, 3) := by decide +kernel
theorem dX2_mostToBlame_8 : decode cX2_mostToBlame 8 = .ok (.aload_n 0, 1) := by decide +kernel
theorem dX2_mostToBlame_9 : decode cX2_mostToBlame 9 = .ok (.getfield 25, 3) := by decide +kernel
theorem dX2_mostToBlame_12 : decode cX2_mostToBlame 12 = .ok (.iload_n 2, 1) := by decide +kernel
theorem dX2_mostToBlame_13 : decode cX2_mostToBlame 13 = .ok (.iconst 0, 1) := by decide +kernel
theorem dX2_mostToBlame_14 : decode cX2_mostToBlame 14 = .ok (.iastore, 1) := by decide +kernel
theorem dX2_mostToBlame_15 : decode cX2_mostToBlame 15 = .ok (.iinc 2 1, 3) := by decide +kernel
theorem dX2_mostToBlame_18 : decode cX2_mostToBlame 18 = .ok (.goto (-16), 3) := by decide +kernel
theorem dX2_mostToBlame_21 : decode cX2_mostToBlame 21 = .ok (.iconst 0, 1) := by decide +kernel
theorem dX2_mostToBlame_22 : decode cX2_mostToBlame 22 = .ok (.istore_n 2, 1) := by decide +kernel
theorem dX2_mostToBlame_23 : decode cX2_mostToBlame 23 = .ok (.iload_n 2, 1) := by decide +kernel
theorem dX2_mostToBlame_24 : decode cX2_mostToBlame 24 = .ok (.bipush 10, 2) := by decide +kernel
theorem dX2_mostToBlame_26 : decode cX2_mostToBlame 26 = .ok (.if_icmp .ge 36, 3) := by decide +kernel
theorem dX2_mostToBlame_29 : decode cX2_mostToBlame 29 = .ok (.aload_n 0, 1) := by decide +kernel
theorem dX2_mostToBlame_30 : decode cX2_mostToBlame 30 = .ok (.iload_n 2, 1) := by decide +kernel
theorem dX2_mostToBlame_31 : decode cX2_mostToBlame 31 = .ok (.invokevirtual 107, 3) := by decide +kernel
theorem dX2_mostToBlame_34 : decode cX2_mostToBlame 34 = .ok (.aload_n 0, 1) := by decide +kernel
theorem dX2_mostToBlame_35 : decode cX2_mostToBlame 35 = .ok (.iload_n 1, 1) := by decide +kernel
theorem dX2_mostToBlame_36 : decode cX2_mostToBlame 36 = .ok (.invokevirtual 94, 3) := by decide +kernel
theorem dX2_mostToBlame_39 : decode cX2_mostToBlame 39 = .ok (.istore_n 3, 1) := by decide +kernel
theorem dX2_mostToBlame_40 : decode cX2_mostToBlame 40 = .ok (.iload_n 3, 1) := by decide +kernel
theorem dX2_mostToBlame_41 : decode cX2_mostToBlame 41 = .ok (.bipush (-6), 2) := by decide +kernel
theorem dX2_mostToBlame_43 : decode cX2_mostToBlame 43 = .ok (.if_icmp .eq 13, 3) := by decide +kernel
theorem dX2_mostToBlame_46 : decode cX2_mostToBlame 46 = .ok (.aload_n 0, 1) := by decide +kernel
theorem dX2_mostToBlame_47 : decode cX2_mostToBlame 47 = .ok (.getfield 25, 3) := by decide +kernel
theorem dX2_mostToBlame_50 : decode cX2_mostToBlame 50 = .ok (.iload_n 3, 1) := by decide +kernel
theorem dX2_mostToBlame_51 : decode cX2_mostToBlame 51 = .ok (.dup2, 1) := by decide +kernel
theorem dX2_mostToBlame_52 : decode cX2_mostToBlame 52 = .ok (.iaload, 1) := by decide +kernel
theorem dX2_mostToBlame_53 : decode cX2_mostToBlame 53 = .ok (.iconst 1, 1) := by decide +kernel
theorem dX2_mostToBlame_54 : decode cX2_mostToBlame 54 = .ok (.iadd, 1) := by decide +kernel
theorem dX2_mostToBlame_55 : decode cX2_mostToBlame 55 = .ok (.iastore, 1) := by decide +kernel
theorem dX2_mostToBlame_56 : decode cX2_mostToBlame 56 = .ok (.iinc 2 1, 3) := by decide +kernel
theorem dX2_mostToBlame_59 : decode cX2_mostToBlame 59 = .ok (.goto (-36), 3) := by decide +kernel
theorem dX2_mostToBlame_62 : decode cX2_mostToBlame 62 = .ok (.iconst 0, 1) := by decide +kernel
theorem dX2_mostToBlame_63 : decode cX2_mostToBlame 63 = .ok (.istore_n 2, 1) := by decide +kernel
theorem dX2_mostToBlame_64 : decode cX2_mostToBlame 64 = .ok (.iconst 1, 1) := by decide +kernel
theorem dX2_mostToBlame_65 : decode cX2_mostToBlame 65 = .ok (.istore_n 3, 1) := by decide +kernel
theorem dX2_mostToBlame_66 : decode cX2_mostToBlame 66 = .ok (.iload_n 3, 1) := by decide +kernel
theorem dX2_mostToBlame_67 : decode cX2_mostToBlame 67 = .ok (.bipush 6, 2) := by decide +kernel
theorem dX2_mostToBlame_69 : decode cX2_mostToBlame 69 = .ok (.if_icmp .ge 26, 3) := by decide +kernel
theorem dX2_mostToBlame_72 : decode cX2_mostToBlame 72 = .ok (.aload_n 0, 1) := by decide +kernel
theorem dX2_mostToBlame_73 : decode cX2_mostToBlame 73 = .ok (.getfield 25, 3) := by decide +kernel
theorem dX2_mostToBlame_76 : decode cX2_mostToBlame 76 = .ok (.iload_n 3, 1) := by decide +kernel
theorem dX2_mostToBlame_77 : decode cX2_mostToBlame 77 = .ok (.iaload, 1) := by decide +kernel
theorem dX2_mostToBlame_78 : decode cX2_mostToBlame 78 = .ok (.aload_n 0, 1) := by decide +kernel
theorem dX2_mostToBlame_79 : decode cX2_mostToBlame 79 = .ok (.getfield 25, 3) := by decide +kernel
theorem dX2_mostToBlame_82 : decode cX2_mostToBlame 82 = .ok (.iload_n 2, 1) := by decide +kernel
theorem dX2_mostToBlame_83 : decode cX2_mostToBlame 83 = .ok (.iaload, 1) := by decide +kernel
theorem dX2_mostToBlame_84 : decode cX2_mostToBlame 84 = .ok (.if_icmp .le 5, 3) := by decide +kernel
theorem dX2_mostToBlame_87 : decode cX2_mostToBlame 87 = .ok (.iload_n 3, 1) := by decide +kernel
theorem dX2_mostToBlame_88 : decode cX2_mostToBlame 88 = .ok (.istore_n 2, 1) := by decide +kernel
theorem dX2_mostToBlame_89 : decode cX2_mostToBlame 89 = .ok (.iinc 3 1, 3) := by decide +kernel
theorem dX2_mostToBlame_92 : decode cX2_mostToBlame 92 = .ok (.goto (-26), 3) := by decide +kernel
theorem dX2_mostToBlame_95 : decode cX2_mostToBlame 95 = .ok (.aload_n 0, 1) := by decide +kernel
theorem dX2_mostToBlame_96 : decode cX2_mostToBlame 96 = .ok (.getfield 25, 3) := by decide +kernel
theorem dX2_mostToBlame_99 : decode cX2_mostToBlame 99 = .ok (.iload_n 2, 1) := by decide +kernel
theorem dX2_mostToBlame_100 : decode cX2_mostToBlame 100 = .ok (.iaload, 1) := by decide +kernel
theorem dX2_mostToBlame_101 : decode cX2_mostToBlame 101 = .ok (.ifCond .ne 8, 3) := by decide +kernel
theorem dX2_mostToBlame_104 : decode cX2_mostToBlame 104 = .ok (.bipush (-6), 2) := by decide +kernel
theorem dX2_mostToBlame_106 : decode cX2_mostToBlame 106 = .ok (.goto 4, 3) := by decide +kernel
theorem dX2_mostToBlame_109 : decode cX2_mostToBlame 109 = .ok (.iload_n 2, 1) := by decide +kernel
theorem dX2_mostToBlame_110 : decode cX2_mostToBlame 110 = .ok (.ireturn, 1) := by decide +kernel
theorem dX3_init_0 : decode cX3_init 0 = .ok (.aload_n 0, 1) := by decide +kernel
theorem dX3_init_1 : decode cX3_init 1 = .ok (.invokespecial 3, 3) := by decide +kernel
theorem dX3_init_4 : decode cX3_init 4 = .ok (.aload_n 0, 1) := by decide +kernel
theorem dX3_init_5 : decode cX3_init 5 = .ok (.aload_n 1, 1) := by decide +kernel
theorem dX3_init_6 : decode cX3_init 6 = .ok (.putfield 9, 3) := by decide +kernel
theorem dX3_init_9 : decode cX3_init 9 = .ok (.return_, 1) := by decide +kernel
theorem dX3_addAsk_0 : decode cX3_addAsk 0 = .ok (.aload_n 0, 1) := by decide +kernel
theorem dX3_addAsk_1 : decode cX3_addAsk 1 = .ok (.getfield 9, 3) := by decide +kernel
theorem dX3_addAsk_4 : decode cX3_addAsk 4 = .ok (.iload_n 1, 1) := by decide +kernel
theorem dX3_addAsk_5 : decode cX3_addAsk 5 = .ok (.invokevirtual 15, 3) := by decide +kernel
theorem dX3_addAsk_8 : decode cX3_addAsk 8 = .ok (.ifCond .eq 10, 3) := by decide +kernel
theorem dX3_addAsk_11 : decode cX3_addAsk 11 = .ok (.iload_n 2, 1) := by decide +kernel
theorem dX3_addAsk_12 : decode cX3_addAsk 12 = .ok (.invokestatic 21, 3) := by decide +kernel
theorem dX3_addAsk_15 : decode cX3_addAsk 15 = .ok (.ifCond .ne 5, 3) := by decide +kernel
theorem dX3_addAsk_18 : decode cX3_addAsk 18 = .ok (.iconst (-1), 1) := by decide +kernel
theorem dX3_addAsk_19 : decode cX3_addAsk 19 = .ok (.ireturn, 1) := by decide +kernel
theorem dX3_addAsk_20 : decode cX3_addAsk 20 = .ok (.iload_n 3, 1) := by decide +kernel
theorem dX3_addAsk_21 : decode cX3_addAsk 21 = .ok (.iload 4, 2) := by decide +kernel
theorem dX3_addAsk_23 : decode cX3_addAsk 23 = .ok (.invokestatic 24, 3) := by decide +kernel
theorem dX3_addAsk_26 : decode cX3_addAsk 26 = .ok (.ifCond .eq 6, 3) := by decide +kernel
theorem dX3_addAsk_29 : decode cX3_addAsk 29 = .ok (.bipush (-2), 2) := by decide +kernel
theorem dX3_addAsk_31 : decode cX3_addAsk 31 = .ok (.ireturn, 1) := by decide +kernel
theorem dX3_addAsk_32 : decode cX3_addAsk 32 = .ok (.aload_n 0, 1) := by decide +kernel
theorem dX3_addAsk_33 : decode cX3_addAsk 33 = .ok (.getfield 9, 3) := by decide +kernel
theorem dX3_addAsk_36 : decode cX3_addAsk 36 = .ok (.getfield 28, 3) := by decide +kernel
theorem dX3_addAsk_39 : decode cX3_addAsk 39 = .ok (.iload_n 1, 1) := by decide +kernel
theorem dX3_addAsk_40 : decode cX3_addAsk 40 = .ok (.iload_n 2, 1) := by decide +kernel
theorem dX3_addAsk_41 : decode cX3_addAsk 41 = .ok (.iload_n 3, 1) := by decide +kernel
theorem dX3_addAsk_42 : decode cX3_addAsk 42 = .ok (.iload 4, 2) := by decide +kernel
theorem dX3_addAsk_44 : decode cX3_addAsk 44 = .ok (.bipush (-6), 2) := by decide +kernel
theorem dX3_addAsk_46 : decode cX3_addAsk 46 = .ok (.invokevirtual 32, 3) := by decide +kernel
theorem dX3_addAsk_49 : decode cX3_addAsk 49 = .ok (.ireturn, 1) := by decide +kernel
theorem dX3_addBid_0 : decode cX3_addBid 0 = .ok (.aload_n 0, 1) := by decide +kernel
theorem dX3_addBid_1 : decode cX3_addBid 1 = .ok (.getfield 9, 3) := by decide +kernel
theorem dX3_addBid_4 : decode cX3_addBid 4 = .ok (.iload_n 1, 1) := by decide +kernel
theorem dX3_addBid_5 : decode cX3_addBid 5 = .ok (.invokevirtual 15, 3) := by decide +kernel
theorem dX3_addBid_8 : decode cX3_addBid 8 = .ok (.ifCond .eq 21, 3) := by decide +kernel
theorem dX3_addBid_11 : decode cX3_addBid 11 = .ok (.aload_n 0, 1) := by decide +kernel
theorem dX3_addBid_12 : decode cX3_addBid 12 = .ok (.getfield 9, 3) := by decide +kernel
theorem dX3_addBid_15 : decode cX3_addBid 15 = .ok (.iload_n 2, 1) := by decide +kernel
theorem dX3_addBid_16 : decode cX3_addBid 16 = .ok (.invokevirtual 15, 3) := by decide +kernel
theorem dX3_addBid_19 : decode cX3_addBid 19 = .ok (.ifCond .eq 10, 3) := by decide +kernel
theorem dX3_addBid_22 : decode cX3_addBid 22 = .ok (.iload_n 3, 1) := by decide +kernel
theorem dX3_addBid_23 : decode cX3_addBid 23 = .ok (.invokestatic 21, 3) := by decide +kernel
theorem dX3_addBid_26 : decode cX3_addBid 26 = .ok (.ifCond .ne 5, 3) := by decide +kernel
theorem dX3_addBid_29 : decode cX3_addBid 29 = .ok (.iconst (-1), 1) := by decide +kernel
theorem dX3_addBid_30 : decode cX3_addBid 30 = .ok (.ireturn, 1) := by decide +kernel
theorem dX3_addBid_31 : decode cX3_addBid 31 = .ok (.iload_n 1, 1) := by decide +kernel
theorem dX3_addBid_32 : decode cX3_addBid 32 = .ok (.iload_n 2, 1) := by decide +kernel
theorem dX3_addBid_33 : decode cX3_addBid 33 = .ok (.if_icmp .eq 13, 3) := by decide +kernel
theorem dX3_addBid_36 : decode cX3_addBid 36 = .ok (.iload 4, 2) := by decide +kernel
theorem dX3_addBid_38 : decode cX3_addBid 38 = .ok (.iload 5, 2) := by decide +kernel
theorem dX3_addBid_40 : decode cX3_addBid 40 = .ok (.invokestatic 24, 3) := by decide +kernel
theorem dX3_addBid_43 : decode cX3_addBid 43 = .ok (.ifCond .eq 6, 3) := by decide +kernel
theorem dX3_addBid_46 : decode cX3_addBid 46 = .ok (.bipush (-2), 2) := by decide +kernel
theorem dX3_addBid_48 : decode cX3_addBid 48 = .ok (.ireturn, 1) := by decide +kernel
theorem dX3_addBid_49 : decode cX3_addBid 49 = .ok (.aload_n 0, 1) := by decide +kernel
theorem dX3_addBid_50 : decode cX3_addBid 50 = .ok (.getfield 9, 3) := by decide +kernel
theorem dX3_addBid_53 : decode cX3_addBid 53 = .ok (.getfield 38, 3) := by decide +kernel
theorem dX3_addBid_56 : decode cX3_addBid 56 = .ok (.iload_n 2, 1) := by decide +kernel
theorem dX3_addBid_57 : decode cX3_addBid 57 = .ok (.iload_n 3, 1) := by decide +kernel
theorem dX3_addBid_58 : decode cX3_addBid 58 = .ok (.iload 4, 2) := by decide +kernel
theorem dX3_addBid_60 : decode cX3_addBid 60 = .ok (.iload 5, 2) := by decide +kernel
theorem dX3_addBid_62 : decode cX3_addBid 62 = .ok (.iload_n 1, 1) := by decide +kernel
theorem dX3_addBid_63 : decode cX3_addBid 63 = .ok (.invokevirtual 32, 3) := by decide +kernel
theorem dX3_addBid_66 : decode cX3_addBid 66 = .ok (.ireturn, 1) := by decide +kernel
theorem dX3_isBadOffer_0 : decode cX3_isBadOffer 0 = .ok (.iload_n 0, 1) := by decide +kernel
theorem dX3_isBadOffer_1 : decode cX3_isBadOffer 1 = .ok (.iconst 1, 1) := by decide +kernel
theorem dX3_isBadOffer_2 : decode cX3_isBadOffer 2 = .ok (.sipush 200, 3) := by decide +kernel
theorem dX3_isBadOffer_5 : decode cX3_isBadOffer 5 = .ok (.invokestatic 41, 3) := by decide +kernel
theorem dX3_isBadOffer_8 : decode cX3_isBadOffer 8 = .ok (.ifCond .ne 14, 3) := by decide +kernel
theorem dX3_isBadOffer_11 : decode cX3_isBadOffer 11 = .ok (.iload_n 1, 1) := by decide +kernel
theorem dX3_isBadOffer_12 : decode cX3_isBadOffer 12 = .ok (.iconst 0, 1) := by decide +kernel
theorem dX3_isBadOffer_13 : decode cX3_isBadOffer 13 = .ok (.sipush 999, 3) := by decide +kernel
theorem dX3_isBadOffer_16 : decode cX3_isBadOffer 16 = .ok (.invokestatic 41, 3) := by decide +kernel
theorem dX3_isBadOffer_19 : decode cX3_isBadOffer 19 = .ok (.ifCond .eq 7, 3) := by decide +kernel
theorem dX3_isBadOffer_22 : decode cX3_isBadOffer 22 = .ok (.iconst 1, 1) := by decide +kernel
theorem dX3_isBadOffer_23 : decode cX3_isBadOffer 23 = .ok (.goto 4, 3) := by decide +kernel
theorem dX3_isBadOffer_26 : decode cX3_isBadOffer 26 = .ok (.iconst 0, 1) := by decide +kernel
theorem dX3_isBadOffer_27 : decode cX3_isBadOffer 27 = .ok (.ireturn, 1) := by decide +kernel
theorem dX3_tradeAll_0 : decode cX3_tradeAll 0 = .ok (.aload_n 0, 1) := by decide +kernel
theorem dX3_tradeAll_1 : decode cX3_tradeAll 1 = .ok (.getfield 9, 3) := by decide +kernel
theorem dX3_tradeAll_4 : decode cX3_tradeAll 4 = .ok (.getfield 38, 3) := by decide +kernel
theorem dX3_tradeAll_7 : decode cX3_tradeAll 7 = .ok (.astore_n 1, 1) := by decide +kernel
theorem dX3_tradeAll_8 : decode cX3_tradeAll 8 = .ok (.aload_n 1, 1) := by decide +kernel
theorem dX3_tradeAll_9 : decode cX3_tradeAll 9 = .ok (.iconst (-1), 1) := by decide +kernel
theorem dX3_tradeAll_10 : decode cX3_tradeAll 10 = .ok (.invokevirtual 45, 3) := by decide +kernel
theorem dX3_tradeAll_13 : decode cX3_tradeAll 13 = .ok (.aload_n 0, 1) := by decide +kernel
theorem dX3_tradeAll_14 : decode cX3_tradeAll 14 = .ok (.getfield 9, 3) := by decide +kernel
theorem dX3_tradeAll_17 : decode cX3_tradeAll 17 = .ok (.getfield 28, 3) := by decide +kernel
theorem dX3_tradeAll_20 : decode cX3_tradeAll 20 = .ok (.iconst 1, 1) := by decide +kernel
theorem dX3_tradeAll_21 : decode cX3_tradeAll 21 = .ok (.invokevirtual 45, 3) := by decide +kernel
theorem dX3_tradeAll_24 : decode cX3_tradeAll 24 = .ok (.iconst 0, 1) := by decide +kernel
theorem dX3_tradeAll_25 : decode cX3_tradeAll 25 = .ok (.istore_n 2, 1) := by decide +kernel
theorem dX3_tradeAll_26 : decode cX3_tradeAll 26 = .ok (.iconst 0, 1) := by decide +kernel
theorem dX3_tradeAll_27 : decode cX3_tradeAll 27 = .ok (.istore_n 3, 1) := by decide +kernel
theorem dX3_tradeAll_28 : decode cX3_tradeAll 28 = .ok (.iload_n 3, 1) := by decide +kernel
theorem dX3_tradeAll_29 : decode cX3_tradeAll 29 = .ok (.aload_n 1, 1) := by decide +kernel
theorem dX3_tradeAll_30 : decode cX3_tradeAll 30 = .ok (.getfield 49, 3) := by decide +kernel
theorem dX3_tradeAll_33 : decode cX3_tradeAll 33 = .ok (.if_icmp .ge 22, 3) := by decide +kernel
theorem dX3_tradeAll_36 : decode cX3_tradeAll 36 = .ok (.iload_n 2, 1) := by decide +kernel
theorem dX3_tradeAll_37 : decode cX3_tradeAll 37 = .ok (.aload_n 0, 1) := by decide +kernel
theorem dX3_tradeAll_38 : decode cX3_tradeAll 38 = .ok (.aload_n 1, 1) := by decide +kernel
theorem dX3_tradeAll_39 : decode cX3_tradeAll 39 = .ok (.getfield 53, 3) := by decide +kernel
theorem dX3_tradeAll_42 : decode cX3_tradeAll 42 = .ok (.iload_n 3, 1) := by decide +kernel
theorem dX3_tradeAll_43 : decode cX3_tradeAll 43 = .ok (.iaload, 1) := by decide +kernel
theorem dX3_tradeAll_44 : decode cX3_tradeAll 44 = .ok (.invokevirtual 57, 3) := by decide +kernel
theorem dX3_tradeAll_47 : decode cX3_tradeAll 47 = .ok (.iadd, 1) := by decide +kernel
theorem dX3_tradeAll_48 : decode cX3_tradeAll 48 = .ok (.istore_n 2, 1) := by decide +kernel
theorem dX3_tradeAll_49 : decode cX3_tradeAll 49 = .ok (.iinc 3 1, 3) := by decide +kernel
theorem dX3_tradeAll_52 : decode cX3_tradeAll 52 = .ok (.goto (-24), 3) := by decide +kernel
theorem dX3_tradeAll_55 : decode cX3_tradeAll 55 = .ok (.aload_n 1, 1) := by decide +kernel
theorem dX3_tradeAll_56 : decode cX3_tradeAll 56 = .ok (.invokevirtual 61, 3) := by decide +kernel
theorem dX3_tradeAll_59 : decode cX3_tradeAll 59 = .ok (.aload_n 0, 1) := by decide +kernel
theorem dX3_tradeAll_60 : decode cX3_tradeAll 60 = .ok (.getfield 9, 3) := by decide +kernel
theorem dX3_tradeAll_63 : decode cX3_tradeAll 63 = .ok (.getfield 28, 3) := by decide +kernel
theorem dX3_tradeAll_66 : decode cX3_tradeAll 66 = .ok (.invokevirtual 61, 3) := by decide +kernel
theorem dX3_tradeAll_69 : decode cX3_tradeAll 69 = .ok (.aload_n 0, 1) := by decide +kernel
theorem dX3_tradeAll_70 : decode cX3_tradeAll 70 = .ok (.getfield 9, 3) := by decide +kernel
theorem dX3_tradeAll_73 : decode cX3_tradeAll 73 = .ok (.dup, 1) := by decide +kernel
theorem dX3_tradeAll_74 : decode cX3_tradeAll 74 = .ok (.getfield 64, 3) := by decide +kernel
theorem dX3_tradeAll_77 : decode cX3_tradeAll 77 = .ok (.iload_n 2, 1) := by decide +kernel
theorem dX3_tradeAll_78 : decode cX3_tradeAll 78 = .ok (.iadd, 1) := by decide +kernel
theorem dX3_tradeAll_79 : decode cX3_tradeAll 79 = .ok (.putfield 64, 3) := by decide +kernel
theorem dX3_tradeAll_82 : decode cX3_tradeAll 82 = .ok (.iload_n 2, 1) := by decide +kernel
theorem dX3_tradeAll_83 : decode cX3_tradeAll 83 = .ok (.ireturn, 1) := by decide +kernel
theorem dX3_serve_0 : decode cX3_serve 0 = .ok (.iconst 0, 1) := by decide +kernel
theorem dX3_serve_1 : decode cX3_serve 1 = .ok (.istore_n 2, 1) := by decide +kernel
theorem dX3_serve_2 : decode cX3_serve 2 = .ok (.iconst 0, 1) := by decide +kernel
theorem dX3_serve_3 : decode cX3_serve 3 = .ok (.istore_n 3, 1) := by decide +kernel
theorem dX3_serve_4 : decode cX3_serve 4 = .ok (.iload_n 3, 1) := by decide +kernel
theorem dX3_serve_5 : decode cX3_serve 5 = .ok (.aload_n 0, 1) := by decide +kernel
theorem dX3_serve_6 : decode cX3_serve 6 = .ok (.getfield 9, 3) := by decide +kernel
theorem dX3_serve_9 : decode cX3_serve 9 = .ok (.getfield 28, 3) := by decide +kernel
theorem dX3_serve_12 : decode cX3_serve 12 = .ok (.getfield 49, 3) := by decide +kernel
theorem dX3_serve_15 : decode cX3_serve 15 = .ok (.if_icmp .ge 43, 3) := by decide +kernel
theorem dX3_serve_18 : decode cX3_serve 18 = .ok (.aload_n 0, 1) := by decide +kernel
theorem dX3_serve_19 : decode cX3_serve 19 = .ok (.getfield 9, 3) := by decide +kernel
theorem dX3_serve_22 : decode cX3_serve 22 = .ok (.getfield 28, 3) := by decide +kernel
theorem dX3_serve_25 : decode cX3_serve 25 = .ok (.getfield 53, 3) := by decide +kernel
theorem dX3_serve_28 : decode cX3_serve 28 = .ok (.iload_n 3, 1) := by decide +kernel
theorem dX3_serve_29 : decode cX3_serve 29 = .ok (.iaload, 1) := by decide +kernel
theorem dX3_serve_30 : decode cX3_serve 30 = .ok (.istore 4, 2) := by decide +kernel
theorem dX3_serve_32 : decode cX3_serve 32 = .ok (.aload_n 0, 1) := by decide +kernel
theorem dX3_serve_33 : decode cX3_serve 33 = .ok (.iload_n 1, 1) := by decide +kernel
theorem dX3_serve_34 : decode cX3_serve 34 = .ok (.iload 4, 2) := by decide +kernel
theorem dX3_serve_36 : decode cX3_serve 36 = .ok (.invokevirtual 67, 3) := by decide +kernel
theorem dX3_serve_39 : decode cX3_serve 39 = .ok (.ifCond .eq 13, 3) := by decide +kernel
theorem dX3_serve_42 : decode cX3_serve 42 = .ok (.iload_n 2, 1) := by decide +kernel
theorem dX3_serve_43 : decode cX3_serve 43 = .ok (.aload_n 0, 1) := by decide +kernel
theorem dX3_serve_44 : decode cX3_serve 44 = .ok (.iload_n 1, 1) := by decide +kernel
theorem dX3_serve_45 : decode cX3_serve 45 = .ok (.iload 4, 2) := by decide +kernel
theorem dX3_serve_47 : decode cX3_serve 47 = .ok (.invokevirtual 70, 3) := by decide +kernel
theorem dX3_serve_50 : decode cX3_serve 50 = .ok (.iadd, 1) := by decide +kernel
theorem dX3_serve_51 : decode cX3_serve 51 = .ok (.istore_n 2, 1) := by decide +kernel
theorem dX3_serve_52 : decode cX3_serve 52 = .ok (.iinc 3 1, 3) := by decide +kernel
theorem dX3_serve_55 : decode cX3_serve 55 = .ok (.goto (-51), 3) := by decide +kernel
theorem dX3_serve_58 : decode cX3_serve 58 = .ok (.iload_n 2, 1) := by decide +kernel
theorem dX3_serve_59 : decode cX3_serve 59 = .ok (.ireturn, 1) := by decide +kernel
theorem dX3_suits_0 : decode cX3_suits 0 = .ok (.aload_n 0, 1) := by decide +kernel
theorem dX3_suits_1 : decode cX3_suits 1 = .ok (.getfield 9, 3) := by decide +kernel
theorem dX3_suits_4 : decode cX3_suits 4 = .ok (.getfield 28, 3) := by decide +kernel
theorem dX3_suits_7 : decode cX3_suits 7 = .ok (.astore_n 3, 1) := by decide +kernel
theorem dX3_suits_8 : decode cX3_suits 8 = .ok (.aload_n 0, 1) := by decide +kernel
theorem dX3_suits_9 : decode cX3_suits 9 = .ok (.getfield 9, 3) := by decide +kernel
theorem dX3_suits_12 : decode cX3_suits 12 = .ok (.getfield 38, 3) := by decide +kernel
theorem dX3_suits_15 : decode cX3_suits 15 = .ok (.astore 4, 2) := by decide +kernel
theorem dX3_suits_17 : decode cX3_suits 17 = .ok (.aload_n 3, 1) := by decide +kernel
theorem dX3_suits_18 : decode cX3_suits 18 = .ok (.iload_n 2, 1) := by decide +kernel
theorem dX3_suits_19 : decode cX3_suits 19 = .ok (.iconst 0, 1) := by decide +kernel
theorem dX3_suits_20 : decode cX3_suits 20 = .ok (.invokevirtual 74, 3) := by decide +kernel
theorem dX3_suits_23 : decode cX3_suits 23 = .ok (.aload 4, 2) := by decide +kernel
theorem dX3_suits_25 : decode cX3_suits 25 = .ok (.iload_n 1, 1) := by decide +kernel
theorem dX3_suits_26 : decode cX3_suits 26 = .ok (.iconst 0, 1) := by decide +kernel
theorem dX3_suits_27 : decode cX3_suits 27 = .ok (.invokevirtual 74, 3) := by decide +kernel
theorem dX3_suits_30 : decode cX3_suits 30 = .ok (.if_icmp .ne 39, 3) := by decide +kernel
theorem dX3_suits_33 : decode cX3_suits 33 = .ok (.aload_n 3, 1) := by decide +kernel
theorem dX3_suits_34 : decode cX3_suits 34 = .ok (.iload_n 2, 1) := by decide +kernel
theorem dX3_suits_35 : decode cX3_suits 35 = .ok (.iconst 1, 1) := by decide +kernel
theorem dX3_suits_36 : decode cX3_suits 36 = .ok (.invokevirtual 74, 3) := by decide +kernel
theorem dX3_suits_39 : decode cX3_suits 39 = .ok (.aload 4, 2) := by decide +kernel
theorem dX3_suits_41 : decode cX3_suits 41 = .ok (.iload_n 1, 1) := by decide +kernel
theorem dX3_suits_42 : decode cX3_suits 42 = .ok (.iconst 1, 1) := by decide +kernel
theorem dX3_suits_43 : decode cX3_suits 43 = .ok (.invokevirtual 74, 3) := by decide +kernel
theorem dX3_suits_46 : decode cX3_suits 46 = .ok (.if_icmp .ne 23, 3) := by decide +kernel
theorem dX3_suits_49 : decode cX3_suits 49 = .ok (.aload_n 3, 1) := by decide +kernel
theorem dX3_suits_50 : decode cX3_suits 50 = .ok (.iload_n 2, 1) := by decide +kernel
theorem dX3_suits_51 : decode cX3_suits 51 = .ok (.iconst 3, 1) := by decide +kernel
theorem dX3_suits_52 : decode cX3_suits 52 = .ok (.invokevirtual 74, 3) := by decide +kernel
theorem dX3_suits_55 : decode cX3_suits 55 = .ok (.aload 4, 2) := by decide +kernel
theorem dX3_suits_57 : decode cX3_suits 57 = .ok (.iload_n 1, 1) := by decide +kernel
theorem dX3_suits_58 : decode cX3_suits 58 = .ok (.iconst 3, 1) := by decide +kernel
theorem dX3_suits_59 : decode cX3_suits 59 = .ok (.invokevirtual 74, 3) := by decide +kernel
theorem dX3_suits_62 : decode cX3_suits 62 = .ok (.if_icmp .gt 7, 3) := by decide +kernel
theorem dX3_suits_65 : decode cX3_suits 65 = .ok (.iconst 1, 1) := by decide +kernel
theorem dX3_suits_66 : decode cX3_suits 66 = .ok (.goto 4, 3) := by decide +kernel
theorem dX3_suits_69 : decode cX3_suits 69 = .ok (.iconst 0, 1) := by decide +kernel
theorem dX3_suits_70 : decode cX3_suits 70 = .ok (.ireturn, 1) := by decide +kernel
theorem dX3_trade_0 : decode cX3_trade 0 = .ok (.aload_n 0, 1) := by decide +kernel
theorem dX3_trade_1 : decode cX3_trade 1 = .ok (.getfield 9, 3) := by decide +kernel
theorem dX3_trade_4 : decode cX3_trade 4 = .ok (.getfield 38, 3) := by decide +kernel
theorem dX3_trade_7 : decode cX3_trade 7 = .ok (.iload_n 1, 1) := by decide +kernel
theorem dX3_trade_8 : decode cX3_trade 8 = .ok (.iconst 4, 1) := by decide +kernel
theorem dX3_trade_9 : decode cX3_trade 9 = .ok (.invokevirtual 74, 3) := by decide +kernel
theorem dX3_trade_12 : decode cX3_trade 12 = .ok (.istore_n 3, 1) := by decide +kernel
theorem dX3_trade_13 : decode cX3_trade 13 = .ok (.aload_n 0, 1) := by decide +kernel
theorem dX3_trade_14 : decode cX3_trade 14 = .ok (.getfield 9, 3) := by decide +kernel
theorem dX3_trade_17 : decode cX3_trade 17 = .ok (.getfield 28, 3) := by decide +kernel
theorem dX3_trade_20 : decode cX3_trade 20 = .ok (.iload_n 2, 1) := by decide +kernel
theorem dX3_trade_21 : decode cX3_trade 21 = .ok (.iconst 0, 1) := by decide +kernel
theorem dX3_trade_22 : decode cX3_trade 22 = .ok (.invokevirtual 74, 3) := by decide +kernel
theorem dX3_trade_25 : decode cX3_trade 25 = .ok (.istore 4, 2) := by decide +kernel
theorem dX3_trade_27 : decode cX3_trade 27 = .ok (.iload_n 3, 1) := by decide +kernel
theorem dX3_trade_28 : decode cX3_trade 28 = .ok (.iload 4, 2) := by decide +kernel
theorem dX3_trade_30 : decode cX3_trade 30 = .ok (.aload_n 0, 1) := by decide +kernel
theorem dX3_trade_31 : decode cX3_trade 31 = .ok (.getfield 9, 3) := by decide +kernel
theorem dX3_trade_34 : decode cX3_trade 34 = .ok (.getfield 28, 3) := by decide +kernel
theorem dX3_trade_37 : decode cX3_trade 37 = .ok (.iload_n 2, 1) := by decide +kernel
theorem dX3_trade_38 : decode cX3_trade 38 = .ok (.iconst 1, 1) := by decide +kernel
theorem dX3_trade_39 : decode cX3_trade 39 = .ok (.invokevirtual 74, 3) := by decide +kernel
theorem dX3_trade_42 : decode cX3_trade 42 = .ok (.invokestatic 77, 3) := by decide +kernel
theorem dX3_trade_45 : decode cX3_trade 45 = .ok (.istore 5, 2) := by decide +kernel
theorem dX3_trade_47 : decode cX3_trade 47 = .ok (.aload_n 0, 1) := by decide +kernel
theorem dX3_trade_48 : decode cX3_trade 48 = .ok (.getfield 9, 3) := by decide +kernel
theorem dX3_trade_51 : decode cX3_trade 51 = .ok (.getfield 38, 3) := by decide +kernel
theorem dX3_trade_54 : decode cX3_trade 54 = .ok (.iload_n 1, 1) := by decide +kernel
theorem dX3_trade_55 : decode cX3_trade 55 = .ok (.iconst 2, 1) := by decide +kernel
theorem dX3_trade_56 : decode cX3_trade 56 = .ok (.invokevirtual 74, 3) := by decide +kernel
theorem dX3_trade_59 : decode cX3_trade 59 = .ok (.aload_n 0, 1) := by decide +kernel
theorem dX3_trade_60 : decode cX3_trade 60 = .ok (.getfield 9, 3) := by decide +kernel
theorem dX3_trade_63 : decode cX3_trade 63 = .ok (.getfield 28, 3) := by decide +kernel
theorem dX3_trade_66 : decode cX3_trade 66 = .ok (.iload_n 2, 1) := by decide +kernel
theorem dX3_trade_67 : decode cX3_trade 67 = .ok (.iconst 2, 1) := by decide +kernel
theorem dX3_trade_68 : decode cX3_trade 68 = .ok (.invokevirtual 74, 3) := by decide +kernel
theorem dX3_trade_71 : decode cX3_trade 71 = .ok (.invokestatic 81, 3) := by decide +kernel
theorem dX3_trade_74 : decode cX3_trade 74 = .ok (.istore 6, 2) := by decide +kernel
theorem dX3_trade_76 : decode cX3_trade 76 = .ok (.iload 6, 2) := by decide +kernel
theorem dX3_trade_78 : decode cX3_trade 78 = .ok (.sipush 999, 3) := by decide +kernel
theorem dX3_trade_81 : decode cX3_trade 81 = .ok (.aload_n 0, 1) := by decide +kernel
theorem dX3_trade_82 : decode cX3_trade 82 = .ok (.getfield 9, 3) := by decide +kernel
theorem dX3_trade_85 : decode cX3_trade 85 = .ok (.getfield 86, 3) := by decide +kernel
theorem dX3_trade_88 : decode cX3_trade 88 = .ok (.iload 5, 2) := by decide +kernel
theorem dX3_trade_90 : decode cX3_trade 90 = .ok (.iaload, 1) := by decide +kernel
theorem dX3_trade_91 : decode cX3_trade 91 = .ok (.isub, 1) := by decide +kernel
theorem dX3_trade_92 : decode cX3_trade 92 = .ok (.invokestatic 81, 3) := by decide +kernel
theorem dX3_trade_95 : decode cX3_trade 95 = .ok (.istore 7, 2) := by decide +kernel
theorem dX3_trade_97 : decode cX3_trade 97 = .ok (.iload 7, 2) := by decide +kernel
theorem dX3_trade_99 : decode cX3_trade 99 = .ok (.aload_n 0, 1) := by decide +kernel
theorem dX3_trade_100 : decode cX3_trade 100 = .ok (.getfield 9, 3) := by decide +kernel
theorem dX3_trade_103 : decode cX3_trade 103 = .ok (.getfield 28, 3) := by decide +kernel
theorem dX3_trade_106 : decode cX3_trade 106 = .ok (.iload_n 2, 1) := by decide +kernel
theorem dX3_trade_107 : decode cX3_trade 107 = .ok (.iconst 3, 1) := by decide +kernel
theorem dX3_trade_108 : decode cX3_trade 108 = .ok (.invokevirtual 74, 3) := by decide +kernel
theorem dX3_trade_111 : decode cX3_trade 111 = .ok (.imul, 1) := by decide +kernel
theorem dX3_trade_112 : decode cX3_trade 112 = .ok (.istore 8, 2) := by decide +kernel
theorem dX3_trade_114 : decode cX3_trade 114 = .ok (.aload_n 0, 1) := by decide +kernel
theorem dX3_trade_115 : decode cX3_trade 115 = .ok (.getfield 9, 3) := by decide +kernel
theorem dX3_trade_118 : decode cX3_trade 118 = .ok (.getfield 86, 3) := by decide +kernel
theorem dX3_trade_121 : decode cX3_trade 121 = .ok (.iload 5, 2) := by decide +kernel
theorem dX3_trade_123 : decode cX3_trade 123 = .ok (.dup2, 1) := by decide +kernel
theorem dX3_trade_124 : decode cX3_trade 124 = .ok (.iaload, 1) := by decide +kernel
theorem dX3_trade_125 : decode cX3_trade 125 = .ok (.iload 7, 2) := by decide +kernel
theorem dX3_trade_127 : decode cX3_trade 127 = .ok (.iadd, 1) := by decide +kernel
theorem dX3_trade_128 : decode cX3_trade 128 = .ok (.iastore, 1) := by decide +kernel
theorem dX3_trade_129 : decode cX3_trade 129 = .ok (.aload_n 0, 1) := by decide +kernel
theorem dX3_trade_130 : decode cX3_trade 130 = .ok (.getfield 9, 3) := by decide +kernel
theorem dX3_trade_133 : decode cX3_trade 133 = .ok (.getfield 89, 3) := by decide +kernel
theorem dX3_trade_136 : decode cX3_trade 136 = .ok (.iload_n 3, 1) := by decide +kernel
theorem dX3_trade_137 : decode cX3_trade 137 = .ok (.dup2, 1) := by decide +kernel
theorem dX3_trade_138 : decode cX3_trade 138 = .ok (.iaload, 1) := by decide +kernel
theorem dX3_trade_139 : decode cX3_trade 139 = .ok (.iload 8, 2) := by decide +kernel
theorem dX3_trade_141 : decode cX3_trade 141 = .ok (.isub, 1) := by decide +kernel
theorem dX3_trade_142 : decode cX3_trade 142 = .ok (.iastore, 1) := by decide +kernel
theorem dX3_trade_143 : decode cX3_trade 143 = .ok (.aload_n 0, 1) := by decide +kernel
theorem dX3_trade_144 : decode cX3_trade 144 = .ok (.getfield 9, 3) := by decide +kernel
theorem dX3_trade_147 : decode cX3_trade 147 = .ok (.getfield 89, 3) := by decide +kernel
theorem dX3_trade_150 : decode cX3_trade 150 = .ok (.iload 4, 2) := by decide +kernel
theorem dX3_trade_152 : decode cX3_trade 152 = .ok (.dup2, 1) := by decide +kernel
theorem dX3_trade_153 : decode cX3_trade 153 = .ok (.iaload, 1) := by decide +kernel
theorem dX3_trade_154 : decode cX3_trade 154 = .ok (.iload 8, 2) := by decide +kernel
theorem dX3_trade_156 : decode cX3_trade 156 = .ok (.iadd, 1) := by decide +kernel
theorem dX3_trade_157 : decode cX3_trade 157 = .ok (.iastore, 1) := by decide +kernel
theorem dX3_trade_158 : decode cX3_trade 158 = .ok (.aload_n 0, 1) := by decide +kernel
theorem dX3_trade_159 : decode cX3_trade 159 = .ok (.getfield 9, 3) := by decide +kernel
theorem dX3_trade_162 : decode cX3_trade 162 = .ok (.getfield 38, 3) := by decide +kernel
theorem dX3_trade_165 : decode cX3_trade 165 = .ok (.iload_n 1, 1) := by decide +kernel
theorem dX3_trade_166 : decode cX3_trade 166 = .ok (.iload 7, 2) := by decide +kernel
theorem dX3_trade_168 : decode cX3_trade 168 = .ok (.invokevirtual 92, 3) := by decide +kernel
theorem dX3_trade_171 : decode cX3_trade 171 = .ok (.aload_n 0, 1) := by decide +kernel
theorem dX3_trade_172 : decode cX3_trade 172 = .ok (.getfield 9, 3) := by decide +kernel
theorem dX3_trade_175 : decode cX3_trade 175 = .ok (.getfield 28, 3) := by decide +kernel
theorem dX3_trade_178 : decode cX3_trade 178 = .ok (.iload_n 2, 1) := by decide +kernel
theorem dX3_trade_179 : decode cX3_trade 179 = .ok (.iload 7, 2) := by decide +kernel
theorem dX3_trade_181 : decode cX3_trade 181 = .ok (.invokevirtual 92, 3) := by decide +kernel
theorem dX3_trade_184 : decode cX3_trade 184 = .ok (.iload 7, 2) := by decide +kernel
theorem dX3_trade_186 : decode cX3_trade 186 = .ok (.ireturn, 1) := by decide +kernel
theorem dX4_init_0 : decode cX4_init 0 = .ok (.aload_n 0, 1) := by decide +kernel
theorem dX4_init_1 : decode cX4_init 1 = .ok (.invokespecial 3, 3) := by decide +kernel
theorem dX4_init_4 : decode cX4_init 4 = .ok (.aload_n 0, 1) := by decide +kernel
theorem dX4_init_5 : decode cX4_init 5 = .ok (.iconst 0, 1) := by decide +kernel
theorem dX4_init_6 : decode cX4_init 6 = .ok (.putfield 9, 3) := by decide +kernel
theorem dX4_init_9 : decode cX4_init 9 = .ok (.aload_n 0, 1) := by decide +kernel
theorem dX4_init_10 : decode cX4_init 10 = .ok (.bipush 50, 2) := by decide +kernel
theorem dX4_init_12 : decode cX4_init 12 = .ok (.newarray .int, 2) := by decide +kernel
theorem dX4_init_14 : decode cX4_init 14 = .ok (.putfield 15, 3) := by decide +kernel
theorem dX4_init_17 : decode cX4_init 17 = .ok (.aload_n 0, 1) := by decide +kernel
theorem dX4_init_18 : decode cX4_init 18 = .ok (.bipush 10, 2) := by decide +kernel
theorem dX4_init_20 : decode cX4_init 20 = .ok (.newarray .int, 2) := by decide +kernel
theorem dX4_init_22 : decode cX4_init 22 = .ok (.putfield 19, 3) := by decide +kernel
theorem dX4_init_25 : decode cX4_init 25 = .ok (.return_, 1) := by decide +kernel
theorem dX4_copyFrom_0 : decode cX4_copyFrom 0 = .ok (.aload_n 0, 1) := by decide +kernel
theorem dX4_copyFrom_1 : decode cX4_copyFrom 1 = .ok (.aload_n 1, 1) := by decide +kernel
theorem dX4_copyFrom_2 : decode cX4_copyFrom 2 = .ok (.getfield 9, 3) := by decide +kernel
theorem dX4_copyFrom_5 : decode cX4_copyFrom 5 = .ok (.putfield 9, 3) := by decide +kernel
theorem dX4_copyFrom_8 : decode cX4_copyFrom 8 = .ok (.aload_n 1, 1) := by decide +kernel
theorem dX4_copyFrom_9 : decode cX4_copyFrom 9 = .ok (.getfield 15, 3) := by decide +kernel
theorem dX4_copyFrom_12 : decode cX4_copyFrom 12 = .ok (.iconst 0, 1) := by decide +kernel
theorem dX4_copyFrom_13 : decode cX4_copyFrom 13 = .ok (.aload_n 0, 1) := by decide +kernel
theorem dX4_copyFrom_14 : decode cX4_copyFrom 14 = .ok (.getfield 15, 3) := by decide +kernel
theorem dX4_copyFrom_17 : decode cX4_copyFrom 17 = .ok (.iconst 0, 1) := by decide +kernel
theorem dX4_copyFrom_18 : decode cX4_copyFrom 18 = .ok (.bipush 50, 2) := by decide +kernel
theorem dX4_copyFrom_20 : decode cX4_copyFrom 20 = .ok (.invokestatic 22, 3) := by decide +kernel
theorem dX4_copyFrom_23 : decode cX4_copyFrom 23 = .ok (.return_, 1) := by decide +kernel
theorem dX4_has_0 : decode cX4_has 0 = .ok (.iload_n 1, 1) := by decide +kernel
theorem dX4_has_1 : decode cX4_has 1 = .ok (.iconst 0, 1) := by decide +kernel
theorem dX4_has_2 : decode cX4_has 2 = .ok (.aload_n 0, 1) := by decide +kernel
theorem dX4_has_3 : decode cX4_has 3 = .ok (.getfield 9, 3) := by decide +kernel
theorem dX4_has_6 : decode cX4_has 6 = .ok (.iconst 1, 1) := by decide +kernel
theorem dX4_has_7 : decode cX4_has 7 = .ok (.isub, 1) := by decide +kernel
theorem dX4_has_8 : decode cX4_has 8 = .ok (.invokestatic 28, 3) := by decide +kernel
theorem dX4_has_11 : decode cX4_has 11 = .ok (.ifCond .ne 7, 3) := by decide +kernel
theorem dX4_has_14 : decode cX4_has 14 = .ok (.iconst 1, 1) := by decide +kernel
theorem dX4_has_15 : decode cX4_has 15 = .ok (.goto 4, 3) := by decide +kernel
theorem dX4_has_18 : decode cX4_has 18 = .ok (.iconst 0, 1) := by decide +kernel
theorem dX4_has_19 : decode cX4_has 19 = .ok (.ireturn, 1) := by decide +kernel
theorem dX4_get_0 : decode cX4_get 0 = .ok (.aload_n 0, 1) := by decide +kernel
theorem dX4_get_1 : decode cX4_get 1 = .ok (.getfield 15, 3) := by decide +kernel
theorem dX4_get_4 : decode cX4_get 4 = .ok (.iload_n 1, 1) := by decide +kernel
theorem dX4_get_5 : decode cX4_get 5 = .ok (.iconst 5, 1) := by decide +kernel
theorem dX4_get_6 : decode cX4_get 6 = .ok (.imul, 1) := by decide +kernel
theorem dX4_get_7 : decode cX4_get 7 = .ok (.iload_n 2, 1) := by decide +kernel
theorem dX4_get_8 : decode cX4_get 8 = .ok (.iadd, 1) := by decide +kernel
theorem dX4_get_9 : decode cX4_get 9 = .ok (.iaload, 1) := by decide +kernel
theorem dX4_get_10 : decode cX4_get 10 = .ok (.ireturn, 1) := by decide +kernel
theorem dX4_add_0 : decode cX4_add 0 = .ok (.aload_n 0, 1) := by decide +kernel
theorem dX4_add_1 : decode cX4_add 1 = .ok (.getfield 9, 3) := by decide +kernel
theorem dX4_add_4 : decode cX4_add 4 = .ok (.bipush 10, 2) := by decide +kernel
theorem dX4_add_6 : decode cX4_add 6 = .ok (.if_icmp .lt 6, 3) := by decide +kernel
theorem dX4_add_9 : decode cX4_add 9 = .ok (.bipush (-4), 2) := by decide +kernel
theorem dX4_add_11 : decode cX4_add 11 = .ok (.ireturn, 1) := by decide +kernel
theorem dX4_add_12 : decode cX4_add 12 = .ok (.aload_n 0, 1) := by decide +kernel
theorem dX4_add_13 : decode cX4_add 13 = .ok (.getfield 9, 3) := by decide +kernel
theorem dX4_add_16 : decode cX4_add 16 = .ok (.iconst 5, 1) := by decide +kernel
theorem dX4_add_17 : decode cX4_add 17 = .ok (.imul, 1) := by decide +kernel
theorem dX4_add_18 : decode cX4_add 18 = .ok (.istore 6, 2) := by decide +kernel
theorem dX4_add_20 : decode cX4_add 20 = .ok (.aload_n 0, 1) := by decide +kernel
theorem dX4_add_21 : decode cX4_add 21 = .ok (.getfield 15, 3) := by decide +kernel
theorem dX4_add_24 : decode cX4_add 24 = .ok (.iload 6, 2) := by decide +kernel
theorem dX4_add_26 : decode cX4_add 26 = .ok (.iconst 0, 1) := by decide +kernel
theorem dX4_add_27 : decode cX4_add 27 = .ok (.iadd, 1) := by decide +kernel
theorem dX4_add_28 : decode cX4_add 28 = .ok (.iload_n 1, 1) := by decide +kernel
theorem dX4_add_29 : decode cX4_add 29 = .ok (.iastore, 1) := by decide +kernel
theorem dX4_add_30 : decode cX4_add 30 = .ok (.aload_n 0, 1) := by decide +kernel
theorem dX4_add_31 : decode cX4_add 31 = .ok (.getfield 15, 3) := by decide +kernel
theorem dX4_add_34 : decode cX4_add 34 = .ok (.iload 6, 2) := by decide +kernel
theorem dX4_add_36 : decode cX4_add 36 = .ok (.iconst 1, 1) := by decide +kernel
theorem dX4_add_37 : decode cX4_add 37 = .ok (.iadd, 1) := by decide +kernel
theorem dX4_add_38 : decode cX4_add 38 = .ok (.iload_n 2, 1) := by decide +kernel
theorem dX4_add_39 : decode cX4_add 39 = .ok (.iastore, 1) := by decide +kernel
theorem dX4_add_40 : decode cX4_add 40 = .ok (.aload_n 0, 1) := by decide +kernel
theorem dX4_add_41 : decode cX4_add 41 = .ok (.getfield 15, 3) := by decide +kernel
theorem dX4_add_44 : decode cX4_add 44 = .ok (.iload 6, 2) := by decide +kernel
theorem dX4_add_46 : decode cX4_add 46 = .ok (.iconst 2, 1) := by decide +kernel
theorem dX4_add_47 : decode cX4_add 47 = .ok (.iadd, 1) := by decide +kernel
theorem dX4_add_48 : decode cX4_add 48 = .ok (.iload_n 3, 1) := by decide +kernel
theorem dX4_add_49 : decode cX4_add 49 = .ok (.iastore, 1) := by decide +kernel
theorem dX4_add_50 : decode cX4_add 50 = .ok (.aload_n 0, 1) := by decide +kernel
theorem dX4_add_51 : decode cX4_add 51 = .ok (.getfield 15, 3) := by decide +kernel
theorem dX4_add_54 : decode cX4_add 54 = .ok (.iload 6, 2) := by decide +kernel
theorem dX4_add_56 : decode cX4_add 56 = .ok (.iconst 3, 1) := by decide +kernel
theorem dX4_add_57 : decode cX4_add 57 = .ok (.iadd, 1) := by decide +kernel
theorem dX4_add_58 : decode cX4_add 58 = .ok (.iload 4, 2) := by decide +kernel
theorem dX4_add_60 : decode cX4_add 60 = .ok (.iastore, 1) := by decide +kernel
theorem dX4_add_61 : decode cX4_add 61 = .ok (.aload_n 0, 1) := by decide +kernel
theorem dX4_add_62 : decode cX4_add 62 = .ok (.getfield 15, 3) := by decide +kernel
theorem dX4_add_65 : decode cX4_add 65 = .ok (.iload 6, 2) := by decide +kernel
theorem dX4_add_67 : decode cX4_add 67 = .ok (.iconst 4, 1) := by decide +kernel
theorem dX4_add_68 : decode cX4_add 68 = .ok (.iadd, 1) := by decide +kernel
theorem dX4_add_69 : decode cX4_add 69 = .ok (.iload 5, 2) := by decide +kernel
theorem dX4_add_71 : decode cX4_add 71 = .ok (.iastore, 1) := by decide +kernel
theorem dX4_add_72 : decode cX4_add 72 = .ok (.aload_n 0, 1) := by decide +kernel
theorem dX4_add_73 : decode cX4_add 73 = .ok (.dup, 1) := by decide +kernel
theorem dX4_add_74 : decode cX4_add 74 = .ok (.getfield 9, 3) := by decide +kernel
theorem dX4_add_77 : decode cX4_add 77 = .ok (.iconst 1, 1) := by decide +kernel
theorem dX4_add_78 : decode cX4_add 78 = .ok (.iadd, 1) := by decide +kernel
theorem dX4_add_79 : decode cX4_add 79 = .ok (.putfield 9, 3) := by decide +kernel
theorem dX4_add_82 : decode cX4_add 82 = .ok (.aload_n 0, 1) := by decide +kernel
theorem dX4_add_83 : decode cX4_add 83 = .ok (.getfield 9, 3) := by decide +kernel
theorem dX4_add_86 : decode cX4_add 86 = .ok (.ireturn, 1) := by decide +kernel
theorem dX4_close_0 : decode cX4_close 0 = .ok (.iload_n 1, 1) := by decide +kernel
theorem dX4_close_1 : decode cX4_close 1 = .ok (.iconst 1, 1) := by decide +kernel
theorem dX4_close_2 : decode cX4_close 2 = .ok (.iadd, 1) := by decide +kernel
theorem dX4_close_3 : decode cX4_close 3 = .ok (.iconst 5, 1) := by decide +kernel
theorem dX4_close_4 : decode cX4_close 4 = .ok (.imul, 1) := by decide +kernel
theorem dX4_close_5 : decode cX4_close 5 = .ok (.istore_n 2, 1) := by decide +kernel
theorem dX4_close_6 : decode cX4_close 6 = .ok (.aload_n 0, 1) := by decide +kernel
theorem dX4_close_7 : decode cX4_close 7 = .ok (.getfield 15, 3) := by decide +kernel
theorem dX4_close_10 : decode cX4_close 10 = .ok (.iload_n 2, 1) := by decide +kernel
theorem dX4_close_11 : decode cX4_close 11 = .ok (.aload_n 0, 1) := by decide +kernel
theorem dX4_close_12 : decode cX4_close 12 = .ok (.getfield 15, 3) := by decide +kernel
theorem dX4_close_15 : decode cX4_close 15 = .ok (.iload_n 2, 1) := by decide +kernel
theorem dX4_close_16 : decode cX4_close 16 = .ok (.iconst 5, 1) := by decide +kernel
theorem dX4_close_17 : decode cX4_close 17 = .ok (.isub, 1) := by decide +kernel
theorem dX4_close_18 : decode cX4_close 18 = .ok (.aload_n 0, 1) := by decide +kernel
theorem dX4_close_19 : decode cX4_close 19 = .ok (.getfield 9, 3) := by decide +kernel
theorem dX4_close_22 : decode cX4_close 22 = .ok (.iconst 5, 1) := by decide +kernel
theorem dX4_close_23 : decode cX4_close 23 = .ok (.imul, 1) := by decide +kernel
theorem dX4_close_24 : decode cX4_close 24 = .ok (.iload_n 2, 1) := by decide +kernel
theorem dX4_close_25 : decode cX4_close 25 = .ok (.isub, 1) := by decide +kernel
theorem dX4_close_26 : decode cX4_close 26 = .ok (.invokestatic 22, 3) := by decide +kernel
theorem dX4_close_29 : decode cX4_close 29 = .ok (.aload_n 0, 1) := by decide +kernel
theorem dX4_close_30 : decode cX4_close 30 = .ok (.dup, 1) := by decide +kernel
theorem dX4_close_31 : decode cX4_close 31 = .ok (.getfield 9, 3) := by decide +kernel
theorem dX4_close_34 : decode cX4_close 34 = .ok (.iconst 1, 1) := by decide +kernel
theorem dX4_close_35 : decode cX4_close 35 = .ok (.isub, 1) := by decide +kernel
theorem dX4_close_36 : decode cX4_close 36 = .ok (.putfield 9, 3) := by decide +kernel
theorem dX4_close_39 : decode cX4_close 39 = .ok (.return_, 1) := by decide +kernel
theorem dX4_take_0 : decode cX4_take 0 = .ok (.aload_n 0, 1) := by decide +kernel
theorem dX4_take_1 : decode cX4_take 1 = .ok (.getfield 15, 3) := by decide +kernel
theorem dX4_take_4 : decode cX4_take 4 = .ok (.iload_n 1, 1) := by decide +kernel
theorem dX4_take_5 : decode cX4_take 5 = .ok (.iconst 5, 1) := by decide +kernel
theorem dX4_take_6 : decode cX4_take 6 = .ok (.imul, 1) := by decide +kernel
theorem dX4_take_7 : decode cX4_take 7 = .ok (.iconst 2, 1) := by decide +kernel
theorem dX4_take_8 : decode cX4_take 8 = .ok (.iadd, 1) := by decide +kernel
theorem dX4_take_9 : decode cX4_take 9 = .ok (.dup2, 1) := by decide +kernel
theorem dX4_take_10 : decode cX4_take 10 = .ok (.iaload, 1) := by decide +kernel
theorem dX4_take_11 : decode cX4_take 11 = .ok (.iload_n 2, 1) := by decide +kernel
theorem dX4_take_12 : decode cX4_take 12 = .ok (.isub, 1) := by decide +kernel
theorem dX4_take_13 : decode cX4_take 13 = .ok (.iastore, 1) := by decide +kernel
theorem dX4_take_14 : decode cX4_take 14 = .ok (.return_, 1) := by decide +kernel
theorem dX4_removeEmpty_0 : decode cX4_removeEmpty 0 = .ok (.aload_n 0, 1) := by decide +kernel
theorem dX4_removeEmpty_1 : decode cX4_removeEmpty 1 = .ok (.getfield 9, 3) := by decide +kernel
theorem dX4_removeEmpty_4 : decode cX4_removeEmpty 4 = .ok (.iconst 1, 1) := by decide +kernel
theorem dX4_removeEmpty_5 : decode cX4_removeEmpty 5 = .ok (.isub, 1) := by decide +kernel
theorem dX4_removeEmpty_6 : decode cX4_removeEmpty 6 = .ok (.istore_n 1, 1) := by decide +kernel
theorem dX4_removeEmpty_7 : decode cX4_removeEmpty 7 = .ok (.iload_n 1, 1) := by decide +kernel
theorem dX4_removeEmpty_8 : decode cX4_removeEmpty 8 = .ok (.ifCond .lt 23, 3) := by decide +kernel
theorem dX4_removeEmpty_11 : decode cX4_removeEmpty 11 = .ok (.aload_n 0, 1) := by decide +kernel
theorem dX4_removeEmpty_12 : decode cX4_removeEmpty 12 = .ok (.iload_n 1, 1) := by decide +kernel
theorem dX4_removeEmpty_13 : decode cX4_removeEmpty 13 = .ok (.iconst 2, 1) := by decide +kernel
theorem dX4_removeEmpty_14 : decode cX4_removeEmpty 14 = .ok (.invokevirtual 40, 3) := by decide +kernel
theorem dX4_removeEmpty_17 : decode cX4_removeEmpty 17 = .ok (.ifCond .ne 8, 3) := by decide +kernel
theorem dX4_removeEmpty_20 : decode cX4_removeEmpty 20 = .ok (.aload_n 0, 1) := by decide +kernel
theorem dX4_removeEmpty_21 : decode cX4_removeEmpty 21 = .ok (.iload_n 1, 1) := by decide +kernel
theorem dX4_removeEmpty_22 : decode cX4_removeEmpty 22 = .ok (.invokevirtual 36, 3) := by decide +kernel
theorem dX4_removeEmpty_25 : decode cX4_removeEmpty 25 = .ok (.iinc 1 (-1), 3) := by decide +kernel
theorem dX4_removeEmpty_28 : decode cX4_removeEmpty 28 = .ok (.goto (-21), 3) := by decide +kernel
theorem dX4_removeEmpty_31 : decode cX4_removeEmpty 31 = .ok (.return_, 1) := by decide +kernel
theorem dX4_sortByPrice_0 : decode cX4_sortByPrice 0 = .ok (.iconst 0, 1) := by decide +kernel
theorem dX4_sortByPrice_1 : decode cX4_sortByPrice 1 = .ok (.istore_n 2, 1) := by decide +kernel
theorem dX4_sortByPrice_2 : decode cX4_sortByPrice 2 = .ok (.iload_n 2, 1) := by decide +kernel
theorem dX4_sortByPrice_3 : decode cX4_sortByPrice 3 = .ok (.aload_n 0, 1) := by decide +kernel
theorem dX4_sortByPrice_4 : decode cX4_sortByPrice 4 = .ok (.getfield 9, 3) := by decide +kernel
theorem dX4_sortByPrice_7 : decode cX4_sortByPrice 7 = .ok (.if_icmp .ge 76, 3) := by decide +kernel
theorem dX4_sortByPrice_10 : decode cX4_sortByPrice 10 = .ok (.iload_n 1, 1) := by decide +kernel
theorem dX4_sortByPrice_11 : decode cX4_sortByPrice 11 = .ok (.aload_n 0, 1) := by decide +kernel
theorem dX4_sortByPrice_12 : decode cX4_sortByPrice 12 = .ok (.iload_n 2, 1) := by decide +kernel
theorem dX4_sortByPrice_13 : decode cX4_sortByPrice 13 = .ok (.iconst 3, 1) := by decide +kernel
theorem dX4_sortByPrice_14 : decode cX4_sortByPrice 14 = .ok (.invokevirtual 40, 3) := by decide +kernel
theorem dX4_sortByPrice_17 : decode cX4_sortByPrice 17 = .ok (.imul, 1) := by decide +kernel
theorem dX4_sortByPrice_18 : decode cX4_sortByPrice 18 = .ok (.istore_n 3, 1) := by decide +kernel
theorem dX4_sortByPrice_19 : decode cX4_sortByPrice 19 = .ok (.iload_n 2, 1) := by decide +kernel
theorem dX4_sortByPrice_20 : decode cX4_sortByPrice 20 = .ok (.istore 4, 2) := by decide +kernel
theorem dX4_sortByPrice_22 : decode cX4_sortByPrice 22 = .ok (.iload 4, 2) := by decide +kernel
theorem dX4_sortByPrice_24 : decode cX4_sortByPrice 24 = .ok (.ifCond .le 45, 3) := by decide +kernel
theorem dX4_sortByPrice_27 : decode cX4_sortByPrice 27 = .ok (.iload_n 1, 1) := by decide +kernel
theorem dX4_sortByPrice_28 : decode cX4_sortByPrice 28 = .ok (.aload_n 0, 1) := by decide +kernel
theorem dX4_sortByPrice_29 : decode cX4_sortByPrice 29 = .ok (.aload_n 0, 1) := by decide +kernel
theorem dX4_sortByPrice_30 : decode cX4_sortByPrice 30 = .ok (.getfield 19, 3) := by decide +kernel
theorem dX4_sortByPrice_33 : decode cX4_sortByPrice 33 = .ok (.iload 4, 2) := by decide +kernel
theorem dX4_sortByPrice_35 : decode cX4_sortByPrice 35 = .ok (.iconst 1, 1) := by decide +kernel
theorem dX4_sortByPrice_36 : decode cX4_sortByPrice 36 = .ok (.isub, 1) := by decide +kernel
theorem dX4_sortByPrice_37 : decode cX4_sortByPrice 37 = .ok (.iaload, 1) := by decide +kernel
theorem dX4_sortByPrice_38 : decode cX4_sortByPrice 38 = .ok (.iconst 3, 1) := by decide +kernel
theorem dX4_sortByPrice_39 : decode cX4_sortByPrice 39 = .ok (.invokevirtual 40, 3) := by decide +kernel
theorem dX4_sortByPrice_42 : decode cX4_sortByPrice 42 = .ok (.imul, 1) := by decide +kernel
theorem dX4_sortByPrice_43 : decode cX4_sortByPrice 43 = .ok (.iload_n 3, 1) := by decide +kernel
theorem dX4_sortByPrice_44 : decode cX4_sortByPrice 44 = .ok (.if_icmp .le 25, 3) := by decide +kernel
theorem dX4_sortByPrice_47 : decode cX4_sortByPrice 47 = .ok (.aload_n 0, 1) := by decide +kernel
theorem dX4_sortByPrice_48 : decode cX4_sortByPrice 48 = .ok (.getfield 19, 3) := by decide +kernel
theorem dX4_sortByPrice_51 : decode cX4_sortByPrice 51 = .ok (.iload 4, 2) := by decide +kernel
theorem dX4_sortByPrice_53 : decode cX4_sortByPrice 53 = .ok (.aload_n 0, 1) := by decide +kernel
theorem dX4_sortByPrice_54 : decode cX4_sortByPrice 54 = .ok (.getfield 19, 3) := by decide +kernel
theorem dX4_sortByPrice_57 : decode cX4_sortByPrice 57 = .ok (.iload 4, 2) := by decide +kernel
theorem dX4_sortByPrice_59 : decode cX4_sortByPrice 59 = .ok (.iconst 1, 1) := by decide +kernel
theorem dX4_sortByPrice_60 : decode cX4_sortByPrice 60 = .ok (.isub, 1) := by decide +kernel
theorem dX4_sortByPrice_61 : decode cX4_sortByPrice 61 = .ok (.iaload, 1) := by decide +kernel
theorem dX4_sortByPrice_62 : decode cX4_sortByPrice 62 = .ok (.iastore, 1) := by decide +kernel
theorem dX4_sortByPrice_63 : decode cX4_sortByPrice 63 = .ok (.iinc 4 (-1), 3) := by decide +kernel
theorem dX4_sortByPrice_66 : decode cX4_sortByPrice 66 = .ok (.goto (-44), 3) := by decide +kernel
theorem dX4_sortByPrice_69 : decode cX4_sortByPrice 69 = .ok (.aload_n 0, 1) := by decide +kernel
theorem dX4_sortByPrice_70 : decode cX4_sortByPrice 70 = .ok (.getfield 19, 3) := by decide +kernel
theorem dX4_sortByPrice_73 : decode cX4_sortByPrice 73 = .ok (.iload 4, 2) := by decide +kernel
theorem dX4_sortByPrice_75 : decode cX4_sortByPrice 75 = .ok (.iload_n 2, 1) := by decide +kernel
theorem dX4_sortByPrice_76 : decode cX4_sortByPrice 76 = .ok (.iastore, 1) := by decide +kernel
theorem dX4_sortByPrice_77 : decode cX4_sortByPrice 77 = .ok (.iinc 2 1, 3) := by decide +kernel
theorem dX4_sortByPrice_80 : decode cX4_sortByPrice 80 = .ok (.goto (-78), 3) := by decide +kernel
theorem dX4_sortByPrice_83 : decode cX4_sortByPrice 83 = .ok (.return_, 1) := by decide +kernel
theorem dX5_init_0 : decode cX5_init 0 = .ok (.aload_n 0, 1) := by decide +kernel
theorem dX5_init_1 : decode cX5_init 1 = .ok (.invokespecial 3, 3) := by decide +kernel
theorem dX5_init_4 : decode cX5_init 4 = .ok (.aload_n 0, 1) := by decide +kernel
theorem dX5_init_5 : decode cX5_init 5 = .ok (.iconst 0, 1) := by decide +kernel
theorem dX5_init_6 : decode cX5_init 6 = .ok (.putfield 9, 3) := by decide +kernel
theorem dX5_init_9 : decode cX5_init 9 = .ok (.aload_n 0, 1) := by decide +kernel
theorem dX5_init_10 : decode cX5_init 10 = .ok (.bipush 109, 2) := by decide +kernel
theorem dX5_init_12 : decode cX5_init 12 = .ok (.putfield 15, 3) := by decide +kernel
theorem dX5_init_15 : decode cX5_init 15 = .ok (.aload_n 0, 1) := by decide +kernel
theorem dX5_init_16 : decode cX5_init 16 = .ok (.iconst 5, 1) := by decide +kernel
theorem dX5_init_17 : decode cX5_init 17 = .ok (.newarray .int, 2) := by decide +kernel
theorem dX5_init_19 : decode cX5_init 19 = .ok (.putfield 19, 3) := by decide +kernel
theorem dX5_init_22 : decode cX5_init 22 = .ok (.aload_n 0, 1) := by decide +kernel
theorem dX5_init_23 : decode cX5_init 23 = .ok (.iconst 0, 1) := by decide +kernel
theorem dX5_init_24 : decode cX5_init 24 = .ok (.putfield 23, 3) := by decide +kernel
theorem dX5_init_27 : decode cX5_init 27 = .ok (.aload_n 0, 1) := by decide +kernel
theorem dX5_init_28 : decode cX5_init 28 = .ok (.aload_n 1, 1) := by decide +kernel
theorem dX5_init_29 : decode cX5_init 29 = .ok (.putfield 26, 3) := by decide +kernel
theorem dX5_init_32 : decode cX5_init 32 = .ok (.return_, 1) := by decide +kernel
theorem dX6_init_0 : decode cX6_init 0 = .ok (.aload_n 0, 1) := by decide +kernel
theorem dX6_init_1 : decode cX6_init 1 = .ok (.invokespecial 3, 3) := by decide +kernel
theorem dX6_init_4 : decode cX6_init 4 = .ok (.aload_n 0, 1) := by decide +kernel
theorem dX6_init_5 : decode cX6_init 5 = .ok (.bipush 80, 2) := by decide +kernel
theorem dX6_init_7 : decode cX6_init 7 = .ok (.newarray .char, 2) := by decide +kernel
theorem dX6_init_9 : decode cX6_init 9 = .ok (.putfield 9, 3) := by decide +kernel
theorem dX6_init_12 : decode cX6_init 12 = .ok (.aload_n 0, 1) := by decide +kernel
theorem dX6_init_13 : decode cX6_init 13 = .ok (.iconst 0, 1) := by decide +kernel
theorem dX6_init_14 : decode cX6_init 14 = .ok (.putfield 15, 3) := by decide +kernel
theorem dX6_init_17 : decode cX6_init 17 = .ok (.return_, 1) := by decide +kernel
theorem dX7_init_0 : decode cX7_init 0 = .ok (.aload_n 0, 1) := by decide +kernel
theorem dX7_init_1 : decode cX7_init 1 = .ok (.invokespecial 3, 3) := by decide +kernel
theorem dX7_init_4 : decode cX7_init 4 = .ok (.aload_n 0, 1) := by decide +kernel
theorem dX7_init_5 : decode cX7_init 5 = .ok (.sipush 15625, 3) := by decide +kernel
theorem dX7_init_8 : decode cX7_init 8 = .ok (.newarray .int, 2) := by decide +kernel
theorem dX7_init_10 : decode cX7_init 10 = .ok (.putfield 9, 3) := by decide +kernel
theorem dX7_init_13 : decode cX7_init 13 = .ok (.aload_n 0, 1) := by decide +kernel
theorem dX7_init_14 : decode cX7_init 14 = .ok (.iconst 0, 1) := by decide +kernel
theorem dX7_init_15 : decode cX7_init 15 = .ok (.putfield 15, 3) := by decide +kernel
theorem dX7_init_18 : decode cX7_init 18 = .ok (.aload_n 0, 1) := by decide +kernel
theorem dX7_init_19 : decode cX7_init 19 = .ok (.bipush 6, 2) := by decide +kernel
theorem dX7_init_21 : decode cX7_init 21 = .ok (.newarray .int, 2) := by decide +kernel
theorem dX7_init_23 : decode cX7_init 23 = .ok (.putfield 19, 3) := by decide +kernel
theorem dX7_init_26 : decode cX7_init 26 = .ok (.aload_n 0, 1) := by decide +kernel
theorem dX7_init_27 : decode cX7_init 27 = .ok (.bipush 6, 2) := by decide +kernel
theorem dX7_init_29 : decode cX7_init 29 = .ok (.newarray .int, 2) := by decide +kernel
theorem dX7_init_31 : decode cX7_init 31 = .ok (.putfield 22, 3) := by decide +kernel
theorem dX7_init_34 : decode cX7_init 34 = .ok (.aload_n 0, 1) := by decide +kernel
theorem dX7_init_35 : decode cX7_init 35 = .ok (.bipush 6, 2) := by decide +kernel
theorem dX7_init_37 : decode cX7_init 37 = .ok (.newarray .int, 2) := by decide +kernel
theorem dX7_init_39 : decode cX7_init 39 = .ok (.putfield 25, 3) := by decide +kernel
theorem dX7_init_42 : decode cX7_init 42 = .ok (.aload_n 0, 1) := by decide +kernel
theorem dX7_init_43 : decode cX7_init 43 = .ok (.aload_n 1, 1) := by decide +kernel
theorem dX7_init_44 : decode cX7_init 44 = .ok (.putfield 28, 3) := by decide +kernel
theorem dX7_init_47 : decode cX7_init 47 = .ok (.aload_n 0, 1) := by decide +kernel
theorem dX7_init_48 : decode cX7_init 48 = .ok (.aload_n 2, 1) := by decide +kernel
theorem dX7_init_49 : decode cX7_init 49 = .ok (.putfield 32, 3) := by decide +kernel
theorem dX7_init_52 : decode cX7_init 52 = .ok (.return_, 1) := by decide +kernel
theorem dX7_run_0 : decode cX7_run 0 = .ok (.getstatic 36, 3) := by decide +kernel
theorem dX7_run_3 : decode cX7_run 3 = .ok (.aload_n 0, 1) := by decide +kernel
theorem dX7_run_4 : decode cX7_run 4 = .ok (.getfield 28, 3) := by decide +kernel
theorem dX7_run_7 : decode cX7_run 7 = .ok (.getfield 39, 3) := by decide +kernel
theorem dX7_run_10 : decode cX7_run 10 = .ok (.iaload, 1) := by decide +kernel
theorem dX7_run_11 : decode cX7_run 11 = .ok (.istore_n 1, 1) := by decide +kernel
theorem dX7_run_12 : decode cX7_run 12 = .ok (.iconst 0, 1) := by decide +kernel
theorem dX7_run_13 : decode cX7_run 13 = .ok (.istore_n 2, 1) := by decide +kernel
theorem dX7_run_14 : decode cX7_run 14 = .ok (.iload_n 2, 1) := by decide +kernel
theorem dX7_run_15 : decode cX7_run 15 = .ok (.iload_n 1, 1) := by decide +kernel
theorem dX7_run_16 : decode cX7_run 16 = .ok (.if_icmp .ge 16, 3) := by decide +kernel
theorem dX7_run_19 : decode cX7_run 19 = .ok (.aload_n 0, 1) := by decide +kernel
theorem dX7_run_20 : decode cX7_run 20 = .ok (.getfield 9, 3) := by decide +kernel
theorem dX7_run_23 : decode cX7_run 23 = .ok (.iload_n 2, 1) := by decide +kernel
theorem dX7_run_24 : decode cX7_run 24 = .ok (.iconst 0, 1) := by decide +kernel
theorem dX7_run_25 : decode cX7_run 25 = .ok (.iastore, 1) := by decide +kernel
theorem dX7_run_26 : decode cX7_run 26 = .ok (.iinc 2 1, 3) := by decide +kernel
theorem dX7_run_29 : decode cX7_run 29 = .ok (.goto (-15), 3) := by decide +kernel
theorem dX7_run_32 : decode cX7_run 32 = .ok (.aload_n 0, 1) := by decide +kernel
theorem dX7_run_33 : decode cX7_run 33 = .ok (.invokevirtual 44, 3) := by decide +kernel
theorem dX7_run_36 : decode cX7_run 36 = .ok (.iconst 0, 1) := by decide +kernel
theorem dX7_run_37 : decode cX7_run 37 = .ok (.istore_n 2, 1) := by decide +kernel
theorem dX7_run_38 : decode cX7_run 38 = .ok (.iload_n 2, 1) := by decide +kernel
theorem dX7_run_39 : decode cX7_run 39 = .ok (.bipush 10, 2) := by decide +kernel
theorem dX7_run_41 : decode cX7_run 41 = .ok (.if_icmp .ge 38, 3) := by decide +kernel
theorem dX7_run_44 : decode cX7_run 44 = .ok (.aload_n 0, 1) := by decide +kernel
theorem dX7_run_45 : decode cX7_run 45 = .ok (.getfield 32, 3) := by decide +kernel
theorem dX7_run_48 : decode cX7_run 48 = .ok (.iload_n 2, 1) := by decide +kernel
theorem dX7_run_49 : decode cX7_run 49 = .ok (.invokevirtual 47, 3) := by decide +kernel
theorem dX7_run_52 : decode cX7_run 52 = .ok (.aload_n 0, 1) := by decide +kernel
theorem dX7_run_53 : decode cX7_run 53 = .ok (.getfield 32, 3) := by decide +kernel
theorem dX7_run_56 : decode cX7_run 56 = .ok (.invokevirtual 53, 3) := by decide +kernel
theorem dX7_run_59 : decode cX7_run 59 = .ok (.ifCond .ne 14, 3) := by decide +kernel
theorem dX7_run_62 : decode cX7_run 62 = .ok (.aload_n 0, 1) := by decide +kernel
theorem dX7_run_63 : decode cX7_run 63 = .ok (.invokevirtual 57, 3) := by decide +kernel
theorem dX7_run_66 : decode cX7_run 66 = .ok (.aload_n 0, 1) := by decide +kernel
theorem dX7_run_67 : decode cX7_run 67 = .ok (.iconst 0, 1) := by decide +kernel
theorem dX7_run_68 : decode cX7_run 68 = .ok (.iconst 0, 1) := by decide +kernel
theorem dX7_run_69 : decode cX7_run 69 = .ok (.iconst 0, 1) := by decide +kernel
theorem dX7_run_70 : decode cX7_run 70 = .ok (.invokestatic 60, 3) := by decide +kernel
theorem dX7_run_73 : decode cX7_run 73 = .ok (.iinc 2 1, 3) := by decide +kernel
theorem dX7_run_76 : decode cX7_run 76 = .ok (.goto (-38), 3) := by decide +kernel
theorem dX7_run_79 : decode cX7_run 79 = .ok (.aload_n 0, 1) := by decide +kernel
theorem dX7_run_80 : decode cX7_run 80 = .ok (.iconst 0, 1) := by decide +kernel
theorem dX7_run_81 : decode cX7_run 81 = .ok (.putfield 15, 3) := by decide +kernel
theorem dX7_run_84 : decode cX7_run 84 = .ok (.iconst 1, 1) := by decide +kernel
theorem dX7_run_85 : decode cX7_run 85 = .ok (.istore_n 2, 1) := by decide +kernel
theorem dX7_run_86 : decode cX7_run 86 = .ok (.iload_n 2, 1) := by decide +kernel
theorem dX7_run_87 : decode cX7_run 87 = .ok (.iload_n 1, 1) := by decide +kernel
theorem dX7_run_88 : decode cX7_run 88 = .ok (.if_icmp .ge 32, 3) := by decide +kernel
theorem dX7_run_91 : decode cX7_run 91 = .ok (.aload_n 0, 1) := by decide +kernel
theorem dX7_run_92 : decode cX7_run 92 = .ok (.getfield 9, 3) := by decide +kernel
theorem dX7_run_95 : decode cX7_run 95 = .ok (.iload_n 2, 1) := by decide +kernel
theorem dX7_run_96 : decode cX7_run 96 = .ok (.iaload, 1) := by decide +kernel
theorem dX7_run_97 : decode cX7_run 97 = .ok (.aload_n 0, 1) := by decide +kernel
theorem dX7_run_98 : decode cX7_run 98 = .ok (.getfield 9, 3) := by decide +kernel
theorem dX7_run_101 : decode cX7_run 101 = .ok (.aload_n 0, 1) := by decide +kernel
theorem dX7_run_102 : decode cX7_run 102 = .ok (.getfield 15, 3) := by decide +kernel
theorem dX7_run_105 : decode cX7_run 105 = .ok (.iaload, 1) := by decide +kernel
theorem dX7_run_106 : decode cX7_run 106 = .ok (.if_icmp .le 8, 3) := by decide +kernel
theorem dX7_run_109 : decode cX7_run 109 = .ok (.aload_n 0, 1) := by decide +kernel
theorem dX7_run_110 : decode cX7_run 110 = .ok (.iload_n 2, 1) := by decide +kernel
theorem dX7_run_111 : decode cX7_run 111 = .ok (.putfield 15, 3) := by decide +kernel
theorem dX7_run_114 : decode cX7_run 114 = .ok (.iinc 2 1, 3) := by decide +kernel
theorem dX7_run_117 : decode cX7_run 117 = .ok (.goto (-31), 3) := by decide +kernel
theorem dX7_run_120 : decode cX7_run 120 = .ok (.return_, 1) := by decide +kernel
theorem dX7_bestTiltOf_0 : decode cX7_bestTiltOf 0 = .ok (.aload_n 0, 1) := by decide +kernel
theorem dX7_bestTiltOf_1 : decode cX7_bestTiltOf 1 = .ok (.getfield 15, 3) := by decide +kernel
theorem dX7_bestTiltOf_4 : decode cX7_bestTiltOf 4 = .ok (.aload_n 0, 1) := by decide +kernel
theorem dX7_bestTiltOf_5 : decode cX7_bestTiltOf 5 = .ok (.iload_n 1, 1) := by decide +kernel
theorem dX7_bestTiltOf_6 : decode cX7_bestTiltOf 6 = .ok (.invokevirtual 64, 3) := by decide +kernel
theorem dX7_bestTiltOf_9 : decode cX7_bestTiltOf 9 = .ok (.idiv, 1) := by decide +kernel
theorem dX7_bestTiltOf_10 : decode cX7_bestTiltOf 10 = .ok (.iconst 5, 1) := by decide +kernel
theorem dX7_bestTiltOf_11 : decode cX7_bestTiltOf 11 = .ok (.irem, 1) := by decide +kernel
theorem dX7_bestTiltOf_12 : decode cX7_bestTiltOf 12 = .ok (.ireturn, 1) := by decide +kernel
theorem dX7_bestYields_0 : decode cX7_bestYields 0 = .ok (.aload_n 0, 1) := by decide +kernel
theorem dX7_bestYields_1 : decode cX7_bestYields 1 = .ok (.getfield 9, 3) := by decide +kernel
theorem dX7_bestYields_4 : decode cX7_bestYields 4 = .ok (.aload_n 0, 1) := by decide +kernel
theorem dX7_bestYields_5 : decode cX7_bestYields 5 = .ok (.getfield 15, 3) := by decide +kernel
theorem dX7_bestYields_8 : decode cX7_bestYields 8 = .ok (.iaload, 1) := by decide +kernel
theorem dX7_bestYields_9 : decode cX7_bestYields 9 = .ok (.istore_n 1, 1) := by decide +kernel
theorem dX7_bestYields_10 : decode cX7_bestYields 10 = .ok (.iconst 0, 1) := by decide +kernel
theorem dX7_bestYields_11 : decode cX7_bestYields 11 = .ok (.istore_n 2, 1) := by decide +kernel
theorem dX7_bestYields_12 : decode cX7_bestYields 12 = .ok (.iload_n 2, 1) := by decide +kernel
theorem dX7_bestYields_13 : decode cX7_bestYields 13 = .ok (.aload_n 0, 1) := by decide +kernel
theorem dX7_bestYields_14 : decode cX7_bestYields 14 = .ok (.getfield 28, 3) := by decide +kernel
theorem dX7_bestYields_17 : decode cX7_bestYields 17 = .ok (.getfield 39, 3) := by decide +kernel
theorem dX7_bestYields_20 : decode cX7_bestYields 20 = .ok (.if_icmp .ge 24, 3) := by decide +kernel
theorem dX7_bestYields_23 : decode cX7_bestYields 23 = .ok (.iload_n 1, 1) := by decide +kernel
theorem dX7_bestYields_24 : decode cX7_bestYields 24 = .ok (.bipush 10, 2) := by decide +kernel
theorem dX7_bestYields_26 : decode cX7_bestYields 26 = .ok (.aload_n 0, 1) := by decide +kernel
theorem dX7_bestYields_27 : decode cX7_bestYields 27 = .ok (.getfield 28, 3) := by decide +kernel
theorem dX7_bestYields_30 : decode cX7_bestYields 30 = .ok (.getfield 68, 3) := by decide +kernel
theorem dX7_bestYields_33 : decode cX7_bestYields 33 = .ok (.iload_n 2, 1) := by decide +kernel
theorem dX7_bestYields_34 : decode cX7_bestYields 34 = .ok (.iaload, 1) := by decide +kernel
theorem dX7_bestYields_35 : decode cX7_bestYields 35 = .ok (.imul, 1) := by decide +kernel
theorem dX7_bestYields_36 : decode cX7_bestYields 36 = .ok (.iadd, 1) := by decide +kernel
theorem dX7_bestYields_37 : decode cX7_bestYields 37 = .ok (.istore_n 1, 1) := by decide +kernel
theorem dX7_bestYields_38 : decode cX7_bestYields 38 = .ok (.iinc 2 1, 3) := by decide +kernel
theorem dX7_bestYields_41 : decode cX7_bestYields 41 = .ok (.goto (-29), 3) := by decide +kernel
theorem dX7_bestYields_44 : decode cX7_bestYields 44 = .ok (.iload_n 1, 1) := by decide +kernel
theorem dX7_bestYields_45 : decode cX7_bestYields 45 = .ok (.ireturn, 1) := by decide +kernel
theorem dX7_stepOf_0 : decode cX7_stepOf 0 = .ok (.getstatic 36, 3) := by decide +kernel
theorem dX7_stepOf_3 : decode cX7_stepOf 3 = .ok (.aload_n 0, 1) := by decide +kernel
theorem dX7_stepOf_4 : decode cX7_stepOf 4 = .ok (.getfield 28, 3) := by decide +kernel
theorem dX7_stepOf_7 : decode cX7_stepOf 7 = .ok (.getfield 39, 3) := by decide +kernel
theorem dX7_stepOf_10 : decode cX7_stepOf 10 = .ok (.iconst 1, 1) := by decide +kernel
theorem dX7_stepOf_11 : decode cX7_stepOf 11 = .ok (.isub, 1) := by decide +kernel
theorem dX7_stepOf_12 : decode cX7_stepOf 12 = .ok (.iload_n 1, 1) := by decide +kernel
theorem dX7_stepOf_13 : decode cX7_stepOf 13 = .ok (.isub, 1) := by decide +kernel
theorem dX7_stepOf_14 : decode cX7_stepOf 14 = .ok (.iaload, 1) := by decide +kernel
theorem dX7_stepOf_15 : decode cX7_stepOf 15 = .ok (.ireturn, 1) := by decide +kernel
theorem dX7_findTops_0 : decode cX7_findTops 0 = .ok (.iconst 0, 1) := by decide +kernel
theorem dX7_findTops_1 : decode cX7_findTops 1 = .ok (.istore_n 1, 1) := by decide +kernel
theorem dX7_findTops_2 : decode cX7_findTops 2 = .ok (.iload_n 1, 1) := by decide +kernel
theorem dX7_findTops_3 : decode cX7_findTops 3 = .ok (.bipush 6, 2) := by decide +kernel
theorem dX7_findTops_5 : decode cX7_findTops 5 = .ok (.if_icmp .ge 16, 3) := by decide +kernel
theorem dX7_findTops_8 : decode cX7_findTops 8 = .ok (.aload_n 0, 1) := by decide +kernel
theorem dX7_findTops_9 : decode cX7_findTops 9 = .ok (.getfield 19, 3) := by decide +kernel
theorem dX7_findTops_12 : decode cX7_findTops 12 = .ok (.iload_n 1, 1) := by decide +kernel
theorem dX7_findTops_13 : decode cX7_findTops 13 = .ok (.iconst 0, 1) := by decide +kernel
theorem dX7_findTops_14 : decode cX7_findTops 14 = .ok (.iastore, 1) := by decide +kernel
theorem dX7_findTops_15 : decode cX7_findTops 15 = .ok (.iinc 1 1, 3) := by decide +kernel
theorem dX7_findTops_18 : decode cX7_findTops 18 = .ok (.goto (-16), 3) := by decide +kernel
theorem dX7_findTops_21 : decode cX7_findTops 21 = .ok (.iconst 0, 1) := by decide +kernel
theorem dX7_findTops_22 : decode cX7_findTops 22 = .ok (.istore_n 1, 1) := by decide +kernel
theorem dX7_findTops_23 : decode cX7_findTops 23 = .ok (.iload_n 1, 1) := by decide +kernel
theorem dX7_findTops_24 : decode cX7_findTops 24 = .ok (.bipush 10, 2) := by decide +kernel
theorem dX7_findTops_26 : decode cX7_findTops 26 = .ok (.if_icmp .ge 60, 3) := by decide +kernel
theorem dX7_findTops_29 : decode cX7_findTops 29 = .ok (.aload_n 0, 1) := by decide +kernel
theorem dX7_findTops_30 : decode cX7_findTops 30 = .ok (.getfield 32, 3) := by decide +kernel
theorem dX7_findTops_33 : decode cX7_findTops 33 = .ok (.iload_n 1, 1) := by decide +kernel
theorem dX7_findTops_34 : decode cX7_findTops 34 = .ok (.invokevirtual 47, 3) := by decide +kernel
theorem dX7_findTops_37 : decode cX7_findTops 37 = .ok (.iconst 0, 1) := by decide +kernel
theorem dX7_findTops_38 : decode cX7_findTops 38 = .ok (.istore_n 2, 1) := by decide +kernel
theorem dX7_findTops_39 : decode cX7_findTops 39 = .ok (.iload_n 2, 1) := by decide +kernel
theorem dX7_findTops_40 : decode cX7_findTops 40 = .ok (.aload_n 0, 1) := by decide +kernel
theorem dX7_findTops_41 : decode cX7_findTops 41 = .ok (.getfield 28, 3) := by decide +kernel
theorem dX7_findTops_44 : decode cX7_findTops 44 = .ok (.getfield 39, 3) := by decide +kernel
theorem dX7_findTops_47 : decode cX7_findTops 47 = .ok (.if_icmp .ge 33, 3) := by decide +kernel
theorem dX7_findTops_50 : decode cX7_findTops 50 = .ok (.aload_n 0, 1) := by decide +kernel
theorem dX7_findTops_51 : decode cX7_findTops 51 = .ok (.getfield 19, 3) := by decide +kernel
theorem dX7_findTops_54 : decode cX7_findTops 54 = .ok (.iload_n 2, 1) := by decide +kernel
theorem dX7_findTops_55 : decode cX7_findTops 55 = .ok (.aload_n 0, 1) := by decide +kernel
theorem dX7_findTops_56 : decode cX7_findTops 56 = .ok (.getfield 19, 3) := by decide +kernel
theorem dX7_findTops_59 : decode cX7_findTops 59 = .ok (.iload_n 2, 1) := by decide +kernel
theorem dX7_findTops_60 : decode cX7_findTops 60 = .ok (.iaload, 1) := by decide +kernel
theorem dX7_findTops_61 : decode cX7_findTops 61 = .ok (.aload_n 0, 1) := by decide +kernel
theorem dX7_findTops_62 : decode cX7_findTops 62 = .ok (.getfield 32, 3) := by decide +kernel
theorem dX7_findTops_65 : decode cX7_findTops 65 = .ok (.getfield 71, 3) := by decide +kernel
theorem dX7_findTops_68 : decode cX7_findTops 68 = .ok (.iload_n 2, 1) := by decide +kernel
theorem dX7_findTops_69 : decode cX7_findTops 69 = .ok (.iaload, 1) := by decide +kernel
theorem dX7_findTops_70 : decode cX7_findTops 70 = .ok (.invokestatic 74, 3) := by decide +kernel
theorem dX7_findTops_73 : decode cX7_findTops 73 = .ok (.iastore, 1) := by decide +kernel
theorem dX7_findTops_74 : decode cX7_findTops 74 = .ok (.iinc 2 1, 3) := by decide +kernel
theorem dX7_findTops_77 : decode cX7_findTops 77 = .ok (.goto (-38), 3) := by decide +kernel
theorem dX7_findTops_80 : decode cX7_findTops 80 = .ok (.iinc 1 1, 3) := by decide +kernel
theorem dX7_findTops_83 : decode cX7_findTops 83 = .ok (.goto (-60), 3) := by decide +kernel
theorem dX7_findTops_86 : decode cX7_findTops 86 = .ok (.return_, 1) := by decide +kernel
theorem dX7_sortRows_0 : decode cX7_sortRows 0 = .ok (.iconst 0, 1) := by decide +kernel
theorem dX7_sortRows_1 : decode cX7_sortRows 1 = .ok (.istore_n 1, 1) := by decide +kernel
theorem dX7_sortRows_2 : decode cX7_sortRows 2 = .ok (.iload_n 1, 1) := by decide +kernel
theorem dX7_sortRows_3 : decode cX7_sortRows 3 = .ok (.aload_n 0, 1) := by decide +kernel
theorem dX7_sortRows_4 : decode cX7_sortRows 4 = .ok (.getfield 28, 3) := by decide +kernel
theorem dX7_sortRows_7 : decode cX7_sortRows 7 = .ok (.getfield 39, 3) := by decide +kernel
theorem dX7_sortRows_10 : decode cX7_sortRows 10 = .ok (.if_icmp .ge 61, 3) := by decide +kernel
theorem dX7_sortRows_13 : decode cX7_sortRows 13 = .ok (.iload_n 1, 1) := by decide +kernel
theorem dX7_sortRows_14 : decode cX7_sortRows 14 = .ok (.istore_n 2, 1) := by decide +kernel
theorem dX7_sortRows_15 : decode cX7_sortRows 15 = .ok (.iload_n 2, 1) := by decide +kernel
theorem dX7_sortRows_16 : decode cX7_sortRows 16 = .ok (.ifCond .le 42, 3) := by decide +kernel
theorem dX7_sortRows_19 : decode cX7_sortRows 19 = .ok (.aload_n 0, 1) := by decide +kernel
theorem dX7_sortRows_20 : decode cX7_sortRows 20 = .ok (.getfield 32, 3) := by decide +kernel
theorem dX7_sortRows_23 : decode cX7_sortRows 23 = .ok (.iload_n 1, 1) := by decide +kernel
theorem dX7_sortRows_24 : decode cX7_sortRows 24 = .ok (.aload_n 0, 1) := by decide +kernel
theorem dX7_sortRows_25 : decode cX7_sortRows 25 = .ok (.getfield 22, 3) := by decide +kernel
theorem dX7_sortRows_28 : decode cX7_sortRows 28 = .ok (.iload_n 2, 1) := by decide +kernel
theorem dX7_sortRows_29 : decode cX7_sortRows 29 = .ok (.iconst 1, 1) := by decide +kernel
theorem dX7_sortRows_30 : decode cX7_sortRows 30 = .ok (.isub, 1) := by decide +kernel
theorem dX7_sortRows_31 : decode cX7_sortRows 31 = .ok (.iaload, 1) := by decide +kernel
theorem dX7_sortRows_32 : decode cX7_sortRows 32 = .ok (.invokevirtual 80, 3) := by decide +kernel
theorem dX7_sortRows_35 : decode cX7_sortRows 35 = .ok (.ifCond .le 23, 3) := by decide +kernel
theorem dX7_sortRows_38 : decode cX7_sortRows 38 = .ok (.aload_n 0, 1) := by decide +kernel
theorem dX7_sortRows_39 : decode cX7_sortRows 39 = .ok (.getfield 22, 3) := by decide +kernel
theorem dX7_sortRows_42 : decode cX7_sortRows 42 = .ok (.iload_n 2, 1) := by decide +kernel
theorem dX7_sortRows_43 : decode cX7_sortRows 43 = .ok (.aload_n 0, 1) := by decide +kernel
theorem dX7_sortRows_44 : decode cX7_sortRows 44 = .ok (.getfield 22, 3) := by decide +kernel
theorem dX7_sortRows_47 : decode cX7_sortRows 47 = .ok (.iload_n 2, 1) := by decide +kernel
theorem dX7_sortRows_48 : decode cX7_sortRows 48 = .ok (.iconst 1, 1) := by decide +kernel
theorem dX7_sortRows_49 : decode cX7_sortRows 49 = .ok (.isub, 1) := by decide +kernel
theorem dX7_sortRows_50 : decode cX7_sortRows 50 = .ok (.iaload, 1) := by decide +kernel
theorem dX7_sortRows_51 : decode cX7_sortRows 51 = .ok (.iastore, 1) := by decide +kernel
theorem dX7_sortRows_52 : decode cX7_sortRows 52 = .ok (.iinc 2 (-1), 3) := by decide +kernel
theorem dX7_sortRows_55 : decode cX7_sortRows 55 = .ok (.goto (-40), 3) := by decide +kernel
theorem dX7_sortRows_58 : decode cX7_sortRows 58 = .ok (.aload_n 0, 1) := by decide +kernel
theorem dX7_sortRows_59 : decode cX7_sortRows 59 = .ok (.getfield 22, 3) := by decide +kernel
theorem dX7_sortRows_62 : decode cX7_sortRows 62 = .ok (.iload_n 2, 1) := by decide +kernel
theorem dX7_sortRows_63 : decode cX7_sortRows 63 = .ok (.iload_n 1, 1) := by decide +kernel
theorem dX7_sortRows_64 : decode cX7_sortRows 64 = .ok (.iastore, 1) := by decide +kernel
theorem dX7_sortRows_65 : decode cX7_sortRows 65 = .ok (.iinc 1 1, 3) := by decide +kernel
theorem dX7_sortRows_68 : decode cX7_sortRows 68 = .ok (.goto (-66), 3) := by decide +kernel
theorem dX7_sortRows_71 : decode cX7_sortRows 71 = .ok (.return_, 1) := by decide +kernel
theorem dX7_layRows_0 : decode cX7_layRows 0 = .ok (.iload_n 1, 1) := by decide +kernel
theorem dX7_layRows_1 : decode cX7_layRows 1 = .ok (.aload_n 0, 1) := by decide +kernel
theorem dX7_layRows_2 : decode cX7_layRows 2 = .ok (.getfield 28, 3) := by decide +kernel
theorem dX7_layRows_5 : decode cX7_layRows 5 = .ok (.getfield 39, 3) := by decide +kernel
theorem dX7_layRows_8 : decode cX7_layRows 8 = .ok (.if_icmp .lt 14, 3) := by decide +kernel
theorem dX7_layRows_11 : decode cX7_layRows 11 = .ok (.aload_n 0, 1) := by decide +kernel
theorem dX7_layRows_12 : decode cX7_layRows 12 = .ok (.getfield 9, 3) := by decide +kernel
theorem dX7_layRows_15 : decode cX7_layRows 15 = .ok (.iload_n 2, 1) := by decide +kernel
theorem dX7_layRows_16 : decode cX7_layRows 16 = .ok (.dup2, 1) := by decide +kernel
theorem dX7_layRows_17 : decode cX7_layRows 17 = .ok (.iaload, 1) := by decide +kernel
theorem dX7_layRows_18 : decode cX7_layRows 18 = .ok (.iload_n 3, 1) := by decide +kernel
theorem dX7_layRows_19 : decode cX7_layRows 19 = .ok (.iadd, 1) := by decide +kernel
theorem dX7_layRows_20 : decode cX7_layRows 20 = .ok (.iastore, 1) := by decide +kernel
theorem dX7_layRows_21 : decode cX7_layRows 21 = .ok (.return_, 1) := by decide +kernel
theorem dX7_layRows_22 : decode cX7_layRows 22 = .ok (.aload_n 0, 1) := by decide +kernel
theorem dX7_layRows_23 : decode cX7_layRows 23 = .ok (.getfield 22, 3) := by decide +kernel
theorem dX7_layRows_26 : decode cX7_layRows 26 = .ok (.iload_n 1, 1) := by decide +kernel
theorem dX7_layRows_27 : decode cX7_layRows 27 = .ok (.iaload, 1) := by decide +kernel
theorem dX7_layRows_28 : decode cX7_layRows 28 = .ok (.istore 4, 2) := by decide +kernel
theorem dX7_layRows_30 : decode cX7_layRows 30 = .ok (.aload_n 0, 1) := by decide +kernel
theorem dX7_layRows_31 : decode cX7_layRows 31 = .ok (.iload 4, 2) := by decide +kernel
theorem dX7_layRows_33 : decode cX7_layRows 33 = .ok (.iload_n 1, 1) := by decide +kernel
theorem dX7_layRows_34 : decode cX7_layRows 34 = .ok (.invokevirtual 83, 3) := by decide +kernel
theorem dX7_layRows_37 : decode cX7_layRows 37 = .ok (.istore 5, 2) := by decide +kernel
theorem dX7_layRows_39 : decode cX7_layRows 39 = .ok (.aload_n 0, 1) := by decide +kernel
theorem dX7_layRows_40 : decode cX7_layRows 40 = .ok (.iload 4, 2) := by decide +kernel
theorem dX7_layRows_42 : decode cX7_layRows 42 = .ok (.invokevirtual 64, 3) := by decide +kernel
theorem dX7_layRows_45 : decode cX7_layRows 45 = .ok (.istore 6, 2) := by decide +kernel
theorem dX7_layRows_47 : decode cX7_layRows 47 = .ok (.aload_n 0, 1) := by decide +kernel
theorem dX7_layRows_48 : decode cX7_layRows 48 = .ok (.getfield 32, 3) := by decide +kernel
theorem dX7_layRows_51 : decode cX7_layRows 51 = .ok (.getfield 71, 3) := by decide +kernel
theorem dX7_layRows_54 : decode cX7_layRows 54 = .ok (.iload 4, 2) := by decide +kernel
theorem dX7_layRows_56 : decode cX7_layRows 56 = .ok (.iaload, 1) := by decide +kernel
theorem dX7_layRows_57 : decode cX7_layRows 57 = .ok (.istore 7, 2) := by decide +kernel
theorem dX7_layRows_59 : decode cX7_layRows 59 = .ok (.aload_n 0, 1) := by decide +kernel
theorem dX7_layRows_60 : decode cX7_layRows 60 = .ok (.getfield 28, 3) := by decide +kernel
theorem dX7_layRows_63 : decode cX7_layRows 63 = .ok (.getfield 68, 3) := by decide +kernel
theorem dX7_layRows_66 : decode cX7_layRows 66 = .ok (.iload 4, 2) := by decide +kernel
theorem dX7_layRows_68 : decode cX7_layRows 68 = .ok (.iaload, 1) := by decide +kernel
theorem dX7_layRows_69 : decode cX7_layRows 69 = .ok (.istore 8, 2) := by decide +kernel
theorem dX7_layRows_71 : decode cX7_layRows 71 = .ok (.aload_n 0, 1) := by decide +kernel
theorem dX7_layRows_72 : decode cX7_layRows 72 = .ok (.getfield 32, 3) := by decide +kernel
theorem dX7_layRows_75 : decode cX7_layRows 75 = .ok (.invokevirtual 86, 3) := by decide +kernel
theorem dX7_layRows_78 : decode cX7_layRows 78 = .ok (.istore 9, 2) := by decide +kernel
theorem dX7_layRows_80 : decode cX7_layRows 80 = .ok (.iconst 0, 1) := by decide +kernel
theorem dX7_layRows_81 : decode cX7_layRows 81 = .ok (.istore 10, 2) := by decide +kernel
theorem dX7_layRows_83 : decode cX7_layRows 83 = .ok (.iload 10, 2) := by decide +kernel
theorem dX7_layRows_85 : decode cX7_layRows 85 = .ok (.aload_n 0, 1) := by decide +kernel
theorem dX7_layRows_86 : decode cX7_layRows 86 = .ok (.getfield 19, 3) := by decide +kernel
theorem dX7_layRows_89 : decode cX7_layRows 89 = .ok (.iload 4, 2) := by decide +kernel
theorem dX7_layRows_91 : decode cX7_layRows 91 = .ok (.iaload, 1) := by decide +kernel
theorem dX7_layRows_92 : decode cX7_layRows 92 = .ok (.if_icmp .gt 62, 3) := by decide +kernel
theorem dX7_layRows_95 : decode cX7_layRows 95 = .ok (.iload 8, 2) := by decide +kernel
theorem dX7_layRows_97 : decode cX7_layRows 97 = .ok (.iload 10, 2) := by decide +kernel
theorem dX7_layRows_99 : decode cX7_layRows 99 = .ok (.iload 7, 2) := by decide +kernel
theorem dX7_layRows_101 : decode cX7_layRows 101 = .ok (.invokestatic 90, 3) := by decide +kernel
theorem dX7_layRows_104 : decode cX7_layRows 104 = .ok (.imul, 1) := by decide +kernel
theorem dX7_layRows_105 : decode cX7_layRows 105 = .ok (.istore 11, 2) := by decide +kernel
theorem dX7_layRows_107 : decode cX7_layRows 107 = .ok (.iconst 0, 1) := by decide +kernel
theorem dX7_layRows_108 : decode cX7_layRows 108 = .ok (.iload 11, 2) := by decide +kernel
theorem dX7_layRows_110 : decode cX7_layRows 110 = .ok (.iload 5, 2) := by decide +kernel
theorem dX7_layRows_112 : decode cX7_layRows 112 = .ok (.isub, 1) := by decide +kernel
theorem dX7_layRows_113 : decode cX7_layRows 113 = .ok (.invokestatic 74, 3) := by decide +kernel
theorem dX7_layRows_116 : decode cX7_layRows 116 = .ok (.iload 9, 2) := by decide +kernel
theorem dX7_layRows_118 : decode cX7_layRows 118 = .ok (.imul, 1) := by decide +kernel
theorem dX7_layRows_119 : decode cX7_layRows 119 = .ok (.istore 12, 2) := by decide +kernel
theorem dX7_layRows_121 : decode cX7_layRows 121 = .ok (.aload_n 0, 1) := by decide +kernel
theorem dX7_layRows_122 : decode cX7_layRows 122 = .ok (.getfield 25, 3) := by decide +kernel
theorem dX7_layRows_125 : decode cX7_layRows 125 = .ok (.iload 4, 2) := by decide +kernel
theorem dX7_layRows_127 : decode cX7_layRows 127 = .ok (.iload 11, 2) := by decide +kernel
theorem dX7_layRows_129 : decode cX7_layRows 129 = .ok (.iastore, 1) := by decide +kernel
theorem dX7_layRows_130 : decode cX7_layRows 130 = .ok (.aload_n 0, 1) := by decide +kernel
theorem dX7_layRows_131 : decode cX7_layRows 131 = .ok (.iload_n 1, 1) := by decide +kernel
theorem dX7_layRows_132 : decode cX7_layRows 132 = .ok (.iconst 1, 1) := by decide +kernel
theorem dX7_layRows_133 : decode cX7_layRows 133 = .ok (.iadd, 1) := by decide +kernel
theorem dX7_layRows_134 : decode cX7_layRows 134 = .ok (.iload_n 2, 1) := by decide +kernel
theorem dX7_layRows_135 : decode cX7_layRows 135 = .ok (.iload 10, 2) := by decide +kernel
theorem dX7_layRows_137 : decode cX7_layRows 137 = .ok (.iload 6, 2) := by decide +kernel
theorem dX7_layRows_139 : decode cX7_layRows 139 = .ok (.imul, 1) := by decide +kernel
theorem dX7_layRows_140 : decode cX7_layRows 140 = .ok (.iadd, 1) := by decide +kernel
theorem dX7_layRows_141 : decode cX7_layRows 141 = .ok (.iload_n 3, 1) := by decide +kernel
theorem dX7_layRows_142 : decode cX7_layRows 142 = .ok (.iload 12, 2) := by decide +kernel
theorem dX7_layRows_144 : decode cX7_layRows 144 = .ok (.iadd, 1) := by decide +kernel
theorem dX7_layRows_145 : decode cX7_layRows 145 = .ok (.invokestatic 60, 3) := by decide +kernel
theorem dX7_layRows_148 : decode cX7_layRows 148 = .ok (.iinc 10 1, 3) := by decide +kernel
theorem dX7_layRows_151 : decode cX7_layRows 151 = .ok (.goto (-68), 3) := by decide +kernel
theorem dX7_layRows_154 : decode cX7_layRows 154 = .ok (.return_, 1) := by decide +kernel
theorem dX7_shadeOn_0 : decode cX7_shadeOn 0 = .ok (.iconst 0, 1) := by decide +kernel
theorem dX7_shadeOn_1 : decode cX7_shadeOn 1 = .ok (.istore_n 3, 1) := by decide +kernel
theorem dX7_shadeOn_2 : decode cX7_shadeOn 2 = .ok (.iconst 0, 1) := by decide +kernel
theorem dX7_shadeOn_3 : decode cX7_shadeOn 3 = .ok (.istore 4, 2) := by decide +kernel
theorem dX7_shadeOn_5 : decode cX7_shadeOn 5 = .ok (.iload 4, 2) := by decide +kernel
theorem dX7_shadeOn_7 : decode cX7_shadeOn 7 = .ok (.iload_n 2, 1) := by decide +kernel
theorem dX7_shadeOn_8 : decode cX7_shadeOn 8 = .ok (.if_icmp .ge 40, 3) := by decide +kernel
theorem dX7_shadeOn_11 : decode cX7_shadeOn 11 = .ok (.aload_n 0, 1) := by decide +kernel
theorem dX7_shadeOn_12 : decode cX7_shadeOn 12 = .ok (.getfield 22, 3) := by decide +kernel
theorem dX7_shadeOn_15 : decode cX7_shadeOn 15 = .ok (.iload 4, 2) := by decide +kernel
theorem dX7_shadeOn_17 : decode cX7_shadeOn 17 = .ok (.iaload, 1) := by decide +kernel
theorem dX7_shadeOn_18 : decode cX7_shadeOn 18 = .ok (.istore 5, 2) := by decide +kernel
theorem dX7_shadeOn_20 : decode cX7_shadeOn 20 = .ok (.iload_n 3, 1) := by decide +kernel
theorem dX7_shadeOn_21 : decode cX7_shadeOn 21 = .ok (.aload_n 0, 1) := by decide +kernel
theorem dX7_shadeOn_22 : decode cX7_shadeOn 22 = .ok (.getfield 32, 3) := by decide +kernel
theorem dX7_shadeOn_25 : decode cX7_shadeOn 25 = .ok (.iload 5, 2) := by decide +kernel
theorem dX7_shadeOn_27 : decode cX7_shadeOn 27 = .ok (.iload_n 1, 1) := by decide +kernel
theorem dX7_shadeOn_28 : decode cX7_shadeOn 28 = .ok (.aload_n 0, 1) := by decide +kernel
theorem dX7_shadeOn_29 : decode cX7_shadeOn 29 = .ok (.getfield 25, 3) := by decide +kernel
theorem dX7_shadeOn_32 : decode cX7_shadeOn 32 = .ok (.iload 5, 2) := by decide +kernel
theorem dX7_shadeOn_34 : decode cX7_shadeOn 34 = .ok (.iaload, 1) := by decide +kernel
theorem dX7_shadeOn_35 : decode cX7_shadeOn 35 = .ok (.invokevirtual 93, 3) := by decide +kernel
theorem dX7_shadeOn_38 : decode cX7_shadeOn 38 = .ok (.invokestatic 74, 3) := by decide +kernel
theorem dX7_shadeOn_41 : decode cX7_shadeOn 41 = .ok (.istore_n 3, 1) := by decide +kernel
theorem dX7_shadeOn_42 : decode cX7_shadeOn 42 = .ok (.iinc 4 1, 3) := by decide +kernel
theorem dX7_shadeOn_45 : decode cX7_shadeOn 45 = .ok (.goto (-40), 3) := by decide +kernel
theorem dX7_shadeOn_48 : decode cX7_shadeOn 48 = .ok (.iload_n 3, 1) := by decide +kernel
theorem dX7_shadeOn_49 : decode cX7_shadeOn 49 = .ok (.ireturn, 1) := by decide +kernel
theorem dX8_init_0 : decode cX8_init 0 = .ok (.aload_n 0, 1) := by decide +kernel
theorem dX8_init_1 : decode cX8_init 1 = .ok (.invokespecial 1, 3) := by decide +kernel
theorem dX8_init_4 : decode cX8_init 4 = .ok (.aload_n 0, 1) := by decide +kernel
theorem dX8_init_5 : decode cX8_init 5 = .ok (.new 7, 3) := by decide +kernel
theorem dX8_init_8 : decode cX8_init 8 = .ok (.dup, 1) := by decide +kernel
theorem dX8_init_9 : decode cX8_init 9 = .ok (.invokespecial 9, 3) := by decide +kernel
theorem dX8_init_12 : decode cX8_init 12 = .ok (.putfield 10, 3) := by decide +kernel
theorem dX8_init_15 : decode cX8_init 15 = .ok (.aload_n 0, 1) := by decide +kernel
theorem dX8_init_16 : decode cX8_init 16 = .ok (.new 16, 3) := by decide +kernel
theorem dX8_init_19 : decode cX8_init 19 = .ok (.dup, 1) := by decide +kernel
theorem dX8_init_20 : decode cX8_init 20 = .ok (.aload_n 0, 1) := by decide +kernel
theorem dX8_init_21 : decode cX8_init 21 = .ok (.getfield 10, 3) := by decide +kernel
theorem dX8_init_24 : decode cX8_init 24 = .ok (.invokespecial 18, 3) := by decide +kernel
theorem dX8_init_27 : decode cX8_init 27 = .ok (.putfield 21, 3) := by decide +kernel
theorem dX8_init_30 : decode cX8_init 30 = .ok (.aload_n 0, 1) := by decide +kernel
theorem dX8_init_31 : decode cX8_init 31 = .ok (.new 25, 3) := by decide +kernel
theorem dX8_init_34 : decode cX8_init 34 = .ok (.dup, 1) := by decide +kernel
theorem dX8_init_35 : decode cX8_init 35 = .ok (.aload_n 0, 1) := by decide +kernel
theorem dX8_init_36 : decode cX8_init 36 = .ok (.getfield 10, 3) := by decide +kernel
theorem dX8_init_39 : decode cX8_init 39 = .ok (.invokespecial 27, 3) := by decide +kernel
theorem dX8_init_42 : decode cX8_init 42 = .ok (.putfield 28, 3) := by decide +kernel
theorem dX8_init_45 : decode cX8_init 45 = .ok (.aload_n 0, 1) := by decide +kernel
theorem dX8_init_46 : decode cX8_init 46 = .ok (.new 32, 3) := by decide +kernel
theorem dX8_init_49 : decode cX8_init 49 = .ok (.dup, 1) := by decide +kernel
theorem dX8_init_50 : decode cX8_init 50 = .ok (.aload_n 0, 1) := by decide +kernel
theorem dX8_init_51 : decode cX8_init 51 = .ok (.getfield 10, 3) := by decide +kernel
theorem dX8_init_54 : decode cX8_init 54 = .ok (.aload_n 0, 1) := by decide +kernel
theorem dX8_init_55 : decode cX8_init 55 = .ok (.getfield 21, 3) := by decide +kernel
theorem dX8_init_58 : decode cX8_init 58 = .ok (.invokespecial 34, 3) := by decide +kernel
theorem dX8_init_61 : decode cX8_init 61 = .ok (.putfield 37, 3) := by decide +kernel
theorem dX8_init_64 : decode cX8_init 64 = .ok (.aload_n 0, 1) := by decide +kernel
theorem dX8_init_65 : decode cX8_init 65 = .ok (.new 41, 3) := by decide +kernel
theorem dX8_init_68 : decode cX8_init 68 = .ok (.dup, 1) := by decide +kernel
theorem dX8_init_69 : decode cX8_init 69 = .ok (.invokespecial 43, 3) := by decide +kernel
theorem dX8_init_72 : decode cX8_init 72 = .ok (.putfield 44, 3) := by decide +kernel
theorem dX8_init_75 : decode cX8_init 75 = .ok (.aload_n 0, 1) := by decide +kernel
theorem dX8_init_76 : decode cX8_init 76 = .ok (.new 48, 3) := by decide +kernel
theorem dX8_init_79 : decode cX8_init 79 = .ok (.dup, 1) := by decide +kernel
theorem dX8_init_80 : decode cX8_init 80 = .ok (.aload_n 0, 1) := by decide +kernel
theorem dX8_init_81 : decode cX8_init 81 = .ok (.getfield 44, 3) := by decide +kernel
theorem dX8_init_84 : decode cX8_init 84 = .ok (.invokespecial 50, 3) := by decide +kernel
theorem dX8_init_87 : decode cX8_init 87 = .ok (.putfield 53, 3) := by decide +kernel
theorem dX8_init_90 : decode cX8_init 90 = .ok (.aload_n 0, 1) := by decide +kernel
theorem dX8_init_91 : decode cX8_init 91 = .ok (.new 57, 3) := by decide +kernel
theorem dX8_init_94 : decode cX8_init 94 = .ok (.dup, 1) := by decide +kernel
theorem dX8_init_95 : decode cX8_init 95 = .ok (.invokespecial 59, 3) := by decide +kernel
theorem dX8_init_98 : decode cX8_init 98 = .ok (.putfield 60, 3) := by decide +kernel
theorem dX8_init_101 : decode cX8_init 101 = .ok (.aload_n 0, 1) := by decide +kernel
theorem dX8_init_102 : decode cX8_init 102 = .ok (.iconst 2, 1) := by decide +kernel
theorem dX8_init_103 : decode cX8_init 103 = .ok (.anewarray 7, 3) := by decide +kernel
theorem dX8_init_106 : decode cX8_init 106 = .ok (.dup, 1) := by decide +kernel
theorem dX8_init_107 : decode cX8_init 107 = .ok (.iconst 0, 1) := by decide +kernel
theorem dX8_init_108 : decode cX8_init 108 = .ok (.new 7, 3) := by decide +kernel
theorem dX8_init_111 : decode cX8_init 111 = .ok (.dup, 1) := by decide +kernel
theorem dX8_init_112 : decode cX8_init 112 = .ok (.invokespecial 9, 3) := by decide +kernel
theorem dX8_init_115 : decode cX8_init 115 = .ok (.aastore, 1) := by decide +kernel
theorem dX8_init_116 : decode cX8_init 116 = .ok (.dup, 1) := by decide +kernel
theorem dX8_init_117 : decode cX8_init 117 = .ok (.iconst 1, 1) := by decide +kernel
theorem dX8_init_118 : decode cX8_init 118 = .ok (.new 7, 3) := by decide +kernel
theorem dX8_init_121 : decode cX8_init 121 = .ok (.dup, 1) := by decide +kernel
theorem dX8_init_122 : decode cX8_init 122 = .ok (.invokespecial 9, 3) := by decide +kernel
theorem dX8_init_125 : decode cX8_init 125 = .ok (.aastore, 1) := by decide +kernel
theorem dX8_init_126 : decode cX8_init 126 = .ok (.putfield 64, 3) := by decide +kernel
theorem dX8_init_129 : decode cX8_init 129 = .ok (.aload_n 0, 1) := by decide +kernel
theorem dX8_init_130 : decode cX8_init 130 = .ok (.iconst 2, 1) := by decide +kernel
theorem dX8_init_131 : decode cX8_init 131 = .ok (.newarray .boolean, 2) := by decide +kernel
theorem dX8_init_133 : decode cX8_init 133 = .ok (.putfield 68, 3) := by decide +kernel
theorem dX8_init_136 : decode cX8_init 136 = .ok (.return_, 1) := by decide +kernel
theorem dX8_row_0 : decode cX8_row 0 = .ok (.aload_n 0, 1) := by decide +kernel
theorem dX8_row_1 : decode cX8_row 1 = .ok (.getfield 60, 3) := by decide +kernel
theorem dX8_row_4 : decode cX8_row 4 = .ok (.aload_n 0, 1) := by decide +kernel
theorem dX8_row_5 : decode cX8_row 5 = .ok (.getfield 10, 3) := by decide +kernel
theorem dX8_row_8 : decode cX8_row 8 = .ok (.invokevirtual 72, 3) := by decide +kernel
theorem dX8_row_11 : decode cX8_row 11 = .ok (.aload_n 0, 1) := by decide +kernel
theorem dX8_row_12 : decode cX8_row 12 = .ok (.getfield 60, 3) := by decide +kernel
theorem dX8_row_15 : decode cX8_row 15 = .ok (.aload_n 0, 1) := by decide +kernel
theorem dX8_row_16 : decode cX8_row 16 = .ok (.getfield 10, 3) := by decide +kernel
theorem dX8_row_19 : decode cX8_row 19 = .ok (.iload_n 1, 1) := by decide +kernel
theorem dX8_row_20 : decode cX8_row 20 = .ok (.iload_n 2, 1) := by decide +kernel
theorem dX8_row_21 : decode cX8_row 21 = .ok (.iload_n 3, 1) := by decide +kernel
theorem dX8_row_22 : decode cX8_row 22 = .ok (.invokevirtual 75, 3) := by decide +kernel
theorem dX8_row_25 : decode cX8_row 25 = .ok (.invokevirtual 79, 3) := by decide +kernel
theorem dX8_row_28 : decode cX8_row 28 = .ok (.ireturn, 1) := by decide +kernel
theorem dX8_tilt_0 : decode cX8_tilt 0 = .ok (.aload_n 0, 1) := by decide +kernel
theorem dX8_tilt_1 : decode cX8_tilt 1 = .ok (.getfield 60, 3) := by decide +kernel
theorem dX8_tilt_4 : decode cX8_tilt 4 = .ok (.aload_n 0, 1) := by decide +kernel
theorem dX8_tilt_5 : decode cX8_tilt 5 = .ok (.getfield 10, 3) := by decide +kernel
theorem dX8_tilt_8 : decode cX8_tilt 8 = .ok (.invokevirtual 72, 3) := by decide +kernel
theorem dX8_tilt_11 : decode cX8_tilt 11 = .ok (.aload_n 0, 1) := by decide +kernel
theorem dX8_tilt_12 : decode cX8_tilt 12 = .ok (.getfield 60, 3) := by decide +kernel
theorem dX8_tilt_15 : decode cX8_tilt 15 = .ok (.aload_n 0, 1) := by decide +kernel
theorem dX8_tilt_16 : decode cX8_tilt 16 = .ok (.getfield 10, 3) := by decide +kernel
theorem dX8_tilt_19 : decode cX8_tilt 19 = .ok (.iload_n 1, 1) := by decide +kernel
theorem dX8_tilt_20 : decode cX8_tilt 20 = .ok (.iload_n 2, 1) := by decide +kernel
theorem dX8_tilt_21 : decode cX8_tilt 21 = .ok (.invokevirtual 83, 3) := by decide +kernel
theorem dX8_tilt_24 : decode cX8_tilt 24 = .ok (.invokevirtual 79, 3) := by decide +kernel
theorem dX8_tilt_27 : decode cX8_tilt 27 = .ok (.ireturn, 1) := by decide +kernel
theorem dX8_wind_0 : decode cX8_wind 0 = .ok (.aload_n 0, 1) := by decide +kernel
theorem dX8_wind_1 : decode cX8_wind 1 = .ok (.getfield 60, 3) := by decide +kernel
theorem dX8_wind_4 : decode cX8_wind 4 = .ok (.aload_n 0, 1) := by decide +kernel
theorem dX8_wind_5 : decode cX8_wind 5 = .ok (.getfield 10, 3) := by decide +kernel
theorem dX8_wind_8 : decode cX8_wind 8 = .ok (.invokevirtual 72, 3) := by decide +kernel
theorem dX8_wind_11 : decode cX8_wind 11 = .ok (.aload_n 0, 1) := by decide +kernel
theorem dX8_wind_12 : decode cX8_wind 12 = .ok (.getfield 60, 3) := by decide +kernel
theorem dX8_wind_15 : decode cX8_wind 15 = .ok (.aload_n 0, 1) := by decide +kernel
theorem dX8_wind_16 : decode cX8_wind 16 = .ok (.getfield 10, 3) := by decide +kernel
theorem dX8_wind_19 : decode cX8_wind 19 = .ok (.iload_n 1, 1) := by decide +kernel
theorem dX8_wind_20 : decode cX8_wind 20 = .ok (.iload_n 2, 1) := by decide +kernel
theorem dX8_wind_21 : decode cX8_wind 21 = .ok (.invokevirtual 87, 3) := by decide +kernel
theorem dX8_wind_24 : decode cX8_wind 24 = .ok (.invokevirtual 79, 3) := by decide +kernel
theorem dX8_wind_27 : decode cX8_wind 27 = .ok (.ireturn, 1) := by decide +kernel
theorem dX8_grant_0 : decode cX8_grant 0 = .ok (.aload_n 0, 1) := by decide +kernel
theorem dX8_grant_1 : decode cX8_grant 1 = .ok (.getfield 60, 3) := by decide +kernel
theorem dX8_grant_4 : decode cX8_grant 4 = .ok (.aload_n 0, 1) := by decide +kernel
theorem dX8_grant_5 : decode cX8_grant 5 = .ok (.getfield 10, 3) := by decide +kernel
theorem dX8_grant_8 : decode cX8_grant 8 = .ok (.invokevirtual 72, 3) := by decide +kernel
theorem dX8_grant_11 : decode cX8_grant 11 = .ok (.aload_n 0, 1) := by decide +kernel
theorem dX8_grant_12 : decode cX8_grant 12 = .ok (.getfield 60, 3) := by decide +kernel
theorem dX8_grant_15 : decode cX8_grant 15 = .ok (.aload_n 0, 1) := by decide +kernel
theorem dX8_grant_16 : decode cX8_grant 16 = .ok (.getfield 10, 3) := by decide +kernel
theorem dX8_grant_19 : decode cX8_grant 19 = .ok (.iload_n 1, 1) := by decide +kernel
theorem dX8_grant_20 : decode cX8_grant 20 = .ok (.iload_n 2, 1) := by decide +kernel
theorem dX8_grant_21 : decode cX8_grant 21 = .ok (.iload_n 3, 1) := by decide +kernel
theorem dX8_grant_22 : decode cX8_grant 22 = .ok (.iload 4, 2) := by decide +kernel
theorem dX8_grant_24 : decode cX8_grant 24 = .ok (.invokevirtual 93, 3) := by decide +kernel
theorem dX8_grant_27 : decode cX8_grant 27 = .ok (.invokevirtual 79, 3) := by decide +kernel
theorem dX8_grant_30 : decode cX8_grant 30 = .ok (.ireturn, 1) := by decide +kernel
theorem dX8_ask_0 : decode cX8_ask 0 = .ok (.aload_n 0, 1) := by decide +kernel
theorem dX8_ask_1 : decode cX8_ask 1 = .ok (.getfield 60, 3) := by decide +kernel
theorem dX8_ask_4 : decode cX8_ask 4 = .ok (.aload_n 0, 1) := by decide +kernel
theorem dX8_ask_5 : decode cX8_ask 5 = .ok (.getfield 10, 3) := by decide +kernel
theorem dX8_ask_8 : decode cX8_ask 8 = .ok (.invokevirtual 72, 3) := by decide +kernel
theorem dX8_ask_11 : decode cX8_ask 11 = .ok (.aload_n 0, 1) := by decide +kernel
theorem dX8_ask_12 : decode cX8_ask 12 = .ok (.getfield 60, 3) := by decide +kernel
theorem dX8_ask_15 : decode cX8_ask 15 = .ok (.aload_n 0, 1) := by decide +kernel
theorem dX8_ask_16 : decode cX8_ask 16 = .ok (.getfield 28, 3) := by decide +kernel
theorem dX8_ask_19 : decode cX8_ask 19 = .ok (.iload_n 1, 1) := by decide +kernel
theorem dX8_ask_20 : decode cX8_ask 20 = .ok (.iload_n 2, 1) := by decide +kernel
theorem dX8_ask_21 : decode cX8_ask 21 = .ok (.iload_n 3, 1) := by decide +kernel
theorem dX8_ask_22 : decode cX8_ask 22 = .ok (.iload 4, 2) := by decide +kernel
theorem dX8_ask_24 : decode cX8_ask 24 = .ok (.invokevirtual 97, 3) := by decide +kernel
theorem dX8_ask_27 : decode cX8_ask 27 = .ok (.invokevirtual 79, 3) := by decide +kernel
theorem dX8_ask_30 : decode cX8_ask 30 = .ok (.ireturn, 1) := by decide +kernel
theorem dX8_bid_0 : decode cX8_bid 0 = .ok (.aload_n 0, 1) := by decide +kernel
theorem dX8_bid_1 : decode cX8_bid 1 = .ok (.getfield 60, 3) := by decide +kernel
theorem dX8_bid_4 : decode cX8_bid 4 = .ok (.aload_n 0, 1) := by decide +kernel
theorem dX8_bid_5 : decode cX8_bid 5 = .ok (.getfield 10, 3) := by decide +kernel
theorem dX8_bid_8 : decode cX8_bid 8 = .ok (.invokevirtual 72, 3) := by decide +kernel
theorem dX8_bid_11 : decode cX8_bid 11 = .ok (.aload_n 0, 1) := by decide +kernel
theorem dX8_bid_12 : decode cX8_bid 12 = .ok (.getfield 60, 3) := by decide +kernel
theorem dX8_bid_15 : decode cX8_bid 15 = .ok (.aload_n 0, 1) := by decide +kernel
theorem dX8_bid_16 : decode cX8_bid 16 = .ok (.getfield 28, 3) := by decide +kernel
theorem dX8_bid_19 : decode cX8_bid 19 = .ok (.iload_n 1, 1) := by decide +kernel
theorem dX8_bid_20 : decode cX8_bid 20 = .ok (.iload_n 2, 1) := by decide +kernel
theorem dX8_bid_21 : decode cX8_bid 21 = .ok (.iload_n 3, 1) := by decide +kernel
theorem dX8_bid_22 : decode cX8_bid 22 = .ok (.iload 4, 2) := by decide +kernel
theorem dX8_bid_24 : decode cX8_bid 24 = .ok (.iload 5, 2) := by decide +kernel
theorem dX8_bid_26 : decode cX8_bid 26 = .ok (.invokevirtual 100, 3) := by decide +kernel
theorem dX8_bid_29 : decode cX8_bid 29 = .ok (.invokevirtual 79, 3) := by decide +kernel
theorem dX8_bid_32 : decode cX8_bid 32 = .ok (.ireturn, 1) := by decide +kernel
theorem dX8_match_0 : decode cX8_match 0 = .ok (.aload_n 0, 1) := by decide +kernel
theorem dX8_match_1 : decode cX8_match 1 = .ok (.getfield 60, 3) := by decide +kernel
theorem dX8_match_4 : decode cX8_match 4 = .ok (.aload_n 0, 1) := by decide +kernel
theorem dX8_match_5 : decode cX8_match 5 = .ok (.getfield 10, 3) := by decide +kernel
theorem dX8_match_8 : decode cX8_match 8 = .ok (.invokevirtual 72, 3) := by decide +kernel
theorem dX8_match_11 : decode cX8_match 11 = .ok (.aload_n 0, 1) := by decide +kernel
theorem dX8_match_12 : decode cX8_match 12 = .ok (.getfield 60, 3) := by decide +kernel
theorem dX8_match_15 : decode cX8_match 15 = .ok (.aload_n 0, 1) := by decide +kernel
theorem dX8_match_16 : decode cX8_match 16 = .ok (.getfield 28, 3) := by decide +kernel
theorem dX8_match_19 : decode cX8_match 19 = .ok (.invokevirtual 117, 3) := by decide +kernel
theorem dX8_match_22 : decode cX8_match 22 = .ok (.invokevirtual 79, 3) := by decide +kernel
theorem dX8_match_25 : decode cX8_match 25 = .ok (.ireturn, 1) := by decide +kernel
theorem dX8_ofRow_0 : decode cX8_ofRow 0 = .ok (.aload_n 0, 1) := by decide +kernel
theorem dX8_ofRow_1 : decode cX8_ofRow 1 = .ok (.getfield 10, 3) := by decide +kernel
theorem dX8_ofRow_4 : decode cX8_ofRow 4 = .ok (.iload_n 1, 1) := by decide +kernel
theorem dX8_ofRow_5 : decode cX8_ofRow 5 = .ok (.invokevirtual 121, 3) := by decide +kernel
theorem dX8_ofRow_8 : decode cX8_ofRow 8 = .ok (.ifCond .ne 5, 3) := by decide +kernel
theorem dX8_ofRow_11 : decode cX8_ofRow 11 = .ok (.iconst (-1), 1) := by decide +kernel
theorem dX8_ofRow_12 : decode cX8_ofRow 12 = .ok (.ireturn, 1) := by decide +kernel
theorem dX8_ofRow_13 : decode cX8_ofRow 13 = .ok (.iload_n 2, 1) := by decide +kernel
theorem dX8_ofRow_14 : decode cX8_ofRow 14 = .ok (.tableswitch 138 0 8 #[50, 60, 70, 80, 93, 102, 111, 120, 129], 50) := by decide +kernel
theorem dX8_ofRow_64 : decode cX8_ofRow 64 = .ok (.aload_n 0, 1) := by decide +kernel
theorem dX8_ofRow_65 : decode cX8_ofRow 65 = .ok (.getfield 10, 3) := by decide +kernel
theorem dX8_ofRow_68 : decode cX8_ofRow 68 = .ok (.getfield 125, 3) := by decide +kernel
theorem dX8_ofRow_71 : decode cX8_ofRow 71 = .ok (.iload_n 1, 1) := by decide +kernel
theorem dX8_ofRow_72 : decode cX8_ofRow 72 = .ok (.iaload, 1) := by decide +kernel
theorem dX8_ofRow_73 : decode cX8_ofRow 73 = .ok (.ireturn, 1) := by decide +kernel
theorem dX8_ofRow_74 : decode cX8_ofRow 74 = .ok (.aload_n 0, 1) := by decide +kernel
theorem dX8_ofRow_75 : decode cX8_ofRow 75 = .ok (.getfield 10, 3) := by decide +kernel
theorem dX8_ofRow_78 : decode cX8_ofRow 78 = .ok (.getfield 129, 3) := by decide +kernel
theorem dX8_ofRow_81 : decode cX8_ofRow 81 = .ok (.iload_n 1, 1) := by decide +kernel
theorem dX8_ofRow_82 : decode cX8_ofRow 82 = .ok (.iaload, 1) := by decide +kernel
theorem dX8_ofRow_83 : decode cX8_ofRow 83 = .ok (.ireturn, 1) := by decide +kernel
theorem dX8_ofRow_84 : decode cX8_ofRow 84 = .ok (.aload_n 0, 1) := by decide +kernel
theorem dX8_ofRow_85 : decode cX8_ofRow 85 = .ok (.getfield 10, 3) := by decide +kernel
theorem dX8_ofRow_88 : decode cX8_ofRow 88 = .ok (.getfield 132, 3) := by decide +kernel
theorem dX8_ofRow_91 : decode cX8_ofRow 91 = .ok (.iload_n 1, 1) := by decide +kernel
theorem dX8_ofRow_92 : decode cX8_ofRow 92 = .ok (.iaload, 1) := by decide +kernel
theorem dX8_ofRow_93 : decode cX8_ofRow 93 = .ok (.ireturn, 1) := by decide +kernel
theorem dX8_ofRow_94 : decode cX8_ofRow 94 = .ok (.aload_n 0, 1) := by decide +kernel
theorem dX8_ofRow_95 : decode cX8_ofRow 95 = .ok (.getfield 10, 3) := by decide +kernel
theorem dX8_ofRow_98 : decode cX8_ofRow 98 = .ok (.getfield 135, 3) := by decide +kernel
theorem dX8_ofRow_101 : decode cX8_ofRow 101 = .ok (.iload_n 1, 1) := by decide +kernel
theorem dX8_ofRow_102 : decode cX8_ofRow 102 = .ok (.iaload, 1) := by decide +kernel
theorem dX8_ofRow_103 : decode cX8_ofRow 103 = .ok (.ldc 138, 2) := by decide +kernel
theorem dX8_ofRow_105 : decode cX8_ofRow 105 = .ok (.iadd, 1) := by decide +kernel
theorem dX8_ofRow_106 : decode cX8_ofRow 106 = .ok (.ireturn, 1) := by decide +kernel
theorem dX8_ofRow_107 : decode cX8_ofRow 107 = .ok (.aload_n 0, 1) := by decide +kernel
theorem dX8_ofRow_108 : decode cX8_ofRow 108 = .ok (.getfield 21, 3) := by decide +kernel
theorem dX8_ofRow_111 : decode cX8_ofRow 111 = .ok (.iload_n 1, 1) := by decide +kernel
theorem dX8_ofRow_112 : decode cX8_ofRow 112 = .ok (.invokevirtual 139, 3) := by decide +kernel
theorem dX8_ofRow_115 : decode cX8_ofRow 115 = .ok (.ireturn, 1) := by decide +kernel
theorem dX8_ofRow_116 : decode cX8_ofRow 116 = .ok (.aload_n 0, 1) := by decide +kernel
theorem dX8_ofRow_117 : decode cX8_ofRow 117 = .ok (.getfield 21, 3) := by decide +kernel
theorem dX8_ofRow_120 : decode cX8_ofRow 120 = .ok (.iload_n 1, 1) := by decide +kernel
theorem dX8_ofRow_121 : decode cX8_ofRow 121 = .ok (.invokevirtual 142, 3) := by decide +kernel
theorem dX8_ofRow_124 : decode cX8_ofRow 124 = .ok (.ireturn, 1) := by decide +kernel
theorem dX8_ofRow_125 : decode cX8_ofRow 125 = .ok (.aload_n 0, 1) := by decide +kernel
theorem dX8_ofRow_126 : decode cX8_ofRow 126 = .ok (.getfield 21, 3) := by decide +kernel
theorem dX8_ofRow_129 : decode cX8_ofRow 129 = .ok (.iload_n 1, 1) := by decide +kernel
theorem dX8_ofRow_130 : decode cX8_ofRow 130 = .ok (.invokevirtual 145, 3) := by decide +kernel
theorem dX8_ofRow_133 : decode cX8_ofRow 133 = .ok (.ireturn, 1) := by decide +kernel
theorem dX8_ofRow_134 : decode cX8_ofRow 134 = .ok (.aload_n 0, 1) := by decide +kernel
theorem dX8_ofRow_135 : decode cX8_ofRow 135 = .ok (.getfield 21, 3) := by decide +kernel
theorem dX8_ofRow_138 : decode cX8_ofRow 138 = .ok (.iload_n 1, 1) := by decide +kernel
theorem dX8_ofRow_139 : decode cX8_ofRow 139 = .ok (.invokevirtual 148, 3) := by decide +kernel
theorem dX8_ofRow_142 : decode cX8_ofRow 142 = .ok (.ireturn, 1) := by decide +kernel
theorem dX8_ofRow_143 : decode cX8_ofRow 143 = .ok (.aload_n 0, 1) := by decide +kernel
theorem dX8_ofRow_144 : decode cX8_ofRow 144 = .ok (.getfield 21, 3) := by decide +kernel
theorem dX8_ofRow_147 : decode cX8_ofRow 147 = .ok (.iload_n 1, 1) := by decide +kernel
theorem dX8_ofRow_148 : decode cX8_ofRow 148 = .ok (.invokevirtual 151, 3) := by decide +kernel
theorem dX8_ofRow_151 : decode cX8_ofRow 151 = .ok (.ireturn, 1) := by decide +kernel
theorem dX8_ofRow_152 : decode cX8_ofRow 152 = .ok (.bipush (-2), 2) := by decide +kernel
theorem dX8_ofRow_154 : decode cX8_ofRow 154 = .ok (.ireturn, 1) := by decide +kernel
theorem dX8_inHour_0 : decode cX8_inHour 0 = .ok (.aload_n 0, 1) := by decide +kernel
theorem dX8_inHour_1 : decode cX8_inHour 1 = .ok (.getfield 10, 3) := by decide +kernel
theorem dX8_inHour_4 : decode cX8_inHour 4 = .ok (.iload_n 1, 1) := by decide +kernel
theorem dX8_inHour_5 : decode cX8_inHour 5 = .ok (.invokevirtual 121, 3) := by decide +kernel
theorem dX8_inHour_8 : decode cX8_inHour 8 = .ok (.ifCond .eq 10, 3) := by decide +kernel
theorem dX8_inHour_11 : decode cX8_inHour 11 = .ok (.iload_n 2, 1) := by decide +kernel
theorem dX8_inHour_12 : decode cX8_inHour 12 = .ok (.invokestatic 154, 3) := by decide +kernel
theorem dX8_inHour_15 : decode cX8_inHour 15 = .ok (.ifCond .ne 5, 3) := by decide +kernel
theorem dX8_inHour_18 : decode cX8_inHour 18 = .ok (.iconst (-1), 1) := by decide +kernel
theorem dX8_inHour_19 : decode cX8_inHour 19 = .ok (.ireturn, 1) := by decide +kernel
theorem dX8_inHour_20 : decode cX8_inHour 20 = .ok (.aload_n 0, 1) := by decide +kernel
theorem dX8_inHour_21 : decode cX8_inHour 21 = .ok (.getfield 21, 3) := by decide +kernel
theorem dX8_inHour_24 : decode cX8_inHour 24 = .ok (.iload_n 2, 1) := by decide +kernel
theorem dX8_inHour_25 : decode cX8_inHour 25 = .ok (.invokevirtual 157, 3) := by decide +kernel
theorem dX8_inHour_28 : decode cX8_inHour 28 = .ok (.iload_n 3, 1) := by decide +kernel
theorem dX8_inHour_29 : decode cX8_inHour 29 = .ok (.tableswitch 81 0 4 #[35, 44, 54, 63, 72], 35) := by decide +kernel
theorem dX8_inHour_64 : decode cX8_inHour 64 = .ok (.aload_n 0, 1) := by decide +kernel
theorem dX8_inHour_65 : decode cX8_inHour 65 = .ok (.getfield 21, 3) := by decide +kernel
theorem dX8_inHour_68 : decode cX8_inHour 68 = .ok (.iload_n 1, 1) := by decide +kernel
theorem dX8_inHour_69 : decode cX8_inHour 69 = .ok (.invokevirtual 161, 3) := by decide +kernel
theorem dX8_inHour_72 : decode cX8_inHour 72 = .ok (.ireturn, 1) := by decide +kernel
theorem dX8_inHour_73 : decode cX8_inHour 73 = .ok (.aload_n 0, 1) := by decide +kernel
theorem dX8_inHour_74 : decode cX8_inHour 74 = .ok (.getfield 21, 3) := by decide +kernel
theorem dX8_inHour_77 : decode cX8_inHour 77 = .ok (.getfield 164, 3) := by decide +kernel
theorem dX8_inHour_80 : decode cX8_inHour 80 = .ok (.iload_n 1, 1) := by decide +kernel
theorem dX8_inHour_81 : decode cX8_inHour 81 = .ok (.iaload, 1) := by decide +kernel
theorem dX8_inHour_82 : decode cX8_inHour 82 = .ok (.ireturn, 1) := by decide +kernel
theorem dX8_inHour_83 : decode cX8_inHour 83 = .ok (.aload_n 0, 1) := by decide +kernel
theorem dX8_inHour_84 : decode cX8_inHour 84 = .ok (.getfield 21, 3) := by decide +kernel
theorem dX8_inHour_87 : decode cX8_inHour 87 = .ok (.iload_n 1, 1) := by decide +kernel
theorem dX8_inHour_88 : decode cX8_inHour 88 = .ok (.invokevirtual 167, 3) := by decide +kernel
theorem dX8_inHour_91 : decode cX8_inHour 91 = .ok (.ireturn, 1) := by decide +kernel
theorem dX8_inHour_92 : decode cX8_inHour 92 = .ok (.aload_n 0, 1) := by decide +kernel
theorem dX8_inHour_93 : decode cX8_inHour 93 = .ok (.getfield 21, 3) := by decide +kernel
theorem dX8_inHour_96 : decode cX8_inHour 96 = .ok (.iload_n 1, 1) := by decide +kernel
theorem dX8_inHour_97 : decode cX8_inHour 97 = .ok (.invokevirtual 170, 3) := by decide +kernel
theorem dX8_inHour_100 : decode cX8_inHour 100 = .ok (.ireturn, 1) := by decide +kernel
theorem dX8_inHour_101 : decode cX8_inHour 101 = .ok (.aload_n 0, 1) := by decide +kernel
theorem dX8_inHour_102 : decode cX8_inHour 102 = .ok (.getfield 21, 3) := by decide +kernel
theorem dX8_inHour_105 : decode cX8_inHour 105 = .ok (.iload_n 1, 1) := by decide +kernel
theorem dX8_inHour_106 : decode cX8_inHour 106 = .ok (.invokevirtual 173, 3) := by decide +kernel
theorem dX8_inHour_109 : decode cX8_inHour 109 = .ok (.ireturn, 1) := by decide +kernel
theorem dX8_inHour_110 : decode cX8_inHour 110 = .ok (.bipush (-2), 2) := by decide +kernel
theorem dX8_inHour_112 : decode cX8_inHour 112 = .ok (.ireturn, 1) := by decide +kernel
theorem dX8_over_0 : decode cX8_over 0 = .ok (.aload_n 0, 1) := by decide +kernel
theorem dX8_over_1 : decode cX8_over 1 = .ok (.getfield 10, 3) := by decide +kernel
theorem dX8_over_4 : decode cX8_over 4 = .ok (.iload_n 1, 1) := by decide +kernel
theorem dX8_over_5 : decode cX8_over 5 = .ok (.invokevirtual 121, 3) := by decide +kernel
theorem dX8_over_8 : decode cX8_over 8 = .ok (.ifCond .eq 21, 3) := by decide +kernel
theorem dX8_over_11 : decode cX8_over 11 = .ok (.aload_n 0, 1) := by decide +kernel
theorem dX8_over_12 : decode cX8_over 12 = .ok (.getfield 10, 3) := by decide +kernel
theorem dX8_over_15 : decode cX8_over 15 = .ok (.iload_n 2, 1) := by decide +kernel
theorem dX8_over_16 : decode cX8_over 16 = .ok (.invokevirtual 121, 3) := by decide +kernel
theorem dX8_over_19 : decode cX8_over 19 = .ok (.ifCond .eq 10, 3) := by decide +kernel
theorem dX8_over_22 : decode cX8_over 22 = .ok (.iload_n 3, 1) := by decide +kernel
theorem dX8_over_23 : decode cX8_over 23 = .ok (.invokestatic 154, 3) := by decide +kernel
theorem dX8_over_26 : decode cX8_over 26 = .ok (.ifCond .ne 5, 3) := by decide +kernel
theorem dX8_over_29 : decode cX8_over 29 = .ok (.iconst (-1), 1) := by decide +kernel
theorem dX8_over_30 : decode cX8_over 30 = .ok (.ireturn, 1) := by decide +kernel
theorem dX8_over_31 : decode cX8_over 31 = .ok (.iload_n 1, 1) := by decide +kernel
theorem dX8_over_32 : decode cX8_over 32 = .ok (.iload_n 2, 1) := by decide +kernel
theorem dX8_over_33 : decode cX8_over 33 = .ok (.if_icmp .ne 6, 3) := by decide +kernel
theorem dX8_over_36 : decode cX8_over 36 = .ok (.bipush (-2), 2) := by decide +kernel
theorem dX8_over_38 : decode cX8_over 38 = .ok (.ireturn, 1) := by decide +kernel
theorem dX8_over_39 : decode cX8_over 39 = .ok (.aload_n 0, 1) := by decide +kernel
theorem dX8_over_40 : decode cX8_over 40 = .ok (.getfield 21, 3) := by decide +kernel
theorem dX8_over_43 : decode cX8_over 43 = .ok (.iload_n 3, 1) := by decide +kernel
theorem dX8_over_44 : decode cX8_over 44 = .ok (.invokevirtual 157, 3) := by decide +kernel
theorem dX8_over_47 : decode cX8_over 47 = .ok (.iload 4, 2) := by decide +kernel
theorem dX8_over_49 : decode cX8_over 49 = .ok (.tableswitch 90 0 2 #[27, 42, 61], 27) := by decide +kernel
theorem dX8_over_76 : decode cX8_over 76 = .ok (.aload_n 0, 1) := by decide +kernel
theorem dX8_over_77 : decode cX8_over 77 = .ok (.getfield 10, 3) := by decide +kernel
theorem dX8_over_80 : decode cX8_over 80 = .ok (.getfield 176, 3) := by decide +kernel
theorem dX8_over_83 : decode cX8_over 83 = .ok (.iload_n 1, 1) := by decide +kernel
theorem dX8_over_84 : decode cX8_over 84 = .ok (.iload_n 2, 1) := by decide +kernel
theorem dX8_over_85 : decode cX8_over 85 = .ok (.iload_n 3, 1) := by decide +kernel
theorem dX8_over_86 : decode cX8_over 86 = .ok (.invokestatic 179, 3) := by decide +kernel
theorem dX8_over_89 : decode cX8_over 89 = .ok (.iaload, 1) := by decide +kernel
theorem dX8_over_90 : decode cX8_over 90 = .ok (.ireturn, 1) := by decide +kernel
theorem dX8_over_91 : decode cX8_over 91 = .ok (.aload_n 0, 1) := by decide +kernel
theorem dX8_over_92 : decode cX8_over 92 = .ok (.getfield 21, 3) := by decide +kernel
theorem dX8_over_95 : decode cX8_over 95 = .ok (.iload_n 1, 1) := by decide +kernel
theorem dX8_over_96 : decode cX8_over 96 = .ok (.iload_n 2, 1) := by decide +kernel
theorem dX8_over_97 : decode cX8_over 97 = .ok (.aload_n 0, 1) := by decide +kernel
theorem dX8_over_98 : decode cX8_over 98 = .ok (.getfield 21, 3) := by decide +kernel
theorem dX8_over_101 : decode cX8_over 101 = .ok (.getfield 164, 3) := by decide +kernel
theorem dX8_over_104 : decode cX8_over 104 = .ok (.iload_n 1, 1) := by decide +kernel
theorem dX8_over_105 : decode cX8_over 105 = .ok (.iaload, 1) := by decide +kernel
theorem dX8_over_106 : decode cX8_over 106 = .ok (.invokevirtual 182, 3) := by decide +kernel
theorem dX8_over_109 : decode cX8_over 109 = .ok (.ireturn, 1) := by decide +kernel
theorem dX8_over_110 : decode cX8_over 110 = .ok (.aload_n 0, 1) := by decide +kernel
theorem dX8_over_111 : decode cX8_over 111 = .ok (.getfield 21, 3) := by decide +kernel
theorem dX8_over_114 : decode cX8_over 114 = .ok (.iload_n 1, 1) := by decide +kernel
theorem dX8_over_115 : decode cX8_over 115 = .ok (.iload_n 2, 1) := by decide +kernel
theorem dX8_over_116 : decode cX8_over 116 = .ok (.aload_n 0, 1) := by decide +kernel
theorem dX8_over_117 : decode cX8_over 117 = .ok (.getfield 10, 3) := by decide +kernel
theorem dX8_over_120 : decode cX8_over 120 = .ok (.getfield 129, 3) := by decide +kernel
theorem dX8_over_123 : decode cX8_over 123 = .ok (.iload_n 1, 1) := by decide +kernel
theorem dX8_over_124 : decode cX8_over 124 = .ok (.iaload, 1) := by decide +kernel
theorem dX8_over_125 : decode cX8_over 125 = .ok (.aload_n 0, 1) := by decide +kernel
theorem dX8_over_126 : decode cX8_over 126 = .ok (.getfield 10, 3) := by decide +kernel
theorem dX8_over_129 : decode cX8_over 129 = .ok (.getfield 132, 3) := by decide +kernel
theorem dX8_over_132 : decode cX8_over 132 = .ok (.iload_n 1, 1) := by decide +kernel
theorem dX8_over_133 : decode cX8_over 133 = .ok (.iaload, 1) := by decide +kernel
theorem dX8_over_134 : decode cX8_over 134 = .ok (.imul, 1) := by decide +kernel
theorem dX8_over_135 : decode cX8_over 135 = .ok (.invokevirtual 182, 3) := by decide +kernel
theorem dX8_over_138 : decode cX8_over 138 = .ok (.ireturn, 1) := by decide +kernel
theorem dX8_over_139 : decode cX8_over 139 = .ok (.bipush (-2), 2) := by decide +kernel
theorem dX8_over_141 : decode cX8_over 141 = .ok (.ireturn, 1) := by decide +kernel
theorem dX8_offer_0 : decode cX8_offer 0 = .ok (.iload_n 1, 1) := by decide +kernel
theorem dX8_offer_1 : decode cX8_offer 1 = .ok (.iconst 0, 1) := by decide +kernel
theorem dX8_offer_2 : decode cX8_offer 2 = .ok (.iconst 1, 1) := by decide +kernel
theorem dX8_offer_3 : decode cX8_offer 3 = .ok (.invokestatic 104, 3) := by decide +kernel
theorem dX8_offer_6 : decode cX8_offer 6 = .ok (.ifCond .ne 12, 3) := by decide +kernel
theorem dX8_offer_9 : decode cX8_offer 9 = .ok (.iload_n 3, 1) := by decide +kernel
theorem dX8_offer_10 : decode cX8_offer 10 = .ok (.iconst 0, 1) := by decide +kernel
theorem dX8_offer_11 : decode cX8_offer 11 = .ok (.iconst 4, 1) := by decide +kernel
theorem dX8_offer_12 : decode cX8_offer 12 = .ok (.invokestatic 104, 3) := by decide +kernel
theorem dX8_offer_15 : decode cX8_offer 15 = .ok (.ifCond .eq 6, 3) := by decide +kernel
theorem dX8_offer_18 : decode cX8_offer 18 = .ok (.bipush (-2), 2) := by decide +kernel
theorem dX8_offer_20 : decode cX8_offer 20 = .ok (.ireturn, 1) := by decide +kernel
theorem dX8_offer_21 : decode cX8_offer 21 = .ok (.aload_n 0, 1) := by decide +kernel
theorem dX8_offer_22 : decode cX8_offer 22 = .ok (.getfield 10, 3) := by decide +kernel
theorem dX8_offer_25 : decode cX8_offer 25 = .ok (.iload_n 1, 1) := by decide +kernel
theorem dX8_offer_26 : decode cX8_offer 26 = .ok (.invokevirtual 108, 3) := by decide +kernel
theorem dX8_offer_29 : decode cX8_offer 29 = .ok (.astore 4, 2) := by decide +kernel
theorem dX8_offer_31 : decode cX8_offer 31 = .ok (.aload 4, 2) := by decide +kernel
theorem dX8_offer_33 : decode cX8_offer 33 = .ok (.iload_n 2, 1) := by decide +kernel
theorem dX8_offer_34 : decode cX8_offer 34 = .ok (.invokevirtual 185, 3) := by decide +kernel
theorem dX8_offer_37 : decode cX8_offer 37 = .ok (.ifCond .ne 5, 3) := by decide +kernel
theorem dX8_offer_40 : decode cX8_offer 40 = .ok (.iconst (-1), 1) := by decide +kernel
theorem dX8_offer_41 : decode cX8_offer 41 = .ok (.ireturn, 1) := by decide +kernel
theorem dX8_offer_42 : decode cX8_offer 42 = .ok (.aload 4, 2) := by decide +kernel
theorem dX8_offer_44 : decode cX8_offer 44 = .ok (.iload_n 2, 1) := by decide +kernel
theorem dX8_offer_45 : decode cX8_offer 45 = .ok (.iload_n 3, 1) := by decide +kernel
theorem dX8_offer_46 : decode cX8_offer 46 = .ok (.invokevirtual 188, 3) := by decide +kernel
theorem dX8_offer_49 : decode cX8_offer 49 = .ok (.ireturn, 1) := by decide +kernel
theorem dX8_count_0 : decode cX8_count 0 = .ok (.iload_n 1, 1) := by decide +kernel
theorem dX8_count_1 : decode cX8_count 1 = .ok (.tableswitch 117 0 7 #[47, 55, 66, 77, 85, 93, 101, 109], 47) := by decide +kernel
theorem dX8_count_48 : decode cX8_count 48 = .ok (.aload_n 0, 1) := by decide +kernel
theorem dX8_count_49 : decode cX8_count 49 = .ok (.getfield 10, 3) := by decide +kernel
theorem dX8_count_52 : decode cX8_count 52 = .ok (.getfield 191, 3) := by decide +kernel
theorem dX8_count_55 : decode cX8_count 55 = .ok (.ireturn, 1) := by decide +kernel
theorem dX8_count_56 : decode cX8_count 56 = .ok (.aload_n 0, 1) := by decide +kernel
theorem dX8_count_57 : decode cX8_count 57 = .ok (.getfield 10, 3) := by decide +kernel
theorem dX8_count_60 : decode cX8_count 60 = .ok (.getfield 195, 3) := by decide +kernel
theorem dX8_count_63 : decode cX8_count 63 = .ok (.getfield 199, 3) := by decide +kernel
theorem dX8_count_66 : decode cX8_count 66 = .ok (.ireturn, 1) := by decide +kernel
theorem dX8_count_67 : decode cX8_count 67 = .ok (.aload_n 0, 1) := by decide +kernel
theorem dX8_count_68 : decode cX8_count 68 = .ok (.getfield 10, 3) := by decide +kernel
theorem dX8_count_71 : decode cX8_count 71 = .ok (.getfield 202, 3) := by decide +kernel
theorem dX8_count_74 : decode cX8_count 74 = .ok (.getfield 199, 3) := by decide +kernel
theorem dX8_count_77 : decode cX8_count 77 = .ok (.ireturn, 1) := by decide +kernel
theorem dX8_count_78 : decode cX8_count 78 = .ok (.aload_n 0, 1) := by decide +kernel
theorem dX8_count_79 : decode cX8_count 79 = .ok (.getfield 21, 3) := by decide +kernel
theorem dX8_count_82 : decode cX8_count 82 = .ok (.invokevirtual 205, 3) := by decide +kernel
theorem dX8_count_85 : decode cX8_count 85 = .ok (.ireturn, 1) := by decide +kernel
theorem dX8_count_86 : decode cX8_count 86 = .ok (.aload_n 0, 1) := by decide +kernel
theorem dX8_count_87 : decode cX8_count 87 = .ok (.getfield 10, 3) := by decide +kernel
theorem dX8_count_90 : decode cX8_count 90 = .ok (.getfield 208, 3) := by decide +kernel
theorem dX8_count_93 : decode cX8_count 93 = .ok (.ireturn, 1) := by decide +kernel
theorem dX8_count_94 : decode cX8_count 94 = .ok (.aload_n 0, 1) := by decide +kernel
theorem dX8_count_95 : decode cX8_count 95 = .ok (.getfield 10, 3) := by decide +kernel
theorem dX8_count_98 : decode cX8_count 98 = .ok (.getfield 211, 3) := by decide +kernel
theorem dX8_count_101 : decode cX8_count 101 = .ok (.ireturn, 1) := by decide +kernel
theorem dX8_count_102 : decode cX8_count 102 = .ok (.aload_n 0, 1) := by decide +kernel
theorem dX8_count_103 : decode cX8_count 103 = .ok (.getfield 44, 3) := by decide +kernel
theorem dX8_count_106 : decode cX8_count 106 = .ok (.getfield 214, 3) := by decide +kernel
theorem dX8_count_109 : decode cX8_count 109 = .ok (.ireturn, 1) := by decide +kernel
theorem dX8_count_110 : decode cX8_count 110 = .ok (.aload_n 0, 1) := by decide +kernel
theorem dX8_count_111 : decode cX8_count 111 = .ok (.getfield 60, 3) := by decide +kernel
theorem dX8_count_114 : decode cX8_count 114 = .ok (.getfield 216, 3) := by decide +kernel
theorem dX8_count_117 : decode cX8_count 117 = .ok (.ireturn, 1) := by decide +kernel
theorem dX8_count_118 : decode cX8_count 118 = .ok (.iload_n 1, 1) := by decide +kernel
theorem dX8_count_119 : decode cX8_count 119 = .ok (.bipush 10, 2) := by decide +kernel
theorem dX8_count_121 : decode cX8_count 121 = .ok (.bipush 19, 2) := by decide +kernel
theorem dX8_count_123 : decode cX8_count 123 = .ok (.invokestatic 104, 3) := by decide +kernel
theorem dX8_count_126 : decode cX8_count 126 = .ok (.ifCond .eq 6, 3) := by decide +kernel
theorem dX8_count_129 : decode cX8_count 129 = .ok (.bipush (-2), 2) := by decide +kernel
theorem dX8_count_131 : decode cX8_count 131 = .ok (.ireturn, 1) := by decide +kernel
theorem dX8_count_132 : decode cX8_count 132 = .ok (.aload_n 0, 1) := by decide +kernel
theorem dX8_count_133 : decode cX8_count 133 = .ok (.getfield 10, 3) := by decide +kernel
theorem dX8_count_136 : decode cX8_count 136 = .ok (.getfield 217, 3) := by decide +kernel
theorem dX8_count_139 : decode cX8_count 139 = .ok (.iload_n 1, 1) := by decide +kernel
theorem dX8_count_140 : decode cX8_count 140 = .ok (.bipush 10, 2) := by decide +kernel
theorem dX8_count_142 : decode cX8_count 142 = .ok (.isub, 1) := by decide +kernel
theorem dX8_count_143 : decode cX8_count 143 = .ok (.iaload, 1) := by decide +kernel
theorem dX8_count_144 : decode cX8_count 144 = .ok (.ireturn, 1) := by decide +kernel
theorem dX8_worth_0 : decode cX8_worth 0 = .ok (.aload_n 0, 1) := by decide +kernel
theorem dX8_worth_1 : decode cX8_worth 1 = .ok (.getfield 10, 3) := by decide +kernel
theorem dX8_worth_4 : decode cX8_worth 4 = .ok (.iload_n 1, 1) := by decide +kernel
theorem dX8_worth_5 : decode cX8_worth 5 = .ok (.iload_n 2, 1) := by decide +kernel
theorem dX8_worth_6 : decode cX8_worth 6 = .ok (.iload_n 3, 1) := by decide +kernel
theorem dX8_worth_7 : decode cX8_worth 7 = .ok (.iload 4, 2) := by decide +kernel
theorem dX8_worth_9 : decode cX8_worth 9 = .ok (.invokevirtual 220, 3) := by decide +kernel
theorem dX8_worth_12 : decode cX8_worth 12 = .ok (.istore 6, 2) := by decide +kernel
theorem dX8_worth_14 : decode cX8_worth 14 = .ok (.iload 6, 2) := by decide +kernel
theorem dX8_worth_16 : decode cX8_worth 16 = .ok (.ifCond .eq 6, 3) := by decide +kernel
theorem dX8_worth_19 : decode cX8_worth 19 = .ok (.iload 6, 2) := by decide +kernel
theorem dX8_worth_21 : decode cX8_worth 21 = .ok (.ireturn, 1) := by decide +kernel
theorem dX8_worth_22 : decode cX8_worth 22 = .ok (.iload 5, 2) := by decide +kernel
theorem dX8_worth_24 : decode cX8_worth 24 = .ok (.iconst 0, 1) := by decide +kernel
theorem dX8_worth_25 : decode cX8_worth 25 = .ok (.iconst 2, 1) := by decide +kernel
theorem dX8_worth_26 : decode cX8_worth 26 = .ok (.invokestatic 104, 3) := by decide +kernel
theorem dX8_worth_29 : decode cX8_worth 29 = .ok (.ifCond .eq 6, 3) := by decide +kernel
theorem dX8_worth_32 : decode cX8_worth 32 = .ok (.bipush (-2), 2) := by decide +kernel
theorem dX8_worth_34 : decode cX8_worth 34 = .ok (.ireturn, 1) := by decide +kernel
theorem dX8_worth_35 : decode cX8_worth 35 = .ok (.aload_n 0, 1) := by decide +kernel
theorem dX8_worth_36 : decode cX8_worth 36 = .ok (.iload_n 1, 1) := by decide +kernel
theorem dX8_worth_37 : decode cX8_worth 37 = .ok (.iload_n 2, 1) := by decide +kernel
theorem dX8_worth_38 : decode cX8_worth 38 = .ok (.iload 5, 2) := by decide +kernel
theorem dX8_worth_40 : decode cX8_worth 40 = .ok (.invokevirtual 223, 3) := by decide +kernel
theorem dX8_worth_43 : decode cX8_worth 43 = .ok (.istore 7, 2) := by decide +kernel
theorem dX8_worth_45 : decode cX8_worth 45 = .ok (.aload_n 0, 1) := by decide +kernel
theorem dX8_worth_46 : decode cX8_worth 46 = .ok (.getfield 10, 3) := by decide +kernel
theorem dX8_worth_49 : decode cX8_worth 49 = .ok (.iload_n 1, 1) := by decide +kernel
theorem dX8_worth_50 : decode cX8_worth 50 = .ok (.iload_n 2, 1) := by decide +kernel
theorem dX8_worth_51 : decode cX8_worth 51 = .ok (.iload_n 3, 1) := by decide +kernel
theorem dX8_worth_52 : decode cX8_worth 52 = .ok (.iload 4, 2) := by decide +kernel
theorem dX8_worth_54 : decode cX8_worth 54 = .ok (.invokevirtual 93, 3) := by decide +kernel
theorem dX8_worth_57 : decode cX8_worth 57 = .ok (.istore 8, 2) := by decide +kernel
theorem dX8_worth_59 : decode cX8_worth 59 = .ok (.aload_n 0, 1) := by decide +kernel
theorem dX8_worth_60 : decode cX8_worth 60 = .ok (.iload_n 1, 1) := by decide +kernel
theorem dX8_worth_61 : decode cX8_worth 61 = .ok (.iload_n 2, 1) := by decide +kernel
theorem dX8_worth_62 : decode cX8_worth 62 = .ok (.iload 5, 2) := by decide +kernel
theorem dX8_worth_64 : decode cX8_worth 64 = .ok (.invokevirtual 223, 3) := by decide +kernel
theorem dX8_worth_67 : decode cX8_worth 67 = .ok (.istore 9, 2) := by decide +kernel
theorem dX8_worth_69 : decode cX8_worth 69 = .ok (.aload_n 0, 1) := by decide +kernel
theorem dX8_worth_70 : decode cX8_worth 70 = .ok (.getfield 10, 3) := by decide +kernel
theorem dX8_worth_73 : decode cX8_worth 73 = .ok (.iload_n 1, 1) := by decide +kernel
theorem dX8_worth_74 : decode cX8_worth 74 = .ok (.iload_n 2, 1) := by decide +kernel
theorem dX8_worth_75 : decode cX8_worth 75 = .ok (.iload_n 3, 1) := by decide +kernel
theorem dX8_worth_76 : decode cX8_worth 76 = .ok (.iload 8, 2) := by decide +kernel
theorem dX8_worth_78 : decode cX8_worth 78 = .ok (.invokevirtual 93, 3) := by decide +kernel
theorem dX8_worth_81 : decode cX8_worth 81 = .ok (.pop, 1) := by decide +kernel
theorem dX8_worth_82 : decode cX8_worth 82 = .ok (.iload 9, 2) := by decide +kernel
theorem dX8_worth_84 : decode cX8_worth 84 = .ok (.iload 7, 2) := by decide +kernel
theorem dX8_worth_86 : decode cX8_worth 86 = .ok (.isub, 1) := by decide +kernel
theorem dX8_worth_87 : decode cX8_worth 87 = .ok (.ldc 226, 2) := by decide +kernel
theorem dX8_worth_89 : decode cX8_worth 89 = .ok (.iadd, 1) := by decide +kernel
theorem dX8_worth_90 : decode cX8_worth 90 = .ok (.ireturn, 1) := by decide +kernel
theorem dX8_gainMeasure_0 : decode cX8_gainMeasure 0 = .ok (.iload_n 3, 1) := by decide +kernel
theorem dX8_gainMeasure_1 : decode cX8_gainMeasure 1 = .ok (.lookupswitch 46 #[(0, 27), (1, 36)], 27) := by decide +kernel
theorem dX8_gainMeasure_28 : decode cX8_gainMeasure 28 = .ok (.aload_n 0, 1) := by decide +kernel
theorem dX8_gainMeasure_29 : decode cX8_gainMeasure 29 = .ok (.getfield 21, 3) := by decide +kernel
theorem dX8_gainMeasure_32 : decode cX8_gainMeasure 32 = .ok (.iload_n 1, 1) := by decide +kernel
theorem dX8_gainMeasure_33 : decode cX8_gainMeasure 33 = .ok (.invokevirtual 139, 3) := by decide +kernel
theorem dX8_gainMeasure_36 : decode cX8_gainMeasure 36 = .ok (.ireturn, 1) := by decide +kernel
theorem dX8_gainMeasure_37 : decode cX8_gainMeasure 37 = .ok (.aload_n 0, 1) := by decide +kernel
theorem dX8_gainMeasure_38 : decode cX8_gainMeasure 38 = .ok (.getfield 21, 3) := by decide +kernel
theorem dX8_gainMeasure_41 : decode cX8_gainMeasure 41 = .ok (.iload_n 2, 1) := by decide +kernel
theorem dX8_gainMeasure_42 : decode cX8_gainMeasure 42 = .ok (.invokevirtual 139, 3) := by decide +kernel
theorem dX8_gainMeasure_45 : decode cX8_gainMeasure 45 = .ok (.ineg, 1) := by decide +kernel
theorem dX8_gainMeasure_46 : decode cX8_gainMeasure 46 = .ok (.ireturn, 1) := by decide +kernel
theorem dX8_gainMeasure_47 : decode cX8_gainMeasure 47 = .ok (.aload_n 0, 1) := by decide +kernel
theorem dX8_gainMeasure_48 : decode cX8_gainMeasure 48 = .ok (.getfield 21, 3) := by decide +kernel
theorem dX8_gainMeasure_51 : decode cX8_gainMeasure 51 = .ok (.invokevirtual 205, 3) := by decide +kernel
theorem dX8_gainMeasure_54 : decode cX8_gainMeasure 54 = .ok (.ireturn, 1) := by decide +kernel
theorem dX8_bestTilt_0 : decode cX8_bestTilt 0 = .ok (.aload_n 0, 1) := by decide +kernel
theorem dX8_bestTilt_1 : decode cX8_bestTilt 1 = .ok (.getfield 10, 3) := by decide +kernel
theorem dX8_bestTilt_4 : decode cX8_bestTilt 4 = .ok (.iload_n 1, 1) := by decide +kernel
theorem dX8_bestTilt_5 : decode cX8_bestTilt 5 = .ok (.invokevirtual 121, 3) := by decide +kernel
theorem dX8_bestTilt_8 : decode cX8_bestTilt 8 = .ok (.ifCond .ne 5, 3) := by decide +kernel
theorem dX8_bestTilt_11 : decode cX8_bestTilt 11 = .ok (.iconst (-1), 1) := by decide +kernel
theorem dX8_bestTilt_12 : decode cX8_bestTilt 12 = .ok (.ireturn, 1) := by decide +kernel
theorem dX8_bestTilt_13 : decode cX8_bestTilt 13 = .ok (.iload_n 2, 1) := by decide +kernel
theorem dX8_bestTilt_14 : decode cX8_bestTilt 14 = .ok (.iconst 0, 1) := by decide +kernel
theorem dX8_bestTilt_15 : decode cX8_bestTilt 15 = .ok (.iconst 1, 1) := by decide +kernel
theorem dX8_bestTilt_16 : decode cX8_bestTilt 16 = .ok (.invokestatic 104, 3) := by decide +kernel
theorem dX8_bestTilt_19 : decode cX8_bestTilt 19 = .ok (.ifCond .eq 6, 3) := by decide +kernel
theorem dX8_bestTilt_22 : decode cX8_bestTilt 22 = .ok (.bipush (-2), 2) := by decide +kernel
theorem dX8_bestTilt_24 : decode cX8_bestTilt 24 = .ok (.ireturn, 1) := by decide +kernel
theorem dX8_bestTilt_25 : decode cX8_bestTilt 25 = .ok (.aload_n 0, 1) := by decide +kernel
theorem dX8_bestTilt_26 : decode cX8_bestTilt 26 = .ok (.getfield 10, 3) := by decide +kernel
theorem dX8_bestTilt_29 : decode cX8_bestTilt 29 = .ok (.getfield 132, 3) := by decide +kernel
theorem dX8_bestTilt_32 : decode cX8_bestTilt 32 = .ok (.iload_n 1, 1) := by decide +kernel
theorem dX8_bestTilt_33 : decode cX8_bestTilt 33 = .ok (.iaload, 1) := by decide +kernel
theorem dX8_bestTilt_34 : decode cX8_bestTilt 34 = .ok (.istore_n 3, 1) := by decide +kernel
theorem dX8_bestTilt_35 : decode cX8_bestTilt 35 = .ok (.iconst 0, 1) := by decide +kernel
theorem dX8_bestTilt_36 : decode cX8_bestTilt 36 = .ok (.istore 4, 2) := by decide +kernel
theorem dX8_bestTilt_38 : decode cX8_bestTilt 38 = .ok (.iconst (-1), 1) := by decide +kernel
theorem dX8_bestTilt_39 : decode cX8_bestTilt 39 = .ok (.istore 5, 2) := by decide +kernel
theorem dX8_bestTilt_41 : decode cX8_bestTilt 41 = .ok (.iconst 0, 1) := by decide +kernel
theorem dX8_bestTilt_42 : decode cX8_bestTilt 42 = .ok (.istore 6, 2) := by decide +kernel
theorem dX8_bestTilt_44 : decode cX8_bestTilt 44 = .ok (.iload 6, 2) := by decide +kernel
theorem dX8_bestTilt_46 : decode cX8_bestTilt 46 = .ok (.iconst 4, 1) := by decide +kernel
theorem dX8_bestTilt_47 : decode cX8_bestTilt 47 = .ok (.if_icmp .gt 44, 3) := by decide +kernel
theorem dX8_bestTilt_50 : decode cX8_bestTilt 50 = .ok (.aload_n 0, 1) := by decide +kernel
theorem dX8_bestTilt_51 : decode cX8_bestTilt 51 = .ok (.getfield 10, 3) := by decide +kernel
theorem dX8_bestTilt_54 : decode cX8_bestTilt 54 = .ok (.getfield 132, 3) := by decide +kernel
theorem dX8_bestTilt_57 : decode cX8_bestTilt 57 = .ok (.iload_n 1, 1) := by decide +kernel
theorem dX8_bestTilt_58 : decode cX8_bestTilt 58 = .ok (.iload 6, 2) := by decide +kernel
theorem dX8_bestTilt_60 : decode cX8_bestTilt 60 = .ok (.iastore, 1) := by decide +kernel
theorem dX8_bestTilt_61 : decode cX8_bestTilt 61 = .ok (.aload_n 0, 1) := by decide +kernel
theorem dX8_bestTilt_62 : decode cX8_bestTilt 62 = .ok (.getfield 21, 3) := by decide +kernel
theorem dX8_bestTilt_65 : decode cX8_bestTilt 65 = .ok (.invokevirtual 205, 3) := by decide +kernel
theorem dX8_bestTilt_68 : decode cX8_bestTilt 68 = .ok (.istore 7, 2) := by decide +kernel
theorem dX8_bestTilt_70 : decode cX8_bestTilt 70 = .ok (.iload 7, 2) := by decide +kernel
theorem dX8_bestTilt_72 : decode cX8_bestTilt 72 = .ok (.iload 5, 2) := by decide +kernel
theorem dX8_bestTilt_74 : decode cX8_bestTilt 74 = .ok (.if_icmp .le 11, 3) := by decide +kernel
theorem dX8_bestTilt_77 : decode cX8_bestTilt 77 = .ok (.iload 7, 2) := by decide +kernel
theorem dX8_bestTilt_79 : decode cX8_bestTilt 79 = .ok (.istore 5, 2) := by decide +kernel
theorem dX8_bestTilt_81 : decode cX8_bestTilt 81 = .ok (.iload 6, 2) := by decide +kernel
theorem dX8_bestTilt_83 : decode cX8_bestTilt 83 = .ok (.istore 4, 2) := by decide +kernel
theorem dX8_bestTilt_85 : decode cX8_bestTilt 85 = .ok (.iinc 6 1, 3) := by decide +kernel
theorem dX8_bestTilt_88 : decode cX8_bestTilt 88 = .ok (.goto (-44), 3) := by decide +kernel
theorem dX8_bestTilt_91 : decode cX8_bestTilt 91 = .ok (.aload_n 0, 1) := by decide +kernel
theorem dX8_bestTilt_92 : decode cX8_bestTilt 92 = .ok (.getfield 10, 3) := by decide +kernel
theorem dX8_bestTilt_95 : decode cX8_bestTilt 95 = .ok (.getfield 132, 3) := by decide +kernel
theorem dX8_bestTilt_98 : decode cX8_bestTilt 98 = .ok (.iload_n 1, 1) := by decide +kernel
theorem dX8_bestTilt_99 : decode cX8_bestTilt 99 = .ok (.iload_n 3, 1) := by decide +kernel
theorem dX8_bestTilt_100 : decode cX8_bestTilt 100 = .ok (.iastore, 1) := by decide +kernel
theorem dX8_bestTilt_101 : decode cX8_bestTilt 101 = .ok (.iload_n 2, 1) := by decide +kernel
theorem dX8_bestTilt_102 : decode cX8_bestTilt 102 = .ok (.ifCond .ne 8, 3) := by decide +kernel
theorem dX8_bestTilt_105 : decode cX8_bestTilt 105 = .ok (.iload 4, 2) := by decide +kernel
theorem dX8_bestTilt_107 : decode cX8_bestTilt 107 = .ok (.goto 5, 3) := by decide +kernel
theorem dX8_bestTilt_110 : decode cX8_bestTilt 110 = .ok (.iload 5, 2) := by decide +kernel
theorem dX8_bestTilt_112 : decode cX8_bestTilt 112 = .ok (.ireturn, 1) := by decide +kernel
theorem dX8_bestTilts_0 : decode cX8_bestTilts 0 = .ok (.iload_n 1, 1) := by decide +kernel
theorem dX8_bestTilts_1 : decode cX8_bestTilts 1 = .ok (.bipush 9, 2) := by decide +kernel
theorem dX8_bestTilts_3 : decode cX8_bestTilts 3 = .ok (.if_icmp .eq 17, 3) := by decide +kernel
theorem dX8_bestTilts_6 : decode cX8_bestTilts 6 = .ok (.aload_n 0, 1) := by decide +kernel
theorem dX8_bestTilts_7 : decode cX8_bestTilts 7 = .ok (.getfield 10, 3) := by decide +kernel
theorem dX8_bestTilts_10 : decode cX8_bestTilts 10 = .ok (.iload_n 1, 1) := by decide +kernel
theorem dX8_bestTilts_11 : decode cX8_bestTilts 11 = .ok (.invokevirtual 121, 3) := by decide +kernel
theorem dX8_bestTilts_14 : decode cX8_bestTilts 14 = .ok (.ifCond .ne 6, 3) := by decide +kernel
theorem dX8_bestTilts_17 : decode cX8_bestTilts 17 = .ok (.bipush (-2), 2) := by decide +kernel
theorem dX8_bestTilts_19 : decode cX8_bestTilts 19 = .ok (.ireturn, 1) := by decide +kernel
theorem dX8_bestTilts_20 : decode cX8_bestTilts 20 = .ok (.aload_n 0, 1) := by decide +kernel
theorem dX8_bestTilts_21 : decode cX8_bestTilts 21 = .ok (.getfield 37, 3) := by decide +kernel
theorem dX8_bestTilts_24 : decode cX8_bestTilts 24 = .ok (.invokevirtual 227, 3) := by decide +kernel
theorem dX8_bestTilts_27 : decode cX8_bestTilts 27 = .ok (.iload_n 1, 1) := by decide +kernel
theorem dX8_bestTilts_28 : decode cX8_bestTilts 28 = .ok (.bipush 9, 2) := by decide +kernel
theorem dX8_bestTilts_30 : decode cX8_bestTilts 30 = .ok (.if_icmp .ne 13, 3) := by decide +kernel
theorem dX8_bestTilts_33 : decode cX8_bestTilts 33 = .ok (.aload_n 0, 1) := by decide +kernel
theorem dX8_bestTilts_34 : decode cX8_bestTilts 34 = .ok (.getfield 37, 3) := by decide +kernel
theorem dX8_bestTilts_37 : decode cX8_bestTilts 37 = .ok (.invokevirtual 230, 3) := by decide +kernel
theorem dX8_bestTilts_40 : decode cX8_bestTilts 40 = .ok (.goto 11, 3) := by decide +kernel
theorem dX8_bestTilts_43 : decode cX8_bestTilts 43 = .ok (.aload_n 0, 1) := by decide +kernel
theorem dX8_bestTilts_44 : decode cX8_bestTilts 44 = .ok (.getfield 37, 3) := by decide +kernel
theorem dX8_bestTilts_47 : decode cX8_bestTilts 47 = .ok (.iload_n 1, 1) := by decide +kernel
theorem dX8_bestTilts_48 : decode cX8_bestTilts 48 = .ok (.invokevirtual 233, 3) := by decide +kernel
theorem dX8_bestTilts_51 : decode cX8_bestTilts 51 = .ok (.ireturn, 1) := by decide +kernel
theorem dX8_undo_0 : decode cX8_undo 0 = .ok (.aload_n 0, 1) := by decide +kernel
theorem dX8_undo_1 : decode cX8_undo 1 = .ok (.getfield 60, 3) := by decide +kernel
theorem dX8_undo_4 : decode cX8_undo 4 = .ok (.aload_n 0, 1) := by decide +kernel
theorem dX8_undo_5 : decode cX8_undo 5 = .ok (.getfield 10, 3) := by decide +kernel
theorem dX8_undo_8 : decode cX8_undo 8 = .ok (.invokevirtual 270, 3) := by decide +kernel
theorem dX8_undo_11 : decode cX8_undo 11 = .ok (.ireturn, 1) := by decide +kernel
theorem dX8_outside_0 : decode cX8_outside 0 = .ok (.iload_n 0, 1) := by decide +kernel
theorem dX8_outside_1 : decode cX8_outside 1 = .ok (.iload_n 1, 1) := by decide +kernel
theorem dX8_outside_2 : decode cX8_outside 2 = .ok (.if_icmp .lt 8, 3) := by decide +kernel
theorem dX8_outside_5 : decode cX8_outside 5 = .ok (.iload_n 0, 1) := by decide +kernel
theorem dX8_outside_6 : decode cX8_outside 6 = .ok (.iload_n 2, 1) := by decide +kernel
theorem dX8_outside_7 : decode cX8_outside 7 = .ok (.if_icmp .le 7, 3) := by decide +kernel
theorem dX8_outside_10 : decode cX8_outside 10 = .ok (.iconst 1, 1) := by decide +kernel
theorem dX8_outside_11 : decode cX8_outside 11 = .ok (.goto 4, 3) := by decide +kernel
theorem dX8_outside_14 : decode cX8_outside 14 = .ok (.iconst 0, 1) := by decide +kernel
theorem dX8_outside_15 : decode cX8_outside 15 = .ok (.ireturn, 1) := by decide +kernel
theorem dX8_isHour_0 : decode cX8_isHour 0 = .ok (.iload_n 0, 1) := by decide +kernel
theorem dX8_isHour_1 : decode cX8_isHour 1 = .ok (.iconst 0, 1) := by decide +kernel
theorem dX8_isHour_2 : decode cX8_isHour 2 = .ok (.bipush 9, 2) := by decide +kernel
theorem dX8_isHour_4 : decode cX8_isHour 4 = .ok (.invokestatic 104, 3) := by decide +kernel
theorem dX8_isHour_7 : decode cX8_isHour 7 = .ok (.ifCond .ne 7, 3) := by decide +kernel
theorem dX8_isHour_10 : decode cX8_isHour 10 = .ok (.iconst 1, 1) := by decide +kernel
theorem dX8_isHour_11 : decode cX8_isHour 11 = .ok (.goto 4, 3) := by decide +kernel
theorem dX8_isHour_14 : decode cX8_isHour 14 = .ok (.iconst 0, 1) := by decide +kernel
theorem dX8_isHour_15 : decode cX8_isHour 15 = .ok (.ireturn, 1) := by decide +kernel
