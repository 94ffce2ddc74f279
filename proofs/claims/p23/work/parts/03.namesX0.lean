theorem dJ6_bitCount_0f7a4_0 : decode cJ6_bitCount_0f7a4 0 = .ok (.iload_n 0, 1) := by decide +kernel
theorem dJ6_bitCount_0f7a4_1 : decode cJ6_bitCount_0f7a4 1 = .ok (.iload_n 0, 1) := by decide +kernel
theorem dJ6_bitCount_0f7a4_2 : decode cJ6_bitCount_0f7a4 2 = .ok (.iconst 1, 1) := by decide +kernel
theorem dJ6_bitCount_0f7a4_3 : decode cJ6_bitCount_0f7a4 3 = .ok (.iushr, 1) := by decide +kernel
theorem dJ6_bitCount_0f7a4_4 : decode cJ6_bitCount_0f7a4 4 = .ok (.ldc_w 265, 3) := by decide +kernel
theorem dJ6_bitCount_0f7a4_7 : decode cJ6_bitCount_0f7a4 7 = .ok (.iand, 1) := by decide +kernel
theorem dJ6_bitCount_0f7a4_8 : decode cJ6_bitCount_0f7a4 8 = .ok (.isub, 1) := by decide +kernel
theorem dJ6_bitCount_0f7a4_9 : decode cJ6_bitCount_0f7a4 9 = .ok (.istore_n 0, 1) := by decide +kernel
theorem dJ6_bitCount_0f7a4_10 : decode cJ6_bitCount_0f7a4 10 = .ok (.iload_n 0, 1) := by decide +kernel
theorem dJ6_bitCount_0f7a4_11 : decode cJ6_bitCount_0f7a4 11 = .ok (.ldc_w 266, 3) := by decide +kernel
theorem dJ6_bitCount_0f7a4_14 : decode cJ6_bitCount_0f7a4 14 = .ok (.iand, 1) := by decide +kernel
theorem dJ6_bitCount_0f7a4_15 : decode cJ6_bitCount_0f7a4 15 = .ok (.iload_n 0, 1) := by decide +kernel
theorem dJ6_bitCount_0f7a4_16 : decode cJ6_bitCount_0f7a4 16 = .ok (.iconst 2, 1) := by decide +kernel
theorem dJ6_bitCount_0f7a4_17 : decode cJ6_bitCount_0f7a4 17 = .ok (.iushr, 1) := by decide +kernel
theorem dJ6_bitCount_0f7a4_18 : decode cJ6_bitCount_0f7a4 18 = .ok (.ldc_w 266, 3) := by decide +kernel
theorem dJ6_bitCount_0f7a4_21 : decode cJ6_bitCount_0f7a4 21 = .ok (.iand, 1) := by decide +kernel
theorem dJ6_bitCount_0f7a4_22 : decode cJ6_bitCount_0f7a4 22 = .ok (.iadd, 1) := by decide +kernel
theorem dJ6_bitCount_0f7a4_23 : decode cJ6_bitCount_0f7a4 23 = .ok (.istore_n 0, 1) := by decide +kernel
theorem dJ6_bitCount_0f7a4_24 : decode cJ6_bitCount_0f7a4 24 = .ok (.iload_n 0, 1) := by decide +kernel
theorem dJ6_bitCount_0f7a4_25 : decode cJ6_bitCount_0f7a4 25 = .ok (.iload_n 0, 1) := by decide +kernel
theorem dJ6_bitCount_0f7a4_26 : decode cJ6_bitCount_0f7a4 26 = .ok (.iconst 4, 1) := by decide +kernel
theorem dJ6_bitCount_0f7a4_27 : decode cJ6_bitCount_0f7a4 27 = .ok (.iushr, 1) := by decide +kernel
theorem dJ6_bitCount_0f7a4_28 : decode cJ6_bitCount_0f7a4 28 = .ok (.iadd, 1) := by decide +kernel
theorem dJ6_bitCount_0f7a4_29 : decode cJ6_bitCount_0f7a4 29 = .ok (.ldc_w 267, 3) := by decide +kernel
theorem dJ6_bitCount_0f7a4_32 : decode cJ6_bitCount_0f7a4 32 = .ok (.iand, 1) := by decide +kernel
theorem dJ6_bitCount_0f7a4_33 : decode cJ6_bitCount_0f7a4 33 = .ok (.istore_n 0, 1) := by decide +kernel
theorem dJ6_bitCount_0f7a4_34 : decode cJ6_bitCount_0f7a4 34 = .ok (.iload_n 0, 1) := by decide +kernel
theorem dJ6_bitCount_0f7a4_35 : decode cJ6_bitCount_0f7a4 35 = .ok (.iload_n 0, 1) := by decide +kernel
theorem dJ6_bitCount_0f7a4_36 : decode cJ6_bitCount_0f7a4 36 = .ok (.bipush 8, 2) := by decide +kernel
theorem dJ6_bitCount_0f7a4_38 : decode cJ6_bitCount_0f7a4 38 = .ok (.iushr, 1) := by decide +kernel
theorem dJ6_bitCount_0f7a4_39 : decode cJ6_bitCount_0f7a4 39 = .ok (.iadd, 1) := by decide +kernel
theorem dJ6_bitCount_0f7a4_40 : decode cJ6_bitCount_0f7a4 40 = .ok (.istore_n 0, 1) := by decide +kernel
theorem dJ6_bitCount_0f7a4_41 : decode cJ6_bitCount_0f7a4 41 = .ok (.iload_n 0, 1) := by decide +kernel
theorem dJ6_bitCount_0f7a4_42 : decode cJ6_bitCount_0f7a4 42 = .ok (.iload_n 0, 1) := by decide +kernel
theorem dJ6_bitCount_0f7a4_43 : decode cJ6_bitCount_0f7a4 43 = .ok (.bipush 16, 2) := by decide +kernel
theorem dJ6_bitCount_0f7a4_45 : decode cJ6_bitCount_0f7a4 45 = .ok (.iushr, 1) := by decide +kernel
theorem dJ6_bitCount_0f7a4_46 : decode cJ6_bitCount_0f7a4 46 = .ok (.iadd, 1) := by decide +kernel
theorem dJ6_bitCount_0f7a4_47 : decode cJ6_bitCount_0f7a4 47 = .ok (.istore_n 0, 1) := by decide +kernel
theorem dJ6_bitCount_0f7a4_48 : decode cJ6_bitCount_0f7a4 48 = .ok (.iload_n 0, 1) := by decide +kernel
theorem dJ6_bitCount_0f7a4_49 : decode cJ6_bitCount_0f7a4 49 = .ok (.bipush 63, 2) := by decide +kernel
theorem dJ6_bitCount_0f7a4_51 : decode cJ6_bitCount_0f7a4 51 = .ok (.iand, 1) := by decide +kernel
theorem dJ6_bitCount_0f7a4_52 : decode cJ6_bitCount_0f7a4 52 = .ok (.ireturn, 1) := by decide +kernel
theorem dJ9_floorMod_7cf53_0 : decode cJ9_floorMod_7cf53 0 = .ok (.iload_n 0, 1) := by decide +kernel
theorem dJ9_floorMod_7cf53_1 : decode cJ9_floorMod_7cf53 1 = .ok (.iload_n 1, 1) := by decide +kernel
theorem dJ9_floorMod_7cf53_2 : decode cJ9_floorMod_7cf53 2 = .ok (.irem, 1) := by decide +kernel
theorem dJ9_floorMod_7cf53_3 : decode cJ9_floorMod_7cf53 3 = .ok (.istore_n 2, 1) := by decide +kernel
theorem dJ9_floorMod_7cf53_4 : decode cJ9_floorMod_7cf53 4 = .ok (.iload_n 0, 1) := by decide +kernel
theorem dJ9_floorMod_7cf53_5 : decode cJ9_floorMod_7cf53 5 = .ok (.iload_n 1, 1) := by decide +kernel
theorem dJ9_floorMod_7cf53_6 : decode cJ9_floorMod_7cf53 6 = .ok (.ixor, 1) := by decide +kernel
theorem dJ9_floorMod_7cf53_7 : decode cJ9_floorMod_7cf53 7 = .ok (.ifCond .ge 11, 3) := by decide +kernel
theorem dJ9_floorMod_7cf53_10 : decode cJ9_floorMod_7cf53 10 = .ok (.iload_n 2, 1) := by decide +kernel
theorem dJ9_floorMod_7cf53_11 : decode cJ9_floorMod_7cf53 11 = .ok (.ifCond .eq 7, 3) := by decide +kernel
theorem dJ9_floorMod_7cf53_14 : decode cJ9_floorMod_7cf53 14 = .ok (.iload_n 2, 1) := by decide +kernel
theorem dJ9_floorMod_7cf53_15 : decode cJ9_floorMod_7cf53 15 = .ok (.iload_n 1, 1) := by decide +kernel
theorem dJ9_floorMod_7cf53_16 : decode cJ9_floorMod_7cf53 16 = .ok (.iadd, 1) := by decide +kernel
theorem dJ9_floorMod_7cf53_17 : decode cJ9_floorMod_7cf53 17 = .ok (.ireturn, 1) := by decide +kernel
theorem dJ9_floorMod_7cf53_18 : decode cJ9_floorMod_7cf53 18 = .ok (.iload_n 2, 1) := by decide +kernel
theorem dJ9_floorMod_7cf53_19 : decode cJ9_floorMod_7cf53 19 = .ok (.ireturn, 1) := by decide +kernel
theorem dJ9_abs_0f7a4_0 : decode cJ9_abs_0f7a4 0 = .ok (.iload_n 0, 1) := by decide +kernel
theorem dJ9_abs_0f7a4_1 : decode cJ9_abs_0f7a4 1 = .ok (.ifCond .ge 8, 3) := by decide +kernel
theorem dJ9_abs_0f7a4_4 : decode cJ9_abs_0f7a4 4 = .ok (.iload_n 0, 1) := by decide +kernel
theorem dJ9_abs_0f7a4_5 : decode cJ9_abs_0f7a4 5 = .ok (.ineg, 1) := by decide +kernel
theorem dJ9_abs_0f7a4_6 : decode cJ9_abs_0f7a4 6 = .ok (.goto 4, 3) := by decide +kernel
theorem dJ9_abs_0f7a4_9 : decode cJ9_abs_0f7a4 9 = .ok (.iload_n 0, 1) := by decide +kernel
theorem dJ9_abs_0f7a4_10 : decode cJ9_abs_0f7a4 10 = .ok (.ireturn, 1) := by decide +kernel
theorem dJ9_max_7cf53_0 : decode cJ9_max_7cf53 0 = .ok (.iload_n 0, 1) := by decide +kernel
theorem dJ9_max_7cf53_1 : decode cJ9_max_7cf53 1 = .ok (.iload_n 1, 1) := by decide +kernel
theorem dJ9_max_7cf53_2 : decode cJ9_max_7cf53 2 = .ok (.if_icmp .lt 7, 3) := by decide +kernel
theorem dJ9_max_7cf53_5 : decode cJ9_max_7cf53 5 = .ok (.iload_n 0, 1) := by decide +kernel
theorem dJ9_max_7cf53_6 : decode cJ9_max_7cf53 6 = .ok (.goto 4, 3) := by decide +kernel
theorem dJ9_max_7cf53_9 : decode cJ9_max_7cf53 9 = .ok (.iload_n 1, 1) := by decide +kernel
theorem dJ9_max_7cf53_10 : decode cJ9_max_7cf53 10 = .ok (.ireturn, 1) := by decide +kernel
theorem dJ9_min_7cf53_0 : decode cJ9_min_7cf53 0 = .ok (.iload_n 0, 1) := by decide +kernel
theorem dJ9_min_7cf53_1 : decode cJ9_min_7cf53 1 = .ok (.iload_n 1, 1) := by decide +kernel
theorem dJ9_min_7cf53_2 : decode cJ9_min_7cf53 2 = .ok (.if_icmp .gt 7, 3) := by decide +kernel
theorem dJ9_min_7cf53_5 : decode cJ9_min_7cf53 5 = .ok (.iload_n 0, 1) := by decide +kernel
theorem dJ9_min_7cf53_6 : decode cJ9_min_7cf53 6 = .ok (.goto 4, 3) := by decide +kernel
theorem dJ9_min_7cf53_9 : decode cJ9_min_7cf53 9 = .ok (.iload_n 1, 1) := by decide +kernel
theorem dJ9_min_7cf53_10 : decode cJ9_min_7cf53 10 = .ok (.ireturn, 1) := by decide +kernel
theorem dX0_init_0 : decode cX0_init 0 = .ok (.aload_n 0, 1) := by decide +kernel
theorem dX0_init_1 : decode cX0_init 1 = .ok (.invokespecial 3, 3) := by decide +kernel
theorem dX0_init_4 : decode cX0_init 4 = .ok (.aload_n 0, 1) := by decide +kernel
theorem dX0_init_5 : decode cX0_init 5 = .ok (.bipush 60, 2) := by decide +kernel
theorem dX0_init_7 : decode cX0_init 7 = .ok (.newarray .int, 2) := by decide +kernel
theorem dX0_init_9 : decode cX0_init 9 = .ok (.putfield 9, 3) := by decide +kernel
theorem dX0_init_12 : decode cX0_init 12 = .ok (.aload_n 0, 1) := by decide +kernel
theorem dX0_init_13 : decode cX0_init 13 = .ok (.bipush 60, 2) := by decide +kernel
theorem dX0_init_15 : decode cX0_init 15 = .ok (.newarray .int, 2) := by decide +kernel
theorem dX0_init_17 : decode cX0_init 17 = .ok (.putfield 15, 3) := by decide +kernel
theorem dX0_init_20 : decode cX0_init 20 = .ok (.aload_n 0, 1) := by decide +kernel
theorem dX0_init_21 : decode cX0_init 21 = .ok (.bipush 60, 2) := by decide +kernel
theorem dX0_init_23 : decode cX0_init 23 = .ok (.newarray .int, 2) := by decide +kernel
theorem dX0_init_25 : decode cX0_init 25 = .ok (.putfield 18, 3) := by decide +kernel
theorem dX0_init_28 : decode cX0_init 28 = .ok (.aload_n 0, 1) := by decide +kernel
theorem dX0_init_29 : decode cX0_init 29 = .ok (.bipush 60, 2) := by decide +kernel
theorem dX0_init_31 : decode cX0_init 31 = .ok (.newarray .int, 2) := by decide +kernel
theorem dX0_init_33 : decode cX0_init 33 = .ok (.putfield 21, 3) := by decide +kernel
theorem dX0_init_36 : decode cX0_init 36 = .ok (.aload_n 0, 1) := by decide +kernel
theorem dX0_init_37 : decode cX0_init 37 = .ok (.bipush 60, 2) := by decide +kernel
theorem dX0_init_39 : decode cX0_init 39 = .ok (.newarray .int, 2) := by decide +kernel
theorem dX0_init_41 : decode cX0_init 41 = .ok (.putfield 24, 3) := by decide +kernel
theorem dX0_init_44 : decode cX0_init 44 = .ok (.aload_n 0, 1) := by decide +kernel
theorem dX0_init_45 : decode cX0_init 45 = .ok (.bipush 60, 2) := by decide +kernel
theorem dX0_init_47 : decode cX0_init 47 = .ok (.newarray .int, 2) := by decide +kernel
theorem dX0_init_49 : decode cX0_init 49 = .ok (.putfield 27, 3) := by decide +kernel
theorem dX0_init_52 : decode cX0_init 52 = .ok (.aload_n 0, 1) := by decide +kernel
theorem dX0_init_53 : decode cX0_init 53 = .ok (.bipush 60, 2) := by decide +kernel
theorem dX0_init_55 : decode cX0_init 55 = .ok (.newarray .int, 2) := by decide +kernel
theorem dX0_init_57 : decode cX0_init 57 = .ok (.putfield 30, 3) := by decide +kernel
theorem dX0_init_60 : decode cX0_init 60 = .ok (.aload_n 0, 1) := by decide +kernel
theorem dX0_init_61 : decode cX0_init 61 = .ok (.bipush 60, 2) := by decide +kernel
theorem dX0_init_63 : decode cX0_init 63 = .ok (.newarray .int, 2) := by decide +kernel
theorem dX0_init_65 : decode cX0_init 65 = .ok (.putfield 33, 3) := by decide +kernel
theorem dX0_init_68 : decode cX0_init 68 = .ok (.aload_n 0, 1) := by decide +kernel
theorem dX0_init_69 : decode cX0_init 69 = .ok (.bipush 60, 2) := by decide +kernel
theorem dX0_init_71 : decode cX0_init 71 = .ok (.newarray .int, 2) := by decide +kernel
theorem dX0_init_73 : decode cX0_init 73 = .ok (.putfield 36, 3) := by decide +kernel
theorem dX0_init_76 : decode cX0_init 76 = .ok (.aload_n 0, 1) := by decide +kernel
theorem dX0_init_77 : decode cX0_init 77 = .ok (.bipush 60, 2) := by decide +kernel
theorem dX0_init_79 : decode cX0_init 79 = .ok (.newarray .int, 2) := by decide +kernel
theorem dX0_init_81 : decode cX0_init 81 = .ok (.putfield 39, 3) := by decide +kernel
theorem dX0_init_84 : decode cX0_init 84 = .ok (.aload_n 0, 1) := by decide +kernel
theorem dX0_init_85 : decode cX0_init 85 = .ok (.bipush 60, 2) := by decide +kernel
theorem dX0_init_87 : decode cX0_init 87 = .ok (.newarray .int, 2) := by decide +kernel
theorem dX0_init_89 : decode cX0_init 89 = .ok (.putfield 42, 3) := by decide +kernel
theorem dX0_init_92 : decode cX0_init 92 = .ok (.aload_n 0, 1) := by decide +kernel
theorem dX0_init_93 : decode cX0_init 93 = .ok (.bipush 60, 2) := by decide +kernel
theorem dX0_init_95 : decode cX0_init 95 = .ok (.newarray .int, 2) := by decide +kernel
theorem dX0_init_97 : decode cX0_init 97 = .ok (.putfield 45, 3) := by decide +kernel
theorem dX0_init_100 : decode cX0_init 100 = .ok (.aload_n 0, 1) := by decide +kernel
theorem dX0_init_101 : decode cX0_init 101 = .ok (.bipush 20, 2) := by decide +kernel
theorem dX0_init_103 : decode cX0_init 103 = .ok (.newarray .int, 2) := by decide +kernel
theorem dX0_init_105 : decode cX0_init 105 = .ok (.putfield 48, 3) := by decide +kernel
theorem dX0_init_108 : decode cX0_init 108 = .ok (.iconst 0, 1) := by decide +kernel
theorem dX0_init_109 : decode cX0_init 109 = .ok (.istore_n 1, 1) := by decide +kernel
theorem dX0_init_110 : decode cX0_init 110 = .ok (.iload_n 1, 1) := by decide +kernel
theorem dX0_init_111 : decode cX0_init 111 = .ok (.bipush 20, 2) := by decide +kernel
theorem dX0_init_113 : decode cX0_init 113 = .ok (.if_icmp .ge 16, 3) := by decide +kernel
theorem dX0_init_116 : decode cX0_init 116 = .ok (.aload_n 0, 1) := by decide +kernel
theorem dX0_init_117 : decode cX0_init 117 = .ok (.getfield 48, 3) := by decide +kernel
theorem dX0_init_120 : decode cX0_init 120 = .ok (.iload_n 1, 1) := by decide +kernel
theorem dX0_init_121 : decode cX0_init 121 = .ok (.iconst (-1), 1) := by decide +kernel
theorem dX0_init_122 : decode cX0_init 122 = .ok (.iastore, 1) := by decide +kernel
theorem dX0_init_123 : decode cX0_init 123 = .ok (.iinc 1 1, 3) := by decide +kernel
theorem dX0_init_126 : decode cX0_init 126 = .ok (.goto (-16), 3) := by decide +kernel
theorem dX0_init_129 : decode cX0_init 129 = .ok (.return_, 1) := by decide +kernel
set_option maxRecDepth 20000 in
theorem ggX0_copyFrom_X0_copyRow : GoodIn wsX0_copyFrom wsX0_copyRow := goodIn_r _ [19, 20, 21, 22, 23, 24, 25, 26, 27] (by decide +kernel) (by decide +kernel)
set_option maxRecDepth 20000 in
theorem gX0_copyFrom_X0_copyRow : GoodIn wsX0_copyFrom (va_wsS RX0 51 yX0_copyRow wsX0_copyRow) := goodIn_app (goodIn_of _ (by decide +kernel)) ggX0_copyFrom_X0_copyRow
theorem dX0_copyFrom_0 : decode cX0_copyFrom 0 = .ok (.aload_n 1, 1) := by decide +kernel
theorem dX0_copyFrom_1 : decode cX0_copyFrom 1 = .ok (.getfield 9, 3) := by decide +kernel
theorem dX0_copyFrom_4 : decode cX0_copyFrom 4 = .ok (.aload_n 0, 1) := by decide +kernel
theorem dX0_copyFrom_5 : decode cX0_copyFrom 5 = .ok (.getfield 9, 3) := by decide +kernel
theorem dX0_copyFrom_8 : decode cX0_copyFrom 8 = .ok (.invokestatic 51, 3) := by decide +kernel
theorem dX0_copyFrom_11 : decode cX0_copyFrom 11 = .ok (.aload_n 1, 1) := by decide +kernel
theorem dX0_copyFrom_12 : decode cX0_copyFrom 12 = .ok (.getfield 15, 3) := by decide +kernel
theorem dX0_copyFrom_15 : decode cX0_copyFrom 15 = .ok (.aload_n 0, 1) := by decide +kernel
theorem dX0_copyFrom_16 : decode cX0_copyFrom 16 = .ok (.getfield 15, 3) := by decide +kernel
theorem dX0_copyFrom_19 : decode cX0_copyFrom 19 = .ok (.invokestatic 51, 3) := by decide +kernel
theorem dX0_copyFrom_22 : decode cX0_copyFrom 22 = .ok (.aload_n 1, 1) := by decide +kernel
theorem dX0_copyFrom_23 : decode cX0_copyFrom 23 = .ok (.getfield 18, 3) := by decide +kernel
theorem dX0_copyFrom_26 : decode cX0_copyFrom 26 = .ok (.aload_n 0, 1) := by decide +kernel
theorem dX0_copyFrom_27 : decode cX0_copyFrom 27 = .ok (.getfield 18, 3) := by decide +kernel
theorem dX0_copyFrom_30 : decode cX0_copyFrom 30 = .ok (.invokestatic 51, 3) := by decide +kernel
theorem dX0_copyFrom_33 : decode cX0_copyFrom 33 = .ok (.aload_n 1, 1) := by decide +kernel
theorem dX0_copyFrom_34 : decode cX0_copyFrom 34 = .ok (.getfield 21, 3) := by decide +kernel
theorem dX0_copyFrom_37 : decode cX0_copyFrom 37 = .ok (.aload_n 0, 1) := by decide +kernel
theorem dX0_copyFrom_38 : decode cX0_copyFrom 38 = .ok (.getfield 21, 3) := by decide +kernel
theorem dX0_copyFrom_41 : decode cX0_copyFrom 41 = .ok (.invokestatic 51, 3) := by decide +kernel
theorem dX0_copyFrom_44 : decode cX0_copyFrom 44 = .ok (.aload_n 1, 1) := by decide +kernel
theorem dX0_copyFrom_45 : decode cX0_copyFrom 45 = .ok (.getfield 24, 3) := by decide +kernel
theorem dX0_copyFrom_48 : decode cX0_copyFrom 48 = .ok (.aload_n 0, 1) := by decide +kernel
theorem dX0_copyFrom_49 : decode cX0_copyFrom 49 = .ok (.getfield 24, 3) := by decide +kernel
theorem dX0_copyFrom_52 : decode cX0_copyFrom 52 = .ok (.invokestatic 51, 3) := by decide +kernel
theorem dX0_copyFrom_55 : decode cX0_copyFrom 55 = .ok (.aload_n 1, 1) := by decide +kernel
theorem dX0_copyFrom_56 : decode cX0_copyFrom 56 = .ok (.getfield 27, 3) := by decide +kernel
theorem dX0_copyFrom_59 : decode cX0_copyFrom 59 = .ok (.aload_n 0, 1) := by decide +kernel
theorem dX0_copyFrom_60 : decode cX0_copyFrom 60 = .ok (.getfield 27, 3) := by decide +kernel
theorem dX0_copyFrom_63 : decode cX0_copyFrom 63 = .ok (.invokestatic 51, 3) := by decide +kernel
theorem dX0_copyFrom_66 : decode cX0_copyFrom 66 = .ok (.aload_n 1, 1) := by decide +kernel
theorem dX0_copyFrom_67 : decode cX0_copyFrom 67 = .ok (.getfield 30, 3) := by decide +kernel
theorem dX0_copyFrom_70 : decode cX0_copyFrom 70 = .ok (.aload_n 0, 1) := by decide +kernel
theorem dX0_copyFrom_71 : decode cX0_copyFrom 71 = .ok (.getfield 30, 3) := by decide +kernel
theorem dX0_copyFrom_74 : decode cX0_copyFrom 74 = .ok (.invokestatic 51, 3) := by decide +kernel
theorem dX0_copyFrom_77 : decode cX0_copyFrom 77 = .ok (.aload_n 1, 1) := by decide +kernel
theorem dX0_copyFrom_78 : decode cX0_copyFrom 78 = .ok (.getfield 33, 3) := by decide +kernel
theorem dX0_copyFrom_81 : decode cX0_copyFrom 81 = .ok (.aload_n 0, 1) := by decide +kernel
theorem dX0_copyFrom_82 : decode cX0_copyFrom 82 = .ok (.getfield 33, 3) := by decide +kernel
theorem dX0_copyFrom_85 : decode cX0_copyFrom 85 = .ok (.invokestatic 51, 3) := by decide +kernel
theorem dX0_copyFrom_88 : decode cX0_copyFrom 88 = .ok (.aload_n 1, 1) := by decide +kernel
theorem dX0_copyFrom_89 : decode cX0_copyFrom 89 = .ok (.getfield 36, 3) := by decide +kernel
theorem dX0_copyFrom_92 : decode cX0_copyFrom 92 = .ok (.aload_n 0, 1) := by decide +kernel
theorem dX0_copyFrom_93 : decode cX0_copyFrom 93 = .ok (.getfield 36, 3) := by decide +kernel
theorem dX0_copyFrom_96 : decode cX0_copyFrom 96 = .ok (.invokestatic 51, 3) := by decide +kernel
theorem dX0_copyFrom_99 : decode cX0_copyFrom 99 = .ok (.aload_n 1, 1) := by decide +kernel
theorem dX0_copyFrom_100 : decode cX0_copyFrom 100 = .ok (.getfield 39, 3) := by decide +kernel
theorem dX0_copyFrom_103 : decode cX0_copyFrom 103 = .ok (.aload_n 0, 1) := by decide +kernel
theorem dX0_copyFrom_104 : decode cX0_copyFrom 104 = .ok (.getfield 39, 3) := by decide +kernel
theorem dX0_copyFrom_107 : decode cX0_copyFrom 107 = .ok (.invokestatic 51, 3) := by decide +kernel
theorem dX0_copyFrom_110 : decode cX0_copyFrom 110 = .ok (.aload_n 1, 1) := by decide +kernel
theorem dX0_copyFrom_111 : decode cX0_copyFrom 111 = .ok (.getfield 42, 3) := by decide +kernel
theorem dX0_copyFrom_114 : decode cX0_copyFrom 114 = .ok (.aload_n 0, 1) := by decide +kernel
theorem dX0_copyFrom_115 : decode cX0_copyFrom 115 = .ok (.getfield 42, 3) := by decide +kernel
theorem dX0_copyFrom_118 : decode cX0_copyFrom 118 = .ok (.invokestatic 51, 3) := by decide +kernel
theorem dX0_copyFrom_121 : decode cX0_copyFrom 121 = .ok (.aload_n 1, 1) := by decide +kernel
theorem dX0_copyFrom_122 : decode cX0_copyFrom 122 = .ok (.getfield 45, 3) := by decide +kernel
theorem dX0_copyFrom_125 : decode cX0_copyFrom 125 = .ok (.aload_n 0, 1) := by decide +kernel
theorem dX0_copyFrom_126 : decode cX0_copyFrom 126 = .ok (.getfield 45, 3) := by decide +kernel
theorem dX0_copyFrom_129 : decode cX0_copyFrom 129 = .ok (.invokestatic 51, 3) := by decide +kernel
theorem dX0_copyFrom_132 : decode cX0_copyFrom 132 = .ok (.aload_n 1, 1) := by decide +kernel
theorem dX0_copyFrom_133 : decode cX0_copyFrom 133 = .ok (.getfield 48, 3) := by decide +kernel
theorem dX0_copyFrom_136 : decode cX0_copyFrom 136 = .ok (.aload_n 0, 1) := by decide +kernel
theorem dX0_copyFrom_137 : decode cX0_copyFrom 137 = .ok (.getfield 48, 3) := by decide +kernel
theorem dX0_copyFrom_140 : decode cX0_copyFrom 140 = .ok (.invokestatic 51, 3) := by decide +kernel
theorem dX0_copyFrom_143 : decode cX0_copyFrom 143 = .ok (.aload_n 0, 1) := by decide +kernel
theorem dX0_copyFrom_144 : decode cX0_copyFrom 144 = .ok (.aload_n 1, 1) := by decide +kernel
theorem dX0_copyFrom_145 : decode cX0_copyFrom 145 = .ok (.getfield 55, 3) := by decide +kernel
theorem dX0_copyFrom_148 : decode cX0_copyFrom 148 = .ok (.putfield 55, 3) := by decide +kernel
theorem dX0_copyFrom_151 : decode cX0_copyFrom 151 = .ok (.aload_n 0, 1) := by decide +kernel
theorem dX0_copyFrom_152 : decode cX0_copyFrom 152 = .ok (.aload_n 1, 1) := by decide +kernel
theorem dX0_copyFrom_153 : decode cX0_copyFrom 153 = .ok (.getfield 59, 3) := by decide +kernel
theorem dX0_copyFrom_156 : decode cX0_copyFrom 156 = .ok (.putfield 59, 3) := by decide +kernel
theorem dX0_copyFrom_159 : decode cX0_copyFrom 159 = .ok (.return_, 1) := by decide +kernel
theorem dX0_copyRow_0 : decode cX0_copyRow 0 = .ok (.aload_n 0, 1) := by decide +kernel
theorem dX0_copyRow_1 : decode cX0_copyRow 1 = .ok (.iconst 0, 1) := by decide +kernel
theorem dX0_copyRow_2 : decode cX0_copyRow 2 = .ok (.aload_n 1, 1) := by decide +kernel
theorem dX0_copyRow_3 : decode cX0_copyRow 3 = .ok (.iconst 0, 1) := by decide +kernel
theorem dX0_copyRow_4 : decode cX0_copyRow 4 = .ok (.aload_n 0, 1) := by decide +kernel
theorem dX0_copyRow_5 : decode cX0_copyRow 5 = .ok (.arraylength, 1) := by decide +kernel
theorem dX0_copyRow_6 : decode cX0_copyRow 6 = .ok (.aload_n 1, 1) := by decide +kernel
theorem dX0_copyRow_7 : decode cX0_copyRow 7 = .ok (.arraylength, 1) := by decide +kernel
theorem dX0_copyRow_8 : decode cX0_copyRow 8 = .ok (.invokestatic 62, 3) := by decide +kernel
theorem dX0_copyRow_11 : decode cX0_copyRow 11 = .ok (.invokestatic 68, 3) := by decide +kernel
theorem dX0_copyRow_14 : decode cX0_copyRow 14 = .ok (.return_, 1) := by decide +kernel
theorem dX0_isRule_0 : decode cX0_isRule 0 = .ok (.iload_n 1, 1) := by decide +kernel
theorem dX0_isRule_1 : decode cX0_isRule 1 = .ok (.ifCond .lt 21, 3) := by decide +kernel
theorem dX0_isRule_4 : decode cX0_isRule 4 = .ok (.iload_n 1, 1) := by decide +kernel
theorem dX0_isRule_5 : decode cX0_isRule 5 = .ok (.aload_n 0, 1) := by decide +kernel
theorem dX0_isRule_6 : decode cX0_isRule 6 = .ok (.getfield 55, 3) := by decide +kernel
theorem dX0_isRule_9 : decode cX0_isRule 9 = .ok (.if_icmp .ge 13, 3) := by decide +kernel
theorem dX0_isRule_12 : decode cX0_isRule 12 = .ok (.iload_n 1, 1) := by decide +kernel
theorem dX0_isRule_13 : decode cX0_isRule 13 = .ok (.bipush 60, 2) := by decide +kernel
theorem dX0_isRule_15 : decode cX0_isRule 15 = .ok (.if_icmp .ge 7, 3) := by decide +kernel
theorem dX0_isRule_18 : decode cX0_isRule 18 = .ok (.iconst 1, 1) := by decide +kernel
theorem dX0_isRule_19 : decode cX0_isRule 19 = .ok (.goto 4, 3) := by decide +kernel
theorem dX0_isRule_22 : decode cX0_isRule 22 = .ok (.iconst 0, 1) := by decide +kernel
theorem dX0_isRule_23 : decode cX0_isRule 23 = .ok (.ireturn, 1) := by decide +kernel
theorem dX0_isThere_0 : decode cX0_isThere 0 = .ok (.iload_n 1, 1) := by decide +kernel
theorem dX0_isThere_1 : decode cX0_isThere 1 = .ok (.ifCond .lt 30, 3) := by decide +kernel
theorem dX0_isThere_4 : decode cX0_isThere 4 = .ok (.iload_n 1, 1) := by decide +kernel
theorem dX0_isThere_5 : decode cX0_isThere 5 = .ok (.aload_n 0, 1) := by decide +kernel
theorem dX0_isThere_6 : decode cX0_isThere 6 = .ok (.getfield 55, 3) := by decide +kernel
theorem dX0_isThere_9 : decode cX0_isThere 9 = .ok (.if_icmp .ge 22, 3) := by decide +kernel
theorem dX0_isThere_12 : decode cX0_isThere 12 = .ok (.iload_n 1, 1) := by decide +kernel
theorem dX0_isThere_13 : decode cX0_isThere 13 = .ok (.bipush 60, 2) := by decide +kernel
theorem dX0_isThere_15 : decode cX0_isThere 15 = .ok (.if_icmp .ge 16, 3) := by decide +kernel
theorem dX0_isThere_18 : decode cX0_isThere 18 = .ok (.aload_n 0, 1) := by decide +kernel
theorem dX0_isThere_19 : decode cX0_isThere 19 = .ok (.getfield 36, 3) := by decide +kernel
theorem dX0_isThere_22 : decode cX0_isThere 22 = .ok (.iload_n 1, 1) := by decide +kernel
theorem dX0_isThere_23 : decode cX0_isThere 23 = .ok (.iaload, 1) := by decide +kernel
theorem dX0_isThere_24 : decode cX0_isThere 24 = .ok (.ifCond .ne 7, 3) := by decide +kernel
theorem dX0_isThere_27 : decode cX0_isThere 27 = .ok (.iconst 1, 1) := by decide +kernel
theorem dX0_isThere_28 : decode cX0_isThere 28 = .ok (.goto 4, 3) := by decide +kernel
theorem dX0_isThere_31 : decode cX0_isThere 31 = .ok (.iconst 0, 1) := by decide +kernel
theorem dX0_isThere_32 : decode cX0_isThere 32 = .ok (.ireturn, 1) := by decide +kernel
theorem dX0_isCage_0 : decode cX0_isCage 0 = .ok (.iload_n 0, 1) := by decide +kernel
theorem dX0_isCage_1 : decode cX0_isCage 1 = .ok (.ifCond .lt 13, 3) := by decide +kernel
theorem dX0_isCage_4 : decode cX0_isCage 4 = .ok (.iload_n 0, 1) := by decide +kernel
theorem dX0_isCage_5 : decode cX0_isCage 5 = .ok (.bipush 20, 2) := by decide +kernel
theorem dX0_isCage_7 : decode cX0_isCage 7 = .ok (.if_icmp .ge 7, 3) := by decide +kernel
theorem dX0_isCage_10 : decode cX0_isCage 10 = .ok (.iconst 1, 1) := by decide +kernel
theorem dX0_isCage_11 : decode cX0_isCage 11 = .ok (.goto 4, 3) := by decide +kernel
theorem dX0_isCage_14 : decode cX0_isCage 14 = .ok (.iconst 0, 1) := by decide +kernel
theorem dX0_isCage_15 : decode cX0_isCage 15 = .ok (.ireturn, 1) := by decide +kernel
set_option maxRecDepth 20000 in
theorem ggX0_enter_X0_isCage : GoodIn wsX0_enter wsX0_isCage := goodIn_r _ [18] (by decide +kernel) (by decide +kernel)
set_option maxRecDepth 20000 in
theorem gX0_enter_X0_isCage : GoodIn wsX0_enter (va_wsS RX0 74 yX0_isCage wsX0_isCage) := goodIn_app (goodIn_of _ (by decide +kernel)) ggX0_enter_X0_isCage
theorem dX0_enter_0 : decode cX0_enter 0 = .ok (.aload_n 0, 1) := by decide +kernel
theorem dX0_enter_1 : decode cX0_enter 1 = .ok (.getfield 55, 3) := by decide +kernel
theorem dX0_enter_4 : decode cX0_enter 4 = .ok (.bipush 60, 2) := by decide +kernel
theorem dX0_enter_6 : decode cX0_enter 6 = .ok (.if_icmp .ge 10, 3) := by decide +kernel
theorem dX0_enter_9 : decode cX0_enter 9 = .ok (.iload_n 1, 1) := by decide +kernel
theorem dX0_enter_10 : decode cX0_enter 10 = .ok (.invokestatic 74, 3) := by decide +kernel
theorem dX0_enter_13 : decode cX0_enter 13 = .ok (.ifCond .ne 5, 3) := by decide +kernel
theorem dX0_enter_16 : decode cX0_enter 16 = .ok (.iconst (-1), 1) := by decide +kernel
theorem dX0_enter_17 : decode cX0_enter 17 = .ok (.ireturn, 1) := by decide +kernel
theorem dX0_enter_18 : decode cX0_enter 18 = .ok (.aload_n 0, 1) := by decide +kernel
theorem dX0_enter_19 : decode cX0_enter 19 = .ok (.getfield 55, 3) := by decide +kernel
theorem dX0_enter_22 : decode cX0_enter 22 = .ok (.istore 5, 2) := by decide +kernel
theorem dX0_enter_24 : decode cX0_enter 24 = .ok (.aload_n 0, 1) := by decide +kernel
theorem dX0_enter_25 : decode cX0_enter 25 = .ok (.dup, 1) := by decide +kernel
theorem dX0_enter_26 : decode cX0_enter 26 = .ok (.getfield 55, 3) := by decide +kernel
theorem dX0_enter_29 : decode cX0_enter 29 = .ok (.iconst 1, 1) := by decide +kernel
theorem dX0_enter_30 : decode cX0_enter 30 = .ok (.iadd, 1) := by decide +kernel
theorem dX0_enter_31 : decode cX0_enter 31 = .ok (.putfield 55, 3) := by decide +kernel
theorem dX0_enter_34 : decode cX0_enter 34 = .ok (.aload_n 0, 1) := by decide +kernel
theorem dX0_enter_35 : decode cX0_enter 35 = .ok (.getfield 9, 3) := by decide +kernel
theorem dX0_enter_38 : decode cX0_enter 38 = .ok (.iload 5, 2) := by decide +kernel
theorem dX0_enter_40 : decode cX0_enter 40 = .ok (.iload_n 2, 1) := by decide +kernel
theorem dX0_enter_41 : decode cX0_enter 41 = .ok (.iastore, 1) := by decide +kernel
theorem dX0_enter_42 : decode cX0_enter 42 = .ok (.aload_n 0, 1) := by decide +kernel
theorem dX0_enter_43 : decode cX0_enter 43 = .ok (.getfield 15, 3) := by decide +kernel
theorem dX0_enter_46 : decode cX0_enter 46 = .ok (.iload 5, 2) := by decide +kernel
theorem dX0_enter_48 : decode cX0_enter 48 = .ok (.iload_n 3, 1) := by decide +kernel
theorem dX0_enter_49 : decode cX0_enter 49 = .ok (.iastore, 1) := by decide +kernel
theorem dX0_enter_50 : decode cX0_enter 50 = .ok (.aload_n 0, 1) := by decide +kernel
theorem dX0_enter_51 : decode cX0_enter 51 = .ok (.getfield 18, 3) := by decide +kernel
theorem dX0_enter_54 : decode cX0_enter 54 = .ok (.iload 5, 2) := by decide +kernel
theorem dX0_enter_56 : decode cX0_enter 56 = .ok (.iconst 0, 1) := by decide +kernel
theorem dX0_enter_57 : decode cX0_enter 57 = .ok (.iastore, 1) := by decide +kernel
theorem dX0_enter_58 : decode cX0_enter 58 = .ok (.aload_n 0, 1) := by decide +kernel
theorem dX0_enter_59 : decode cX0_enter 59 = .ok (.getfield 21, 3) := by decide +kernel
theorem dX0_enter_62 : decode cX0_enter 62 = .ok (.iload 5, 2) := by decide +kernel
theorem dX0_enter_64 : decode cX0_enter 64 = .ok (.iconst 0, 1) := by decide +kernel
theorem dX0_enter_65 : decode cX0_enter 65 = .ok (.iastore, 1) := by decide +kernel
theorem dX0_enter_66 : decode cX0_enter 66 = .ok (.aload_n 0, 1) := by decide +kernel
theorem dX0_enter_67 : decode cX0_enter 67 = .ok (.getfield 24, 3) := by decide +kernel
theorem dX0_enter_70 : decode cX0_enter 70 = .ok (.iload 5, 2) := by decide +kernel
theorem dX0_enter_72 : decode cX0_enter 72 = .ok (.iconst 0, 1) := by decide +kernel
theorem dX0_enter_73 : decode cX0_enter 73 = .ok (.iastore, 1) := by decide +kernel
theorem dX0_enter_74 : decode cX0_enter 74 = .ok (.aload_n 0, 1) := by decide +kernel
theorem dX0_enter_75 : decode cX0_enter 75 = .ok (.getfield 27, 3) := by decide +kernel
theorem dX0_enter_78 : decode cX0_enter 78 = .ok (.iload 5, 2) := by decide +kernel
theorem dX0_enter_80 : decode cX0_enter 80 = .ok (.iconst 0, 1) := by decide +kernel
theorem dX0_enter_81 : decode cX0_enter 81 = .ok (.iastore, 1) := by decide +kernel
theorem dX0_enter_82 : decode cX0_enter 82 = .ok (.aload_n 0, 1) := by decide +kernel
theorem dX0_enter_83 : decode cX0_enter 83 = .ok (.getfield 30, 3) := by decide +kernel
theorem dX0_enter_86 : decode cX0_enter 86 = .ok (.iload 5, 2) := by decide +kernel
theorem dX0_enter_88 : decode cX0_enter 88 = .ok (.iload 4, 2) := by decide +kernel
theorem dX0_enter_90 : decode cX0_enter 90 = .ok (.iastore, 1) := by decide +kernel
theorem dX0_enter_91 : decode cX0_enter 91 = .ok (.aload_n 0, 1) := by decide +kernel
theorem dX0_enter_92 : decode cX0_enter 92 = .ok (.getfield 33, 3) := by decide +kernel
theorem dX0_enter_95 : decode cX0_enter 95 = .ok (.iload 5, 2) := by decide +kernel
theorem dX0_enter_97 : decode cX0_enter 97 = .ok (.iload_n 1, 1) := by decide +kernel
theorem dX0_enter_98 : decode cX0_enter 98 = .ok (.iastore, 1) := by decide +kernel
theorem dX0_enter_99 : decode cX0_enter 99 = .ok (.aload_n 0, 1) := by decide +kernel
theorem dX0_enter_100 : decode cX0_enter 100 = .ok (.getfield 36, 3) := by decide +kernel
theorem dX0_enter_103 : decode cX0_enter 103 = .ok (.iload 5, 2) := by decide +kernel
theorem dX0_enter_105 : decode cX0_enter 105 = .ok (.iconst 0, 1) := by decide +kernel
theorem dX0_enter_106 : decode cX0_enter 106 = .ok (.iastore, 1) := by decide +kernel
theorem dX0_enter_107 : decode cX0_enter 107 = .ok (.aload_n 0, 1) := by decide +kernel
theorem dX0_enter_108 : decode cX0_enter 108 = .ok (.getfield 39, 3) := by decide +kernel
theorem dX0_enter_111 : decode cX0_enter 111 = .ok (.iload 5, 2) := by decide +kernel
theorem dX0_enter_113 : decode cX0_enter 113 = .ok (.iconst 0, 1) := by decide +kernel
theorem dX0_enter_114 : decode cX0_enter 114 = .ok (.iastore, 1) := by decide +kernel
theorem dX0_enter_115 : decode cX0_enter 115 = .ok (.aload_n 0, 1) := by decide +kernel
theorem dX0_enter_116 : decode cX0_enter 116 = .ok (.getfield 42, 3) := by decide +kernel
theorem dX0_enter_119 : decode cX0_enter 119 = .ok (.iload 5, 2) := by decide +kernel
theorem dX0_enter_121 : decode cX0_enter 121 = .ok (.iconst (-1), 1) := by decide +kernel
theorem dX0_enter_122 : decode cX0_enter 122 = .ok (.iastore, 1) := by decide +kernel
theorem dX0_enter_123 : decode cX0_enter 123 = .ok (.aload_n 0, 1) := by decide +kernel
theorem dX0_enter_124 : decode cX0_enter 124 = .ok (.getfield 45, 3) := by decide +kernel
theorem dX0_enter_127 : decode cX0_enter 127 = .ok (.iload 5, 2) := by decide +kernel
theorem dX0_enter_129 : decode cX0_enter 129 = .ok (.iconst (-1), 1) := by decide +kernel
theorem dX0_enter_130 : decode cX0_enter 130 = .ok (.iastore, 1) := by decide +kernel
theorem dX0_enter_131 : decode cX0_enter 131 = .ok (.aload_n 0, 1) := by decide +kernel
theorem dX0_enter_132 : decode cX0_enter 132 = .ok (.getfield 48, 3) := by decide +kernel
theorem dX0_enter_135 : decode cX0_enter 135 = .ok (.iload_n 1, 1) := by decide +kernel
theorem dX0_enter_136 : decode cX0_enter 136 = .ok (.iload 5, 2) := by decide +kernel
theorem dX0_enter_138 : decode cX0_enter 138 = .ok (.iastore, 1) := by decide +kernel
theorem dX0_enter_139 : decode cX0_enter 139 = .ok (.iload 5, 2) := by decide +kernel
theorem dX0_enter_141 : decode cX0_enter 141 = .ok (.ireturn, 1) := by decide +kernel
set_option maxRecDepth 20000 in
theorem ggX0_settle_X0_isThere : GoodIn wsX0_settle wsX0_isThere := goodIn_r _ [7, 8, 9, 17, 18, 19, 20, 21, 22, 23, 24, 25, 26, 27, 28, 29, 30, 31] (by decide +kernel) (by decide +kernel)
set_option maxRecDepth 20000 in
theorem gX0_settle_X0_isThere : GoodIn wsX0_settle (wsV RX0 78 RX0 yX0_isThere wsX0_isThere) := goodIn_app (goodIn_of _ (by decide +kernel)) ggX0_settle_X0_isThere
set_option maxRecDepth 20000 in
theorem ggX0_settle_X0_isCage : GoodIn wsX0_settle wsX0_isCage := goodIn_r _ [12] (by decide +kernel) (by decide +kernel)
set_option maxRecDepth 20000 in
theorem gX0_settle_X0_isCage : GoodIn wsX0_settle (va_wsS RX0 74 yX0_isCage wsX0_isCage) := goodIn_app (goodIn_of _ (by decide +kernel)) ggX0_settle_X0_isCage
set_option maxRecDepth 20000 in
theorem ggX0_settle_X0_clearCageOf : GoodIn wsX0_settle wsX0_clearCageOf := goodIn_r _ [16, 1, 2, 17, 18, 19, 20, 21, 22, 23, 24, 25, 26, 27, 28, 29, 30, 31] (by decide +kernel) (by decide +kernel)
set_option maxRecDepth 20000 in
theorem gX0_settle_X0_clearCageOf : GoodIn wsX0_settle (wsV RX0 81 RX0 yX0_clearCageOf wsX0_clearCageOf) := goodIn_app (goodIn_of _ (by decide +kernel)) ggX0_settle_X0_clearCageOf
theorem dX0_settle_0 : decode cX0_settle 0 = .ok (.aload_n 0, 1) := by decide +kernel
theorem dX0_settle_1 : decode cX0_settle 1 = .ok (.iload_n 1, 1) := by decide +kernel
theorem dX0_settle_2 : decode cX0_settle 2 = .ok (.invokevirtual 78, 3) := by decide +kernel
theorem dX0_settle_5 : decode cX0_settle 5 = .ok (.ifCond .eq 10, 3) := by decide +kernel
theorem dX0_settle_8 : decode cX0_settle 8 = .ok (.iload_n 2, 1) := by decide +kernel
theorem dX0_settle_9 : decode cX0_settle 9 = .ok (.invokestatic 74, 3) := by decide +kernel
theorem dX0_settle_12 : decode cX0_settle 12 = .ok (.ifCond .ne 4, 3) := by decide +kernel
theorem dX0_settle_15 : decode cX0_settle 15 = .ok (.return_, 1) := by decide +kernel
theorem dX0_settle_16 : decode cX0_settle 16 = .ok (.aload_n 0, 1) := by decide +kernel
theorem dX0_settle_17 : decode cX0_settle 17 = .ok (.iload_n 1, 1) := by decide +kernel
theorem dX0_settle_18 : decode cX0_settle 18 = .ok (.invokevirtual 81, 3) := by decide +kernel
theorem dX0_settle_21 : decode cX0_settle 21 = .ok (.aload_n 0, 1) := by decide +kernel
theorem dX0_settle_22 : decode cX0_settle 22 = .ok (.getfield 33, 3) := by decide +kernel
theorem dX0_settle_25 : decode cX0_settle 25 = .ok (.iload_n 1, 1) := by decide +kernel
theorem dX0_settle_26 : decode cX0_settle 26 = .ok (.iload_n 2, 1) := by decide +kernel
theorem dX0_settle_27 : decode cX0_settle 27 = .ok (.iastore, 1) := by decide +kernel
theorem dX0_settle_28 : decode cX0_settle 28 = .ok (.aload_n 0, 1) := by decide +kernel
theorem dX0_settle_29 : decode cX0_settle 29 = .ok (.getfield 48, 3) := by decide +kernel
theorem dX0_settle_32 : decode cX0_settle 32 = .ok (.iload_n 2, 1) := by decide +kernel
theorem dX0_settle_33 : decode cX0_settle 33 = .ok (.iload_n 1, 1) := by decide +kernel
theorem dX0_settle_34 : decode cX0_settle 34 = .ok (.iastore, 1) := by decide +kernel
theorem dX0_settle_35 : decode cX0_settle 35 = .ok (.return_, 1) := by decide +kernel
set_option maxRecDepth 20000 in
theorem ggX0_leave_X0_isThere : GoodIn wsX0_leave wsX0_isThere := goodIn_r _ [7, 8, 2, 14, 15, 16, 17, 18, 19, 20, 21, 22, 23, 24, 25, 26, 27, 28] (by decide +kernel) (by decide +kernel)
set_option maxRecDepth 20000 in
theorem gX0_leave_X0_isThere : GoodIn wsX0_leave (wsV RX0 78 RX0 yX0_isThere wsX0_isThere) := goodIn_app (goodIn_of _ (by decide +kernel)) ggX0_leave_X0_isThere
set_option maxRecDepth 20000 in
theorem ggX0_leave_X0_clearCageOf : GoodIn wsX0_leave wsX0_clearCageOf := goodIn_r _ [12, 1, 13, 14, 15, 16, 17, 18, 19, 20, 21, 22, 23, 24, 25, 26, 27, 28] (by decide +kernel) (by decide +kernel)
set_option maxRecDepth 20000 in
theorem gX0_leave_X0_clearCageOf : GoodIn wsX0_leave (wsV RX0 81 RX0 yX0_clearCageOf wsX0_clearCageOf) := goodIn_app (goodIn_of _ (by decide +kernel)) ggX0_leave_X0_clearCageOf
theorem dX0_leave_0 : decode cX0_leave 0 = .ok (.aload_n 0, 1) := by decide +kernel
theorem dX0_leave_1 : decode cX0_leave 1 = .ok (.iload_n 1, 1) := by decide +kernel
theorem dX0_leave_2 : decode cX0_leave 2 = .ok (.invokevirtual 78, 3) := by decide +kernel
theorem dX0_leave_5 : decode cX0_leave 5 = .ok (.ifCond .ne 4, 3) := by decide +kernel
theorem dX0_leave_8 : decode cX0_leave 8 = .ok (.return_, 1) := by decide +kernel
theorem dX0_leave_9 : decode cX0_leave 9 = .ok (.aload_n 0, 1) := by decide +kernel
theorem dX0_leave_10 : decode cX0_leave 10 = .ok (.iload_n 1, 1) := by decide +kernel
theorem dX0_leave_11 : decode cX0_leave 11 = .ok (.invokevirtual 81, 3) := by decide +kernel
theorem dX0_leave_14 : decode cX0_leave 14 = .ok (.aload_n 0, 1) := by decide +kernel
theorem dX0_leave_15 : decode cX0_leave 15 = .ok (.getfield 33, 3) := by decide +kernel
theorem dX0_leave_18 : decode cX0_leave 18 = .ok (.iload_n 1, 1) := by decide +kernel
theorem dX0_leave_19 : decode cX0_leave 19 = .ok (.iconst (-1), 1) := by decide +kernel
theorem dX0_leave_20 : decode cX0_leave 20 = .ok (.iastore, 1) := by decide +kernel
theorem dX0_leave_21 : decode cX0_leave 21 = .ok (.aload_n 0, 1) := by decide +kernel
theorem dX0_leave_22 : decode cX0_leave 22 = .ok (.getfield 36, 3) := by decide +kernel
theorem dX0_leave_25 : decode cX0_leave 25 = .ok (.iload_n 1, 1) := by decide +kernel
theorem dX0_leave_26 : decode cX0_leave 26 = .ok (.iload_n 2, 1) := by decide +kernel
theorem dX0_leave_27 : decode cX0_leave 27 = .ok (.iastore, 1) := by decide +kernel
theorem dX0_leave_28 : decode cX0_leave 28 = .ok (.return_, 1) := by decide +kernel
theorem dX0_clearCageOf_0 : decode cX0_clearCageOf 0 = .ok (.aload_n 0, 1) := by decide +kernel
theorem dX0_clearCageOf_1 : decode cX0_clearCageOf 1 = .ok (.getfield 33, 3) := by decide +kernel
theorem dX0_clearCageOf_4 : decode cX0_clearCageOf 4 = .ok (.iload_n 1, 1) := by decide +kernel
theorem dX0_clearCageOf_5 : decode cX0_clearCageOf 5 = .ok (.iaload, 1) := by decide +kernel
theorem dX0_clearCageOf_6 : decode cX0_clearCageOf 6 = .ok (.istore_n 2, 1) := by decide +kernel
theorem dX0_clearCageOf_7 : decode cX0_clearCageOf 7 = .ok (.iload_n 2, 1) := by decide +kernel
theorem dX0_clearCageOf_8 : decode cX0_clearCageOf 8 = .ok (.ifCond .lt 16, 3) := by decide +kernel
theorem dX0_clearCageOf_11 : decode cX0_clearCageOf 11 = .ok (.iload_n 2, 1) := by decide +kernel
theorem dX0_clearCageOf_12 : decode cX0_clearCageOf 12 = .ok (.bipush 20, 2) := by decide +kernel
theorem dX0_clearCageOf_14 : decode cX0_clearCageOf 14 = .ok (.if_icmp .ge 10, 3) := by decide +kernel
theorem dX0_clearCageOf_17 : decode cX0_clearCageOf 17 = .ok (.aload_n 0, 1) := by decide +kernel
theorem dX0_clearCageOf_18 : decode cX0_clearCageOf 18 = .ok (.getfield 48, 3) := by decide +kernel
theorem dX0_clearCageOf_21 : decode cX0_clearCageOf 21 = .ok (.iload_n 2, 1) := by decide +kernel
theorem dX0_clearCageOf_22 : decode cX0_clearCageOf 22 = .ok (.iconst (-1), 1) := by decide +kernel
theorem dX0_clearCageOf_23 : decode cX0_clearCageOf 23 = .ok (.iastore, 1) := by decide +kernel
theorem dX0_clearCageOf_24 : decode cX0_clearCageOf 24 = .ok (.return_, 1) := by decide +kernel
set_option maxRecDepth 20000 in
theorem ggX0_mayEat_X0_isThere : GoodIn wsX0_mayEat wsX0_isThere := goodIn_r _ [10, 11, 12, 17, 18, 19, 20, 21, 22, 23, 24, 25, 26, 27, 28, 29, 30, 31] (by decide +kernel) (by decide +kernel)
set_option maxRecDepth 20000 in
theorem gX0_mayEat_X0_isThere : GoodIn wsX0_mayEat (wsV RX0 78 RX0 yX0_isThere wsX0_isThere) := goodIn_app (goodIn_of _ (by decide +kernel)) ggX0_mayEat_X0_isThere
set_option maxRecDepth 20000 in
theorem ggX0_mayEat_X0_codeOf : GoodIn wsX0_mayEat wsX0_codeOf := goodIn_r _ [16, 3, 2, 17, 18, 19, 20, 21, 22, 23, 24, 25, 26, 27, 28, 29, 30, 31] (by decide +kernel) (by decide +kernel)
set_option maxRecDepth 20000 in
theorem gX0_mayEat_X0_codeOf : GoodIn wsX0_mayEat (wsV RX0 85 RX0 yX0_codeOf wsX0_codeOf) := goodIn_app (goodIn_of _ (by decide +kernel)) ggX0_mayEat_X0_codeOf
theorem dX0_mayEat_0 : decode cX0_mayEat 0 = .ok (.iload_n 1, 1) := by decide +kernel
theorem dX0_mayEat_1 : decode cX0_mayEat 1 = .ok (.iload_n 2, 1) := by decide +kernel
theorem dX0_mayEat_2 : decode cX0_mayEat 2 = .ok (.if_icmp .eq 19, 3) := by decide +kernel
theorem dX0_mayEat_5 : decode cX0_mayEat 5 = .ok (.aload_n 0, 1) := by decide +kernel
theorem dX0_mayEat_6 : decode cX0_mayEat 6 = .ok (.iload_n 1, 1) := by decide +kernel
theorem dX0_mayEat_7 : decode cX0_mayEat 7 = .ok (.invokevirtual 78, 3) := by decide +kernel
theorem dX0_mayEat_10 : decode cX0_mayEat 10 = .ok (.ifCond .eq 11, 3) := by decide +kernel
theorem dX0_mayEat_13 : decode cX0_mayEat 13 = .ok (.aload_n 0, 1) := by decide +kernel
theorem dX0_mayEat_14 : decode cX0_mayEat 14 = .ok (.iload_n 2, 1) := by decide +kernel
theorem dX0_mayEat_15 : decode cX0_mayEat 15 = .ok (.invokevirtual 78, 3) := by decide +kernel
theorem dX0_mayEat_18 : decode cX0_mayEat 18 = .ok (.ifCond .ne 5, 3) := by decide +kernel
theorem dX0_mayEat_21 : decode cX0_mayEat 21 = .ok (.iconst 0, 1) := by decide +kernel
theorem dX0_mayEat_22 : decode cX0_mayEat 22 = .ok (.ireturn, 1) := by decide +kernel
theorem dX0_mayEat_23 : decode cX0_mayEat 23 = .ok (.aload_n 0, 1) := by decide +kernel
theorem dX0_mayEat_24 : decode cX0_mayEat 24 = .ok (.getfield 30, 3) := by decide +kernel
theorem dX0_mayEat_27 : decode cX0_mayEat 27 = .ok (.iload_n 1, 1) := by decide +kernel
theorem dX0_mayEat_28 : decode cX0_mayEat 28 = .ok (.iaload, 1) := by decide +kernel
theorem dX0_mayEat_29 : decode cX0_mayEat 29 = .ok (.iload_n 2, 1) := by decide +kernel
theorem dX0_mayEat_30 : decode cX0_mayEat 30 = .ok (.if_icmp .eq 13, 3) := by decide +kernel
theorem dX0_mayEat_33 : decode cX0_mayEat 33 = .ok (.aload_n 0, 1) := by decide +kernel
theorem dX0_mayEat_34 : decode cX0_mayEat 34 = .ok (.getfield 30, 3) := by decide +kernel
theorem dX0_mayEat_37 : decode cX0_mayEat 37 = .ok (.iload_n 2, 1) := by decide +kernel
theorem dX0_mayEat_38 : decode cX0_mayEat 38 = .ok (.iaload, 1) := by decide +kernel
theorem dX0_mayEat_39 : decode cX0_mayEat 39 = .ok (.iload_n 1, 1) := by decide +kernel
theorem dX0_mayEat_40 : decode cX0_mayEat 40 = .ok (.if_icmp .ne 5, 3) := by decide +kernel
theorem dX0_mayEat_43 : decode cX0_mayEat 43 = .ok (.iconst 0, 1) := by decide +kernel
theorem dX0_mayEat_44 : decode cX0_mayEat 44 = .ok (.ireturn, 1) := by decide +kernel
theorem dX0_mayEat_45 : decode cX0_mayEat 45 = .ok (.aload_n 0, 1) := by decide +kernel
theorem dX0_mayEat_46 : decode cX0_mayEat 46 = .ok (.getfield 15, 3) := by decide +kernel
theorem dX0_mayEat_49 : decode cX0_mayEat 49 = .ok (.iload_n 1, 1) := by decide +kernel
theorem dX0_mayEat_50 : decode cX0_mayEat 50 = .ok (.iaload, 1) := by decide +kernel
theorem dX0_mayEat_51 : decode cX0_mayEat 51 = .ok (.istore_n 3, 1) := by decide +kernel
theorem dX0_mayEat_52 : decode cX0_mayEat 52 = .ok (.aload_n 0, 1) := by decide +kernel
theorem dX0_mayEat_53 : decode cX0_mayEat 53 = .ok (.getfield 9, 3) := by decide +kernel
theorem dX0_mayEat_56 : decode cX0_mayEat 56 = .ok (.iload_n 1, 1) := by decide +kernel
theorem dX0_mayEat_57 : decode cX0_mayEat 57 = .ok (.iaload, 1) := by decide +kernel
theorem dX0_mayEat_58 : decode cX0_mayEat 58 = .ok (.tableswitch 148 0 5 #[38, 58, 74, 90, 109, 125], 38) := by decide +kernel
theorem dX0_mayEat_96 : decode cX0_mayEat 96 = .ok (.iload_n 3, 1) := by decide +kernel
theorem dX0_mayEat_97 : decode cX0_mayEat 97 = .ok (.ifCond .le 17, 3) := by decide +kernel
theorem dX0_mayEat_100 : decode cX0_mayEat 100 = .ok (.aload_n 0, 1) := by decide +kernel
theorem dX0_mayEat_101 : decode cX0_mayEat 101 = .ok (.iload_n 2, 1) := by decide +kernel
theorem dX0_mayEat_102 : decode cX0_mayEat 102 = .ok (.invokevirtual 85, 3) := by decide +kernel
theorem dX0_mayEat_105 : decode cX0_mayEat 105 = .ok (.iload_n 3, 1) := by decide +kernel
theorem dX0_mayEat_106 : decode cX0_mayEat 106 = .ok (.irem, 1) := by decide +kernel
theorem dX0_mayEat_107 : decode cX0_mayEat 107 = .ok (.ifCond .ne 7, 3) := by decide +kernel
theorem dX0_mayEat_110 : decode cX0_mayEat 110 = .ok (.iconst 1, 1) := by decide +kernel
theorem dX0_mayEat_111 : decode cX0_mayEat 111 = .ok (.goto 4, 3) := by decide +kernel
theorem dX0_mayEat_114 : decode cX0_mayEat 114 = .ok (.iconst 0, 1) := by decide +kernel
theorem dX0_mayEat_115 : decode cX0_mayEat 115 = .ok (.ireturn, 1) := by decide +kernel
theorem dX0_mayEat_116 : decode cX0_mayEat 116 = .ok (.aload_n 0, 1) := by decide +kernel
theorem dX0_mayEat_117 : decode cX0_mayEat 117 = .ok (.getfield 15, 3) := by decide +kernel
theorem dX0_mayEat_120 : decode cX0_mayEat 120 = .ok (.iload_n 2, 1) := by decide +kernel
theorem dX0_mayEat_121 : decode cX0_mayEat 121 = .ok (.iaload, 1) := by decide +kernel
theorem dX0_mayEat_122 : decode cX0_mayEat 122 = .ok (.iload_n 3, 1) := by decide +kernel
theorem dX0_mayEat_123 : decode cX0_mayEat 123 = .ok (.if_icmp .ge 7, 3) := by decide +kernel
theorem dX0_mayEat_126 : decode cX0_mayEat 126 = .ok (.iconst 1, 1) := by decide +kernel
theorem dX0_mayEat_127 : decode cX0_mayEat 127 = .ok (.goto 4, 3) := by decide +kernel
theorem dX0_mayEat_130 : decode cX0_mayEat 130 = .ok (.iconst 0, 1) := by decide +kernel
theorem dX0_mayEat_131 : decode cX0_mayEat 131 = .ok (.ireturn, 1) := by decide +kernel
theorem dX0_mayEat_132 : decode cX0_mayEat 132 = .ok (.aload_n 0, 1) := by decide +kernel
theorem dX0_mayEat_133 : decode cX0_mayEat 133 = .ok (.getfield 15, 3) := by decide +kernel
theorem dX0_mayEat_136 : decode cX0_mayEat 136 = .ok (.iload_n 2, 1) := by decide +kernel
theorem dX0_mayEat_137 : decode cX0_mayEat 137 = .ok (.iaload, 1) := by decide +kernel
theorem dX0_mayEat_138 : decode cX0_mayEat 138 = .ok (.iload_n 3, 1) := by decide +kernel
theorem dX0_mayEat_139 : decode cX0_mayEat 139 = .ok (.if_icmp .le 7, 3) := by decide +kernel
theorem dX0_mayEat_142 : decode cX0_mayEat 142 = .ok (.iconst 1, 1) := by decide +kernel
theorem dX0_mayEat_143 : decode cX0_mayEat 143 = .ok (.goto 4, 3) := by decide +kernel
theorem dX0_mayEat_146 : decode cX0_mayEat 146 = .ok (.iconst 0, 1) := by decide +kernel
theorem dX0_mayEat_147 : decode cX0_mayEat 147 = .ok (.ireturn, 1) := by decide +kernel
theorem dX0_mayEat_148 : decode cX0_mayEat 148 = .ok (.aload_n 0, 1) := by decide +kernel
theorem dX0_mayEat_149 : decode cX0_mayEat 149 = .ok (.getfield 9, 3) := by decide +kernel
theorem dX0_mayEat_152 : decode cX0_mayEat 152 = .ok (.iload_n 2, 1) := by decide +kernel
theorem dX0_mayEat_153 : decode cX0_mayEat 153 = .ok (.iaload, 1) := by decide +kernel
theorem dX0_mayEat_154 : decode cX0_mayEat 154 = .ok (.iload_n 3, 1) := by decide +kernel
theorem dX0_mayEat_155 : decode cX0_mayEat 155 = .ok (.bipush 6, 2) := by decide +kernel
theorem dX0_mayEat_157 : decode cX0_mayEat 157 = .ok (.irem, 1) := by decide +kernel
theorem dX0_mayEat_158 : decode cX0_mayEat 158 = .ok (.if_icmp .ne 7, 3) := by decide +kernel
theorem dX0_mayEat_161 : decode cX0_mayEat 161 = .ok (.iconst 1, 1) := by decide +kernel
theorem dX0_mayEat_162 : decode cX0_mayEat 162 = .ok (.goto 4, 3) := by decide +kernel
theorem dX0_mayEat_165 : decode cX0_mayEat 165 = .ok (.iconst 0, 1) := by decide +kernel
theorem dX0_mayEat_166 : decode cX0_mayEat 166 = .ok (.ireturn, 1) := by decide +kernel
theorem dX0_mayEat_167 : decode cX0_mayEat 167 = .ok (.aload_n 0, 1) := by decide +kernel
theorem dX0_mayEat_168 : decode cX0_mayEat 168 = .ok (.getfield 18, 3) := by decide +kernel
theorem dX0_mayEat_171 : decode cX0_mayEat 171 = .ok (.iload_n 2, 1) := by decide +kernel
theorem dX0_mayEat_172 : decode cX0_mayEat 172 = .ok (.iaload, 1) := by decide +kernel
theorem dX0_mayEat_173 : decode cX0_mayEat 173 = .ok (.iload_n 3, 1) := by decide +kernel
theorem dX0_mayEat_174 : decode cX0_mayEat 174 = .ok (.if_icmp .lt 7, 3) := by decide +kernel
theorem dX0_mayEat_177 : decode cX0_mayEat 177 = .ok (.iconst 1, 1) := by decide +kernel
theorem dX0_mayEat_178 : decode cX0_mayEat 178 = .ok (.goto 4, 3) := by decide +kernel
theorem dX0_mayEat_181 : decode cX0_mayEat 181 = .ok (.iconst 0, 1) := by decide +kernel
theorem dX0_mayEat_182 : decode cX0_mayEat 182 = .ok (.ireturn, 1) := by decide +kernel
theorem dX0_mayEat_183 : decode cX0_mayEat 183 = .ok (.aload_n 0, 1) := by decide +kernel
theorem dX0_mayEat_184 : decode cX0_mayEat 184 = .ok (.getfield 21, 3) := by decide +kernel
theorem dX0_mayEat_187 : decode cX0_mayEat 187 = .ok (.iload_n 2, 1) := by decide +kernel
theorem dX0_mayEat_188 : decode cX0_mayEat 188 = .ok (.iaload, 1) := by decide +kernel
theorem dX0_mayEat_189 : decode cX0_mayEat 189 = .ok (.aload_n 0, 1) := by decide +kernel
theorem dX0_mayEat_190 : decode cX0_mayEat 190 = .ok (.getfield 21, 3) := by decide +kernel
theorem dX0_mayEat_193 : decode cX0_mayEat 193 = .ok (.iload_n 1, 1) := by decide +kernel
theorem dX0_mayEat_194 : decode cX0_mayEat 194 = .ok (.iaload, 1) := by decide +kernel
theorem dX0_mayEat_195 : decode cX0_mayEat 195 = .ok (.isub, 1) := by decide +kernel
theorem dX0_mayEat_196 : decode cX0_mayEat 196 = .ok (.iload_n 3, 1) := by decide +kernel
theorem dX0_mayEat_197 : decode cX0_mayEat 197 = .ok (.if_icmp .lt 7, 3) := by decide +kernel
theorem dX0_mayEat_200 : decode cX0_mayEat 200 = .ok (.iconst 1, 1) := by decide +kernel
theorem dX0_mayEat_201 : decode cX0_mayEat 201 = .ok (.goto 4, 3) := by decide +kernel
theorem dX0_mayEat_204 : decode cX0_mayEat 204 = .ok (.iconst 0, 1) := by decide +kernel
theorem dX0_mayEat_205 : decode cX0_mayEat 205 = .ok (.ireturn, 1) := by decide +kernel
theorem dX0_mayEat_206 : decode cX0_mayEat 206 = .ok (.iconst 0, 1) := by decide +kernel
theorem dX0_mayEat_207 : decode cX0_mayEat 207 = .ok (.ireturn, 1) := by decide +kernel
theorem dX0_codeOf_0 : decode cX0_codeOf 0 = .ok (.bipush 16, 2) := by decide +kernel
theorem dX0_codeOf_2 : decode cX0_codeOf 2 = .ok (.aload_n 0, 1) := by decide +kernel
theorem dX0_codeOf_3 : decode cX0_codeOf 3 = .ok (.getfield 9, 3) := by decide +kernel
theorem dX0_codeOf_6 : decode cX0_codeOf 6 = .ok (.iload_n 1, 1) := by decide +kernel
theorem dX0_codeOf_7 : decode cX0_codeOf 7 = .ok (.iaload, 1) := by decide +kernel
theorem dX0_codeOf_8 : decode cX0_codeOf 8 = .ok (.imul, 1) := by decide +kernel
theorem dX0_codeOf_9 : decode cX0_codeOf 9 = .ok (.aload_n 0, 1) := by decide +kernel
theorem dX0_codeOf_10 : decode cX0_codeOf 10 = .ok (.getfield 15, 3) := by decide +kernel
theorem dX0_codeOf_13 : decode cX0_codeOf 13 = .ok (.iload_n 1, 1) := by decide +kernel
theorem dX0_codeOf_14 : decode cX0_codeOf 14 = .ok (.iaload, 1) := by decide +kernel
theorem dX0_codeOf_15 : decode cX0_codeOf 15 = .ok (.iadd, 1) := by decide +kernel
theorem dX0_codeOf_16 : decode cX0_codeOf 16 = .ok (.ireturn, 1) := by decide +kernel
set_option maxRecDepth 20000 in
theorem ggX0_preyOf_X0_isThere : GoodIn wsX0_preyOf wsX0_isThere := goodIn_r _ [6, 7, 8, 31, 32, 33, 34, 35, 36, 37, 38, 39, 40, 41, 42, 43, 44, 45] (by decide +kernel) (by decide +kernel)
set_option maxRecDepth 20000 in
theorem gX0_preyOf_X0_isThere : GoodIn wsX0_preyOf (wsV RX0 78 RX0 yX0_isThere wsX0_isThere) := goodIn_app (goodIn_of _ (by decide +kernel)) ggX0_preyOf_X0_isThere
set_option maxRecDepth 20000 in
theorem ggX0_preyOf_X0_cageBeside : GoodIn wsX0_preyOf wsX0_cageBeside := goodIn_r _ [12, 13, 14, 15, 16, 17, 31, 32, 33, 34, 35, 36, 37, 38, 39, 40, 41, 42, 43, 44, 45] (by decide +kernel) (by decide +kernel)
set_option maxRecDepth 20000 in
theorem gX0_preyOf_X0_cageBeside : GoodIn wsX0_preyOf (wsV RX0 92 RX0 yX0_cageBeside wsX0_cageBeside) := goodIn_app (goodIn_of _ (by decide +kernel)) ggX0_preyOf_X0_cageBeside
set_option maxRecDepth 20000 in
theorem ggX0_preyOf_X0_mayEat : GoodIn wsX0_preyOf wsX0_mayEat := goodIn_r _ [21, 22, 23, 24, 25, 26, 2, 3, 4, 5, 6, 7, 8, 27, 28, 29, 30, 31, 32, 33, 34, 35, 36, 37, 38, 39, 40, 41, 42, 43, 44, 45] (by decide +kernel) (by decide +kernel)
set_option maxRecDepth 20000 in
theorem gX0_preyOf_X0_mayEat : GoodIn wsX0_preyOf (wsV RX0 95 RX0 yX0_mayEat wsX0_mayEat) := goodIn_app (goodIn_of _ (by decide +kernel)) ggX0_preyOf_X0_mayEat
theorem dX0_preyOf_0 : decode cX0_preyOf 0 = .ok (.aload_n 0, 1) := by decide +kernel
theorem dX0_preyOf_1 : decode cX0_preyOf 1 = .ok (.iload_n 1, 1) := by decide +kernel
theorem dX0_preyOf_2 : decode cX0_preyOf 2 = .ok (.invokevirtual 78, 3) := by decide +kernel
theorem dX0_preyOf_5 : decode cX0_preyOf 5 = .ok (.ifCond .ne 5, 3) := by decide +kernel
theorem dX0_preyOf_8 : decode cX0_preyOf 8 = .ok (.iconst (-1), 1) := by decide +kernel
theorem dX0_preyOf_9 : decode cX0_preyOf 9 = .ok (.ireturn, 1) := by decide +kernel
theorem dX0_preyOf_10 : decode cX0_preyOf 10 = .ok (.getstatic 89, 3) := by decide +kernel
theorem dX0_preyOf_13 : decode cX0_preyOf 13 = .ok (.astore_n 2, 1) := by decide +kernel
theorem dX0_preyOf_14 : decode cX0_preyOf 14 = .ok (.aload_n 2, 1) := by decide +kernel
theorem dX0_preyOf_15 : decode cX0_preyOf 15 = .ok (.arraylength, 1) := by decide +kernel
theorem dX0_preyOf_16 : decode cX0_preyOf 16 = .ok (.istore_n 3, 1) := by decide +kernel
theorem dX0_preyOf_17 : decode cX0_preyOf 17 = .ok (.iconst 0, 1) := by decide +kernel
theorem dX0_preyOf_18 : decode cX0_preyOf 18 = .ok (.istore 4, 2) := by decide +kernel
theorem dX0_preyOf_20 : decode cX0_preyOf 20 = .ok (.iload 4, 2) := by decide +kernel
theorem dX0_preyOf_22 : decode cX0_preyOf 22 = .ok (.iload_n 3, 1) := by decide +kernel
theorem dX0_preyOf_23 : decode cX0_preyOf 23 = .ok (.if_icmp .ge 42, 3) := by decide +kernel
theorem dX0_preyOf_26 : decode cX0_preyOf 26 = .ok (.aload_n 2, 1) := by decide +kernel
theorem dX0_preyOf_27 : decode cX0_preyOf 27 = .ok (.iload 4, 2) := by decide +kernel
theorem dX0_preyOf_29 : decode cX0_preyOf 29 = .ok (.iaload, 1) := by decide +kernel
theorem dX0_preyOf_30 : decode cX0_preyOf 30 = .ok (.istore 5, 2) := by decide +kernel
theorem dX0_preyOf_32 : decode cX0_preyOf 32 = .ok (.aload_n 0, 1) := by decide +kernel
theorem dX0_preyOf_33 : decode cX0_preyOf 33 = .ok (.getfield 48, 3) := by decide +kernel
theorem dX0_preyOf_36 : decode cX0_preyOf 36 = .ok (.aload_n 0, 1) := by decide +kernel
theorem dX0_preyOf_37 : decode cX0_preyOf 37 = .ok (.iload_n 1, 1) := by decide +kernel
theorem dX0_preyOf_38 : decode cX0_preyOf 38 = .ok (.iload 5, 2) := by decide +kernel
theorem dX0_preyOf_40 : decode cX0_preyOf 40 = .ok (.invokevirtual 92, 3) := by decide +kernel
theorem dX0_preyOf_43 : decode cX0_preyOf 43 = .ok (.iaload, 1) := by decide +kernel
theorem dX0_preyOf_44 : decode cX0_preyOf 44 = .ok (.istore 6, 2) := by decide +kernel
theorem dX0_preyOf_46 : decode cX0_preyOf 46 = .ok (.aload_n 0, 1) := by decide +kernel
theorem dX0_preyOf_47 : decode cX0_preyOf 47 = .ok (.iload_n 1, 1) := by decide +kernel
theorem dX0_preyOf_48 : decode cX0_preyOf 48 = .ok (.iload 6, 2) := by decide +kernel
theorem dX0_preyOf_50 : decode cX0_preyOf 50 = .ok (.invokevirtual 95, 3) := by decide +kernel
theorem dX0_preyOf_53 : decode cX0_preyOf 53 = .ok (.ifCond .eq 6, 3) := by decide +kernel
theorem dX0_preyOf_56 : decode cX0_preyOf 56 = .ok (.iload 6, 2) := by decide +kernel
theorem dX0_preyOf_58 : decode cX0_preyOf 58 = .ok (.ireturn, 1) := by decide +kernel
theorem dX0_preyOf_59 : decode cX0_preyOf 59 = .ok (.iinc 4 1, 3) := by decide +kernel
theorem dX0_preyOf_62 : decode cX0_preyOf 62 = .ok (.goto (-42), 3) := by decide +kernel
theorem dX0_preyOf_65 : decode cX0_preyOf 65 = .ok (.iconst (-1), 1) := by decide +kernel
theorem dX0_preyOf_66 : decode cX0_preyOf 66 = .ok (.ireturn, 1) := by decide +kernel
set_option maxRecDepth 20000 in
theorem ggX0_cageBeside_J9_floorMod_7cf53 : GoodIn wsX0_cageBeside wsJ9_floorMod_7cf53 := goodIn_r _ [5] (by decide +kernel) (by decide +kernel)
set_option maxRecDepth 20000 in
theorem gX0_cageBeside_J9_floorMod_7cf53 : GoodIn wsX0_cageBeside (va_wsS RX0 99 yJ9_floorMod_7cf53 wsJ9_floorMod_7cf53) := goodIn_app (goodIn_of _ (by decide +kernel)) ggX0_cageBeside_J9_floorMod_7cf53
theorem dX0_cageBeside_0 : decode cX0_cageBeside 0 = .ok (.aload_n 0, 1) := by decide +kernel
theorem dX0_cageBeside_1 : decode cX0_cageBeside 1 = .ok (.getfield 33, 3) := by decide +kernel
theorem dX0_cageBeside_4 : decode cX0_cageBeside 4 = .ok (.iload_n 1, 1) := by decide +kernel
theorem dX0_cageBeside_5 : decode cX0_cageBeside 5 = .ok (.iaload, 1) := by decide +kernel
theorem dX0_cageBeside_6 : decode cX0_cageBeside 6 = .ok (.iload_n 2, 1) := by decide +kernel
theorem dX0_cageBeside_7 : decode cX0_cageBeside 7 = .ok (.iadd, 1) := by decide +kernel
theorem dX0_cageBeside_8 : decode cX0_cageBeside 8 = .ok (.bipush 20, 2) := by decide +kernel
theorem dX0_cageBeside_10 : decode cX0_cageBeside 10 = .ok (.invokestatic 99, 3) := by decide +kernel
theorem dX0_cageBeside_13 : decode cX0_cageBeside 13 = .ok (.ireturn, 1) := by decide +kernel
set_option maxRecDepth 20000 in
theorem ggX0_rowFrom_X0_isThere : GoodIn wsX0_rowFrom wsX0_isThere := goodIn_r _ [5, 6, 7, 35, 36, 37, 38, 39, 40, 41, 42, 43, 44, 45, 46, 47, 48, 49] (by decide +kernel) (by decide +kernel)
set_option maxRecDepth 20000 in
theorem gX0_rowFrom_X0_isThere : GoodIn wsX0_rowFrom (wsV RX0 78 RX0 yX0_isThere wsX0_isThere) := goodIn_app (goodIn_of _ (by decide +kernel)) ggX0_rowFrom_X0_isThere
set_option maxRecDepth 20000 in
theorem ggX0_rowFrom_X0_preyOf : GoodIn wsX0_rowFrom wsX0_preyOf := goodIn_r _ [11, 12, 1, 2, 3, 4, 5, 6, 7, 13, 14, 15, 16, 17, 18, 19, 20, 21, 22, 23, 24, 25, 26, 27, 28, 29, 30, 31, 32, 33, 34, 35, 36, 37, 38, 39, 40, 41, 42, 43, 44, 45, 46, 47, 48, 49] (by decide +kernel) (by decide +kernel)
set_option maxRecDepth 20000 in
theorem gX0_rowFrom_X0_preyOf : GoodIn wsX0_rowFrom (wsV RX0 102 RX0 yX0_preyOf wsX0_preyOf) := goodIn_app (goodIn_of _ (by decide +kernel)) ggX0_rowFrom_X0_preyOf
theorem dX0_rowFrom_0 : decode cX0_rowFrom 0 = .ok (.iconst 0, 1) := by decide +kernel
theorem dX0_rowFrom_1 : decode cX0_rowFrom 1 = .ok (.istore_n 2, 1) := by decide +kernel
theorem dX0_rowFrom_2 : decode cX0_rowFrom 2 = .ok (.lconst 0, 1) := by decide +kernel
theorem dX0_rowFrom_3 : decode cX0_rowFrom 3 = .ok (.lstore_n 3, 1) := by decide +kernel
theorem dX0_rowFrom_4 : decode cX0_rowFrom 4 = .ok (.iload_n 1, 1) := by decide +kernel
theorem dX0_rowFrom_5 : decode cX0_rowFrom 5 = .ok (.istore 5, 2) := by decide +kernel
theorem dX0_rowFrom_7 : decode cX0_rowFrom 7 = .ok (.iload_n 2, 1) := by decide +kernel
theorem dX0_rowFrom_8 : decode cX0_rowFrom 8 = .ok (.bipush 60, 2) := by decide +kernel
theorem dX0_rowFrom_10 : decode cX0_rowFrom 10 = .ok (.if_icmp .ge 44, 3) := by decide +kernel
theorem dX0_rowFrom_13 : decode cX0_rowFrom 13 = .ok (.aload_n 0, 1) := by decide +kernel
theorem dX0_rowFrom_14 : decode cX0_rowFrom 14 = .ok (.iload 5, 2) := by decide +kernel
theorem dX0_rowFrom_16 : decode cX0_rowFrom 16 = .ok (.invokevirtual 78, 3) := by decide +kernel
theorem dX0_rowFrom_19 : decode cX0_rowFrom 19 = .ok (.ifCond .eq 35, 3) := by decide +kernel
theorem dX0_rowFrom_22 : decode cX0_rowFrom 22 = .ok (.lload_n 3, 1) := by decide +kernel
theorem dX0_rowFrom_23 : decode cX0_rowFrom 23 = .ok (.iload 5, 2) := by decide +kernel
theorem dX0_rowFrom_25 : decode cX0_rowFrom 25 = .ok (.lushr, 1) := by decide +kernel
theorem dX0_rowFrom_26 : decode cX0_rowFrom 26 = .ok (.lconst 1, 1) := by decide +kernel
theorem dX0_rowFrom_27 : decode cX0_rowFrom 27 = .ok (.land, 1) := by decide +kernel
theorem dX0_rowFrom_28 : decode cX0_rowFrom 28 = .ok (.lconst 0, 1) := by decide +kernel
theorem dX0_rowFrom_29 : decode cX0_rowFrom 29 = .ok (.lcmp, 1) := by decide +kernel
theorem dX0_rowFrom_30 : decode cX0_rowFrom 30 = .ok (.ifCond .ne 24, 3) := by decide +kernel
theorem dX0_rowFrom_33 : decode cX0_rowFrom 33 = .ok (.lload_n 3, 1) := by decide +kernel
theorem dX0_rowFrom_34 : decode cX0_rowFrom 34 = .ok (.lconst 1, 1) := by decide +kernel
theorem dX0_rowFrom_35 : decode cX0_rowFrom 35 = .ok (.iload 5, 2) := by decide +kernel
theorem dX0_rowFrom_37 : decode cX0_rowFrom 37 = .ok (.lshl, 1) := by decide +kernel
theorem dX0_rowFrom_38 : decode cX0_rowFrom 38 = .ok (.lor, 1) := by decide +kernel
theorem dX0_rowFrom_39 : decode cX0_rowFrom 39 = .ok (.lstore_n 3, 1) := by decide +kernel
theorem dX0_rowFrom_40 : decode cX0_rowFrom 40 = .ok (.iinc 2 1, 3) := by decide +kernel
theorem dX0_rowFrom_43 : decode cX0_rowFrom 43 = .ok (.aload_n 0, 1) := by decide +kernel
theorem dX0_rowFrom_44 : decode cX0_rowFrom 44 = .ok (.iload 5, 2) := by decide +kernel
theorem dX0_rowFrom_46 : decode cX0_rowFrom 46 = .ok (.invokevirtual 102, 3) := by decide +kernel
theorem dX0_rowFrom_49 : decode cX0_rowFrom 49 = .ok (.istore 5, 2) := by decide +kernel
theorem dX0_rowFrom_51 : decode cX0_rowFrom 51 = .ok (.goto (-44), 3) := by decide +kernel
theorem dX0_rowFrom_54 : decode cX0_rowFrom 54 = .ok (.iload_n 2, 1) := by decide +kernel
theorem dX0_rowFrom_55 : decode cX0_rowFrom 55 = .ok (.ireturn, 1) := by decide +kernel
set_option maxRecDepth 20000 in
theorem ggX0_liveDays_X0_liveDay : GoodIn wsX0_liveDays wsX0_liveDay := goodIn_r _ [5, 6, 7, 8, 9, 10, 4, 11, 12, 13, 14, 15, 16, 17, 18, 19, 20, 21, 22, 23, 24, 25, 26, 27, 28, 29, 30, 31, 32, 33, 34, 35, 36, 37, 38, 39, 40, 41, 42, 43, 44, 45, 46, 47, 48, 49, 50, 51, 52, 53, 54, 55, 56, 57, 58, 59, 60, 61, 62, 63, 64, 65, 66, 67, 68, 69, 70, 71, 72, 73, 74, 75, 76, 77, 78, 79, 80, 81, 82, 83, 84, 85, 86, 87, 88, 89, 90, 91, 92, 93, 94, 95, 96, 97, 98, 99, 100, 101, 102, 103, 104, 105, 106, 107, 108, 109, 110] (by decide +kernel) (by decide +kernel)
set_option maxRecDepth 20000 in
theorem gX0_liveDays_X0_liveDay : GoodIn wsX0_liveDays (wsV RX0 105 RX0 yX0_liveDay wsX0_liveDay) := goodIn_app (goodIn_of _ (by decide +kernel)) ggX0_liveDays_X0_liveDay
theorem dX0_liveDays_0 : decode cX0_liveDays 0 = .ok (.iconst 0, 1) := by decide +kernel
theorem dX0_liveDays_1 : decode cX0_liveDays 1 = .ok (.istore_n 2, 1) := by decide +kernel
theorem dX0_liveDays_2 : decode cX0_liveDays 2 = .ok (.iload_n 2, 1) := by decide +kernel
theorem dX0_liveDays_3 : decode cX0_liveDays 3 = .ok (.iload_n 1, 1) := by decide +kernel
theorem dX0_liveDays_4 : decode cX0_liveDays 4 = .ok (.if_icmp .ge 13, 3) := by decide +kernel
theorem dX0_liveDays_7 : decode cX0_liveDays 7 = .ok (.aload_n 0, 1) := by decide +kernel
theorem dX0_liveDays_8 : decode cX0_liveDays 8 = .ok (.invokevirtual 105, 3) := by decide +kernel
theorem dX0_liveDays_11 : decode cX0_liveDays 11 = .ok (.iinc 2 1, 3) := by decide +kernel
theorem dX0_liveDays_14 : decode cX0_liveDays 14 = .ok (.goto (-12), 3) := by decide +kernel
theorem dX0_liveDays_17 : decode cX0_liveDays 17 = .ok (.return_, 1) := by decide +kernel
set_option maxRecDepth 20000 in
theorem ggX0_liveDay_X0_eatByNumbers : GoodIn wsX0_liveDay wsX0_eatByNumbers := goodIn_r _ [7, 1, 8, 9, 10, 6, 11, 12, 13, 14, 15, 16, 17, 18, 19, 20, 21, 22, 23, 24, 25, 26, 27, 28, 29, 30, 31, 32, 33, 34, 35, 36, 37, 38, 39, 40, 41, 42, 43, 44, 45, 46, 47, 48, 49, 50, 51, 52, 53, 54, 55, 56, 57, 58, 59, 92, 93, 94, 95, 96, 97, 98, 99, 100, 101, 102, 103, 104, 105, 106] (by decide +kernel) (by decide +kernel)
set_option maxRecDepth 20000 in
theorem gX0_liveDay_X0_eatByNumbers : GoodIn wsX0_liveDay (wsV RX0 108 RX0 yX0_eatByNumbers wsX0_eatByNumbers) := goodIn_app (goodIn_of _ (by decide +kernel)) ggX0_liveDay_X0_eatByNumbers
set_option maxRecDepth 20000 in
theorem ggX0_liveDay_X0_starve : GoodIn wsX0_liveDay wsX0_starve := goodIn_r _ [63, 1, 34, 13, 14, 15, 6, 16, 17, 52, 53, 54, 55, 22, 56, 57, 58, 59, 12, 92, 93, 94, 95, 96, 97, 98, 99, 100, 101, 102, 103, 104, 105, 106] (by decide +kernel) (by decide +kernel)
set_option maxRecDepth 20000 in
theorem gX0_liveDay_X0_starve : GoodIn wsX0_liveDay (wsV RX0 112 RX0 yX0_starve wsX0_starve) := goodIn_app (goodIn_of _ (by decide +kernel)) ggX0_liveDay_X0_starve
set_option maxRecDepth 20000 in
theorem ggX0_liveDay_X0_bearByNumbers : GoodIn wsX0_liveDay wsX0_bearByNumbers := goodIn_r _ [67, 49, 13, 14, 15, 6, 16, 1, 17, 68, 69, 70, 71, 51, 32, 33, 72, 73, 74, 75, 76, 12, 18, 19, 20, 21, 22, 23, 24, 25, 26, 77, 78, 79, 80, 81, 82, 83, 84, 34, 35, 50, 31, 44, 85, 86, 87, 92, 93, 94, 95, 96, 97, 98, 99, 100, 101, 102, 103, 104, 105, 106] (by decide +kernel) (by decide +kernel)
set_option maxRecDepth 20000 in
theorem gX0_liveDay_X0_bearByNumbers : GoodIn wsX0_liveDay (wsV RX0 116 RX0 yX0_bearByNumbers wsX0_bearByNumbers) := goodIn_app (goodIn_of _ (by decide +kernel)) ggX0_liveDay_X0_bearByNumbers
set_option maxRecDepth 20000 in
theorem ggX0_liveDay_X0_growOlder : GoodIn wsX0_liveDay wsX0_growOlder := goodIn_r _ [91, 35, 13, 14, 15, 6, 16, 1, 17, 92, 93, 94, 95, 96, 97, 98, 99, 100, 101, 102, 103, 104, 105, 106] (by decide +kernel) (by decide +kernel)
set_option maxRecDepth 20000 in
theorem gX0_liveDay_X0_growOlder : GoodIn wsX0_liveDay (wsV RX0 119 RX0 yX0_growOlder wsX0_growOlder) := goodIn_app (goodIn_of _ (by decide +kernel)) ggX0_liveDay_X0_growOlder
theorem dX0_liveDay_0 : decode cX0_liveDay 0 = .ok (.aload_n 0, 1) := by decide +kernel
theorem dX0_liveDay_1 : decode cX0_liveDay 1 = .ok (.getfield 55, 3) := by decide +kernel
theorem dX0_liveDay_4 : decode cX0_liveDay 4 = .ok (.istore_n 1, 1) := by decide +kernel
theorem dX0_liveDay_5 : decode cX0_liveDay 5 = .ok (.aload_n 0, 1) := by decide +kernel
theorem dX0_liveDay_6 : decode cX0_liveDay 6 = .ok (.aload_n 0, 1) := by decide +kernel
theorem dX0_liveDay_7 : decode cX0_liveDay 7 = .ok (.invokevirtual 108, 3) := by decide +kernel
theorem dX0_liveDay_10 : decode cX0_liveDay 10 = .ok (.invokevirtual 112, 3) := by decide +kernel
theorem dX0_liveDay_13 : decode cX0_liveDay 13 = .ok (.aload_n 0, 1) := by decide +kernel
theorem dX0_liveDay_14 : decode cX0_liveDay 14 = .ok (.iload_n 1, 1) := by decide +kernel
theorem dX0_liveDay_15 : decode cX0_liveDay 15 = .ok (.invokevirtual 116, 3) := by decide +kernel
theorem dX0_liveDay_18 : decode cX0_liveDay 18 = .ok (.aload_n 0, 1) := by decide +kernel
theorem dX0_liveDay_19 : decode cX0_liveDay 19 = .ok (.iload_n 1, 1) := by decide +kernel
theorem dX0_liveDay_20 : decode cX0_liveDay 20 = .ok (.invokevirtual 119, 3) := by decide +kernel
theorem dX0_liveDay_23 : decode cX0_liveDay 23 = .ok (.aload_n 0, 1) := by decide +kernel
theorem dX0_liveDay_24 : decode cX0_liveDay 24 = .ok (.dup, 1) := by decide +kernel
theorem dX0_liveDay_25 : decode cX0_liveDay 25 = .ok (.getfield 59, 3) := by decide +kernel
theorem dX0_liveDay_28 : decode cX0_liveDay 28 = .ok (.iconst 1, 1) := by decide +kernel
theorem dX0_liveDay_29 : decode cX0_liveDay 29 = .ok (.iadd, 1) := by decide +kernel
theorem dX0_liveDay_30 : decode cX0_liveDay 30 = .ok (.putfield 59, 3) := by decide +kernel
theorem dX0_liveDay_33 : decode cX0_liveDay 33 = .ok (.return_, 1) := by decide +kernel
set_option maxRecDepth 20000 in
theorem ggX0_eatByNumbers_X0_preyOf : GoodIn wsX0_eatByNumbers wsX0_preyOf := goodIn_r _ [6, 7, 8, 9, 10, 5, 11, 1, 12, 13, 14, 15, 16, 17, 18, 19, 20, 21, 22, 23, 24, 25, 26, 27, 28, 29, 30, 31, 32, 33, 34, 55, 56, 57, 58, 59, 60, 61, 62, 63, 64, 65, 66, 67, 68, 69] (by decide +kernel) (by decide +kernel)
set_option maxRecDepth 20000 in
theorem gX0_eatByNumbers_X0_preyOf : GoodIn wsX0_eatByNumbers (wsV RX0 102 RX0 yX0_preyOf wsX0_preyOf) := goodIn_app (goodIn_of _ (by decide +kernel)) ggX0_eatByNumbers_X0_preyOf
set_option maxRecDepth 20000 in
theorem ggX0_eatByNumbers_X0_eat : GoodIn wsX0_eatByNumbers wsX0_eat := goodIn_r _ [38, 39, 29, 40, 41, 42, 43, 44, 45, 46, 47, 48, 49, 5, 50, 17, 12, 8, 9, 10, 11, 1, 51, 52, 53, 54, 7, 55, 56, 57, 58, 59, 60, 61, 62, 63, 64, 65, 66, 67, 68, 69] (by decide +kernel) (by decide +kernel)
set_option maxRecDepth 20000 in
theorem gX0_eatByNumbers_X0_eat : GoodIn wsX0_eatByNumbers (wsV RX0 122 RX0 yX0_eat wsX0_eat) := goodIn_app (goodIn_of _ (by decide +kernel)) ggX0_eatByNumbers_X0_eat
theorem dX0_eatByNumbers_0 : decode cX0_eatByNumbers 0 = .ok (.lconst 0, 1) := by decide +kernel
theorem dX0_eatByNumbers_1 : decode cX0_eatByNumbers 1 = .ok (.lstore_n 1, 1) := by decide +kernel
theorem dX0_eatByNumbers_2 : decode cX0_eatByNumbers 2 = .ok (.iconst 0, 1) := by decide +kernel
theorem dX0_eatByNumbers_3 : decode cX0_eatByNumbers 3 = .ok (.istore_n 3, 1) := by decide +kernel
theorem dX0_eatByNumbers_4 : decode cX0_eatByNumbers 4 = .ok (.iload_n 3, 1) := by decide +kernel
theorem dX0_eatByNumbers_5 : decode cX0_eatByNumbers 5 = .ok (.aload_n 0, 1) := by decide +kernel
theorem dX0_eatByNumbers_6 : decode cX0_eatByNumbers 6 = .ok (.getfield 55, 3) := by decide +kernel
theorem dX0_eatByNumbers_9 : decode cX0_eatByNumbers 9 = .ok (.if_icmp .ge 35, 3) := by decide +kernel
theorem dX0_eatByNumbers_12 : decode cX0_eatByNumbers 12 = .ok (.aload_n 0, 1) := by decide +kernel
theorem dX0_eatByNumbers_13 : decode cX0_eatByNumbers 13 = .ok (.iload_n 3, 1) := by decide +kernel
theorem dX0_eatByNumbers_14 : decode cX0_eatByNumbers 14 = .ok (.invokevirtual 102, 3) := by decide +kernel
theorem dX0_eatByNumbers_17 : decode cX0_eatByNumbers 17 = .ok (.istore 4, 2) := by decide +kernel
theorem dX0_eatByNumbers_19 : decode cX0_eatByNumbers 19 = .ok (.iload 4, 2) := by decide +kernel
theorem dX0_eatByNumbers_21 : decode cX0_eatByNumbers 21 = .ok (.iconst (-1), 1) := by decide +kernel
theorem dX0_eatByNumbers_22 : decode cX0_eatByNumbers 22 = .ok (.if_icmp .eq 16, 3) := by decide +kernel
theorem dX0_eatByNumbers_25 : decode cX0_eatByNumbers 25 = .ok (.aload_n 0, 1) := by decide +kernel
theorem dX0_eatByNumbers_26 : decode cX0_eatByNumbers 26 = .ok (.iload_n 3, 1) := by decide +kernel
theorem dX0_eatByNumbers_27 : decode cX0_eatByNumbers 27 = .ok (.iload 4, 2) := by decide +kernel
theorem dX0_eatByNumbers_29 : decode cX0_eatByNumbers 29 = .ok (.invokevirtual 122, 3) := by decide +kernel
theorem dX0_eatByNumbers_32 : decode cX0_eatByNumbers 32 = .ok (.lload_n 1, 1) := by decide +kernel
theorem dX0_eatByNumbers_33 : decode cX0_eatByNumbers 33 = .ok (.lconst 1, 1) := by decide +kernel
theorem dX0_eatByNumbers_34 : decode cX0_eatByNumbers 34 = .ok (.iload_n 3, 1) := by decide +kernel
theorem dX0_eatByNumbers_35 : decode cX0_eatByNumbers 35 = .ok (.lshl, 1) := by decide +kernel
theorem dX0_eatByNumbers_36 : decode cX0_eatByNumbers 36 = .ok (.lor, 1) := by decide +kernel
theorem dX0_eatByNumbers_37 : decode cX0_eatByNumbers 37 = .ok (.lstore_n 1, 1) := by decide +kernel
theorem dX0_eatByNumbers_38 : decode cX0_eatByNumbers 38 = .ok (.iinc 3 1, 3) := by decide +kernel
theorem dX0_eatByNumbers_41 : decode cX0_eatByNumbers 41 = .ok (.goto (-37), 3) := by decide +kernel
theorem dX0_eatByNumbers_44 : decode cX0_eatByNumbers 44 = .ok (.lload_n 1, 1) := by decide +kernel
theorem dX0_eatByNumbers_45 : decode cX0_eatByNumbers 45 = .ok (.lreturn, 1) := by decide +kernel
set_option maxRecDepth 20000 in
theorem ggX0_eat_X0_leave : GoodIn wsX0_eat wsX0_leave := goodIn_r _ [14, 15, 16, 17, 18, 19, 13, 20, 21, 22, 23, 24, 25, 26, 27, 28, 29, 30, 31, 32, 33, 34, 35, 36, 37, 38, 39, 40, 41] (by decide +kernel) (by decide +kernel)
set_option maxRecDepth 20000 in
theorem gX0_eat_X0_leave : GoodIn wsX0_eat (wsV RX0 126 RX0 yX0_leave wsX0_leave) := goodIn_app (goodIn_of _ (by decide +kernel)) ggX0_eat_X0_leave
theorem dX0_eat_0 : decode cX0_eat 0 = .ok (.aload_n 0, 1) := by decide +kernel
theorem dX0_eat_1 : decode cX0_eat 1 = .ok (.iload_n 2, 1) := by decide +kernel
theorem dX0_eat_2 : decode cX0_eat 2 = .ok (.iconst 1, 1) := by decide +kernel
theorem dX0_eat_3 : decode cX0_eat 3 = .ok (.invokevirtual 126, 3) := by decide +kernel
theorem dX0_eat_6 : decode cX0_eat 6 = .ok (.aload_n 0, 1) := by decide +kernel
theorem dX0_eat_7 : decode cX0_eat 7 = .ok (.getfield 42, 3) := by decide +kernel
theorem dX0_eat_10 : decode cX0_eat 10 = .ok (.iload_n 2, 1) := by decide +kernel
theorem dX0_eat_11 : decode cX0_eat 11 = .ok (.iload_n 1, 1) := by decide +kernel
theorem dX0_eat_12 : decode cX0_eat 12 = .ok (.iastore, 1) := by decide +kernel
theorem dX0_eat_13 : decode cX0_eat 13 = .ok (.aload_n 0, 1) := by decide +kernel
theorem dX0_eat_14 : decode cX0_eat 14 = .ok (.getfield 18, 3) := by decide +kernel
theorem dX0_eat_17 : decode cX0_eat 17 = .ok (.iload_n 1, 1) := by decide +kernel
theorem dX0_eat_18 : decode cX0_eat 18 = .ok (.iconst 0, 1) := by decide +kernel
theorem dX0_eat_19 : decode cX0_eat 19 = .ok (.aload_n 0, 1) := by decide +kernel
theorem dX0_eat_20 : decode cX0_eat 20 = .ok (.getfield 18, 3) := by decide +kernel
theorem dX0_eat_23 : decode cX0_eat 23 = .ok (.iload_n 1, 1) := by decide +kernel
theorem dX0_eat_24 : decode cX0_eat 24 = .ok (.iaload, 1) := by decide +kernel
theorem dX0_eat_25 : decode cX0_eat 25 = .ok (.iconst 2, 1) := by decide +kernel
theorem dX0_eat_26 : decode cX0_eat 26 = .ok (.isub, 1) := by decide +kernel
theorem dX0_eat_27 : decode cX0_eat 27 = .ok (.invokestatic 129, 3) := by decide +kernel
theorem dX0_eat_30 : decode cX0_eat 30 = .ok (.iastore, 1) := by decide +kernel
theorem dX0_eat_31 : decode cX0_eat 31 = .ok (.aload_n 0, 1) := by decide +kernel
theorem dX0_eat_32 : decode cX0_eat 32 = .ok (.getfield 24, 3) := by decide +kernel
theorem dX0_eat_35 : decode cX0_eat 35 = .ok (.iload_n 1, 1) := by decide +kernel
theorem dX0_eat_36 : decode cX0_eat 36 = .ok (.dup2, 1) := by decide +kernel
theorem dX0_eat_37 : decode cX0_eat 37 = .ok (.iaload, 1) := by decide +kernel
theorem dX0_eat_38 : decode cX0_eat 38 = .ok (.iconst 1, 1) := by decide +kernel
theorem dX0_eat_39 : decode cX0_eat 39 = .ok (.iadd, 1) := by decide +kernel
theorem dX0_eat_40 : decode cX0_eat 40 = .ok (.iastore, 1) := by decide +kernel
theorem dX0_eat_41 : decode cX0_eat 41 = .ok (.aload_n 0, 1) := by decide +kernel
theorem dX0_eat_42 : decode cX0_eat 42 = .ok (.getfield 27, 3) := by decide +kernel
theorem dX0_eat_45 : decode cX0_eat 45 = .ok (.iload_n 1, 1) := by decide +kernel
theorem dX0_eat_46 : decode cX0_eat 46 = .ok (.dup2, 1) := by decide +kernel
theorem dX0_eat_47 : decode cX0_eat 47 = .ok (.iaload, 1) := by decide +kernel
theorem dX0_eat_48 : decode cX0_eat 48 = .ok (.iconst 1, 1) := by decide +kernel
theorem dX0_eat_49 : decode cX0_eat 49 = .ok (.iadd, 1) := by decide +kernel
theorem dX0_eat_50 : decode cX0_eat 50 = .ok (.iastore, 1) := by decide +kernel
theorem dX0_eat_51 : decode cX0_eat 51 = .ok (.aload_n 0, 1) := by decide +kernel
theorem dX0_eat_52 : decode cX0_eat 52 = .ok (.getfield 45, 3) := by decide +kernel
theorem dX0_eat_55 : decode cX0_eat 55 = .ok (.iload_n 1, 1) := by decide +kernel
theorem dX0_eat_56 : decode cX0_eat 56 = .ok (.iload_n 2, 1) := by decide +kernel
theorem dX0_eat_57 : decode cX0_eat 57 = .ok (.iastore, 1) := by decide +kernel
theorem dX0_eat_58 : decode cX0_eat 58 = .ok (.return_, 1) := by decide +kernel
set_option maxRecDepth 20000 in
theorem ggX0_starve_X0_isThere : GoodIn wsX0_starve wsX0_isThere := goodIn_r _ [7, 1, 8, 19, 20, 21, 22, 23, 24, 25, 26, 27, 28, 29, 30, 31, 32, 33] (by decide +kernel) (by decide +kernel)
set_option maxRecDepth 20000 in
theorem gX0_starve_X0_isThere : GoodIn wsX0_starve (wsV RX0 78 RX0 yX0_isThere wsX0_isThere) := goodIn_app (goodIn_of _ (by decide +kernel)) ggX0_starve_X0_isThere
set_option maxRecDepth 20000 in
theorem ggX0_starve_X0_leave : GoodIn wsX0_starve wsX0_leave := goodIn_r _ [12, 13, 8, 3, 4, 5, 6, 7, 1, 14, 15, 16, 17, 18, 19, 20, 21, 22, 23, 24, 25, 26, 27, 28, 29, 30, 31, 32, 33] (by decide +kernel) (by decide +kernel)
set_option maxRecDepth 20000 in
theorem gX0_starve_X0_leave : GoodIn wsX0_starve (wsV RX0 126 RX0 yX0_leave wsX0_leave) := goodIn_app (goodIn_of _ (by decide +kernel)) ggX0_starve_X0_leave
theorem dX0_starve_0 : decode cX0_starve 0 = .ok (.iconst 0, 1) := by decide +kernel
theorem dX0_starve_1 : decode cX0_starve 1 = .ok (.istore_n 3, 1) := by decide +kernel
theorem dX0_starve_2 : decode cX0_starve 2 = .ok (.iload_n 3, 1) := by decide +kernel
theorem dX0_starve_3 : decode cX0_starve 3 = .ok (.aload_n 0, 1) := by decide +kernel
theorem dX0_starve_4 : decode cX0_starve 4 = .ok (.getfield 55, 3) := by decide +kernel
theorem dX0_starve_7 : decode cX0_starve 7 = .ok (.if_icmp .ge 54, 3) := by decide +kernel
theorem dX0_starve_10 : decode cX0_starve 10 = .ok (.aload_n 0, 1) := by decide +kernel
theorem dX0_starve_11 : decode cX0_starve 11 = .ok (.iload_n 3, 1) := by decide +kernel
theorem dX0_starve_12 : decode cX0_starve 12 = .ok (.invokevirtual 78, 3) := by decide +kernel
theorem dX0_starve_15 : decode cX0_starve 15 = .ok (.ifCond .eq 40, 3) := by decide +kernel
theorem dX0_starve_18 : decode cX0_starve 18 = .ok (.lload_n 1, 1) := by decide +kernel
theorem dX0_starve_19 : decode cX0_starve 19 = .ok (.iload_n 3, 1) := by decide +kernel
theorem dX0_starve_20 : decode cX0_starve 20 = .ok (.lushr, 1) := by decide +kernel
theorem dX0_starve_21 : decode cX0_starve 21 = .ok (.lconst 1, 1) := by decide +kernel
theorem dX0_starve_22 : decode cX0_starve 22 = .ok (.land, 1) := by decide +kernel
theorem dX0_starve_23 : decode cX0_starve 23 = .ok (.lconst 0, 1) := by decide +kernel
theorem dX0_starve_24 : decode cX0_starve 24 = .ok (.lcmp, 1) := by decide +kernel
theorem dX0_starve_25 : decode cX0_starve 25 = .ok (.ifCond .ne 30, 3) := by decide +kernel
theorem dX0_starve_28 : decode cX0_starve 28 = .ok (.aload_n 0, 1) := by decide +kernel
theorem dX0_starve_29 : decode cX0_starve 29 = .ok (.getfield 18, 3) := by decide +kernel
theorem dX0_starve_32 : decode cX0_starve 32 = .ok (.iload_n 3, 1) := by decide +kernel
theorem dX0_starve_33 : decode cX0_starve 33 = .ok (.dup2, 1) := by decide +kernel
theorem dX0_starve_34 : decode cX0_starve 34 = .ok (.iaload, 1) := by decide +kernel
theorem dX0_starve_35 : decode cX0_starve 35 = .ok (.iconst 1, 1) := by decide +kernel
theorem dX0_starve_36 : decode cX0_starve 36 = .ok (.iadd, 1) := by decide +kernel
theorem dX0_starve_37 : decode cX0_starve 37 = .ok (.iastore, 1) := by decide +kernel
theorem dX0_starve_38 : decode cX0_starve 38 = .ok (.aload_n 0, 1) := by decide +kernel
theorem dX0_starve_39 : decode cX0_starve 39 = .ok (.getfield 18, 3) := by decide +kernel
theorem dX0_starve_42 : decode cX0_starve 42 = .ok (.iload_n 3, 1) := by decide +kernel
theorem dX0_starve_43 : decode cX0_starve 43 = .ok (.iaload, 1) := by decide +kernel
theorem dX0_starve_44 : decode cX0_starve 44 = .ok (.bipush 9, 2) := by decide +kernel
theorem dX0_starve_46 : decode cX0_starve 46 = .ok (.if_icmp .le 9, 3) := by decide +kernel
theorem dX0_starve_49 : decode cX0_starve 49 = .ok (.aload_n 0, 1) := by decide +kernel
theorem dX0_starve_50 : decode cX0_starve 50 = .ok (.iload_n 3, 1) := by decide +kernel
theorem dX0_starve_51 : decode cX0_starve 51 = .ok (.iconst 2, 1) := by decide +kernel
theorem dX0_starve_52 : decode cX0_starve 52 = .ok (.invokevirtual 126, 3) := by decide +kernel
theorem dX0_starve_55 : decode cX0_starve 55 = .ok (.iinc 3 1, 3) := by decide +kernel
theorem dX0_starve_58 : decode cX0_starve 58 = .ok (.goto (-56), 3) := by decide +kernel
theorem dX0_starve_61 : decode cX0_starve 61 = .ok (.return_, 1) := by decide +kernel
set_option maxRecDepth 20000 in
theorem ggX0_bearByNumbers_X0_isThere : GoodIn wsX0_bearByNumbers wsX0_isThere := goodIn_r _ [6, 7, 8, 47, 48, 49, 50, 51, 52, 53, 54, 55, 56, 57, 58, 59, 60, 61] (by decide +kernel) (by decide +kernel)
set_option maxRecDepth 20000 in
theorem gX0_bearByNumbers_X0_isThere : GoodIn wsX0_bearByNumbers (wsV RX0 78 RX0 yX0_isThere wsX0_isThere) := goodIn_app (goodIn_of _ (by decide +kernel)) ggX0_bearByNumbers_X0_isThere
set_option maxRecDepth 20000 in
theorem ggX0_bearByNumbers_X0_bear : GoodIn wsX0_bearByNumbers wsX0_bear := goodIn_r _ [12, 13, 7, 14, 15, 1, 16, 17, 18, 19, 5, 20, 21, 22, 23, 24, 25, 26, 27, 28, 29, 30, 31, 32, 33, 34, 35, 36, 37, 38, 39, 40, 41, 42, 8, 43, 44, 45, 46, 47, 48, 49, 50, 51, 52, 53, 54, 55, 56, 57, 58, 59, 60, 61] (by decide +kernel) (by decide +kernel)
set_option maxRecDepth 20000 in
theorem gX0_bearByNumbers_X0_bear : GoodIn wsX0_bearByNumbers (wsV RX0 132 RX0 yX0_bear wsX0_bear) := goodIn_app (goodIn_of _ (by decide +kernel)) ggX0_bearByNumbers_X0_bear
theorem dX0_bearByNumbers_0 : decode cX0_bearByNumbers 0 = .ok (.iconst 0, 1) := by decide +kernel
theorem dX0_bearByNumbers_1 : decode cX0_bearByNumbers 1 = .ok (.istore_n 2, 1) := by decide +kernel
theorem dX0_bearByNumbers_2 : decode cX0_bearByNumbers 2 = .ok (.iload_n 2, 1) := by decide +kernel
theorem dX0_bearByNumbers_3 : decode cX0_bearByNumbers 3 = .ok (.iload_n 1, 1) := by decide +kernel
theorem dX0_bearByNumbers_4 : decode cX0_bearByNumbers 4 = .ok (.if_icmp .ge 32, 3) := by decide +kernel
theorem dX0_bearByNumbers_7 : decode cX0_bearByNumbers 7 = .ok (.aload_n 0, 1) := by decide +kernel
theorem dX0_bearByNumbers_8 : decode cX0_bearByNumbers 8 = .ok (.iload_n 2, 1) := by decide +kernel
theorem dX0_bearByNumbers_9 : decode cX0_bearByNumbers 9 = .ok (.invokevirtual 78, 3) := by decide +kernel
theorem dX0_bearByNumbers_12 : decode cX0_bearByNumbers 12 = .ok (.ifCond .eq 18, 3) := by decide +kernel
theorem dX0_bearByNumbers_15 : decode cX0_bearByNumbers 15 = .ok (.aload_n 0, 1) := by decide +kernel
theorem dX0_bearByNumbers_16 : decode cX0_bearByNumbers 16 = .ok (.getfield 24, 3) := by decide +kernel
theorem dX0_bearByNumbers_19 : decode cX0_bearByNumbers 19 = .ok (.iload_n 2, 1) := by decide +kernel
theorem dX0_bearByNumbers_20 : decode cX0_bearByNumbers 20 = .ok (.iaload, 1) := by decide +kernel
theorem dX0_bearByNumbers_21 : decode cX0_bearByNumbers 21 = .ok (.iconst 2, 1) := by decide +kernel
theorem dX0_bearByNumbers_22 : decode cX0_bearByNumbers 22 = .ok (.if_icmp .lt 8, 3) := by decide +kernel
theorem dX0_bearByNumbers_25 : decode cX0_bearByNumbers 25 = .ok (.aload_n 0, 1) := by decide +kernel
theorem dX0_bearByNumbers_26 : decode cX0_bearByNumbers 26 = .ok (.iload_n 2, 1) := by decide +kernel
theorem dX0_bearByNumbers_27 : decode cX0_bearByNumbers 27 = .ok (.invokevirtual 132, 3) := by decide +kernel
theorem dX0_bearByNumbers_30 : decode cX0_bearByNumbers 30 = .ok (.iinc 2 1, 3) := by decide +kernel
theorem dX0_bearByNumbers_33 : decode cX0_bearByNumbers 33 = .ok (.goto (-31), 3) := by decide +kernel
theorem dX0_bearByNumbers_36 : decode cX0_bearByNumbers 36 = .ok (.return_, 1) := by decide +kernel
set_option maxRecDepth 20000 in
theorem ggX0_bear_X0_freeCageAround : GoodIn wsX0_bear wsX0_freeCageAround := goodIn_r _ [11, 12, 13, 14, 15, 10, 16, 17, 18, 19, 20, 21, 39, 40, 41, 42, 43, 44, 45, 46, 47, 48, 49, 50, 51, 52, 53] (by decide +kernel) (by decide +kernel)
set_option maxRecDepth 20000 in
theorem gX0_bear_X0_freeCageAround : GoodIn wsX0_bear (wsV RX0 135 RX0 yX0_freeCageAround wsX0_freeCageAround) := goodIn_app (goodIn_of _ (by decide +kernel)) ggX0_bear_X0_freeCageAround
set_option maxRecDepth 20000 in
theorem ggX0_bear_X0_isRule : GoodIn wsX0_bear wsX0_isRule := goodIn_r _ [25, 2, 39, 40, 41, 42, 43, 44, 45, 46, 47, 48, 49, 50, 51, 52, 53] (by decide +kernel) (by decide +kernel)
set_option maxRecDepth 20000 in
theorem gX0_bear_X0_isRule : GoodIn wsX0_bear (wsV RX0 138 RX0 yX0_isRule wsX0_isRule) := goodIn_app (goodIn_of _ (by decide +kernel)) ggX0_bear_X0_isRule
set_option maxRecDepth 20000 in
theorem ggX0_bear_X0_enter : GoodIn wsX0_bear wsX0_enter := goodIn_r _ [29, 2, 4, 3, 30, 31, 5, 32, 33, 17, 34, 6, 35, 1, 12, 36, 37, 10, 38, 39, 40, 41, 42, 43, 44, 45, 46, 47, 48, 49, 50, 51, 52, 53] (by decide +kernel) (by decide +kernel)
set_option maxRecDepth 20000 in
theorem gX0_bear_X0_enter : GoodIn wsX0_bear (wsV RX0 141 RX0 yX0_enter wsX0_enter) := goodIn_app (goodIn_of _ (by decide +kernel)) ggX0_bear_X0_enter
theorem dX0_bear_0 : decode cX0_bear 0 = .ok (.aload_n 0, 1) := by decide +kernel
theorem dX0_bear_1 : decode cX0_bear 1 = .ok (.iload_n 1, 1) := by decide +kernel
theorem dX0_bear_2 : decode cX0_bear 2 = .ok (.invokevirtual 135, 3) := by decide +kernel
theorem dX0_bear_5 : decode cX0_bear 5 = .ok (.istore_n 2, 1) := by decide +kernel
theorem dX0_bear_6 : decode cX0_bear 6 = .ok (.aload_n 0, 1) := by decide +kernel
theorem dX0_bear_7 : decode cX0_bear 7 = .ok (.getfield 45, 3) := by decide +kernel
theorem dX0_bear_10 : decode cX0_bear 10 = .ok (.iload_n 1, 1) := by decide +kernel
theorem dX0_bear_11 : decode cX0_bear 11 = .ok (.iaload, 1) := by decide +kernel
theorem dX0_bear_12 : decode cX0_bear 12 = .ok (.istore_n 3, 1) := by decide +kernel
theorem dX0_bear_13 : decode cX0_bear 13 = .ok (.iload_n 2, 1) := by decide +kernel
theorem dX0_bear_14 : decode cX0_bear 14 = .ok (.iconst (-1), 1) := by decide +kernel
theorem dX0_bear_15 : decode cX0_bear 15 = .ok (.if_icmp .eq 20, 3) := by decide +kernel
theorem dX0_bear_18 : decode cX0_bear 18 = .ok (.aload_n 0, 1) := by decide +kernel
theorem dX0_bear_19 : decode cX0_bear 19 = .ok (.getfield 55, 3) := by decide +kernel
theorem dX0_bear_22 : decode cX0_bear 22 = .ok (.bipush 60, 2) := by decide +kernel
theorem dX0_bear_24 : decode cX0_bear 24 = .ok (.if_icmp .ge 11, 3) := by decide +kernel
theorem dX0_bear_27 : decode cX0_bear 27 = .ok (.aload_n 0, 1) := by decide +kernel
theorem dX0_bear_28 : decode cX0_bear 28 = .ok (.iload_n 3, 1) := by decide +kernel
theorem dX0_bear_29 : decode cX0_bear 29 = .ok (.invokevirtual 138, 3) := by decide +kernel
theorem dX0_bear_32 : decode cX0_bear 32 = .ok (.ifCond .ne 4, 3) := by decide +kernel
theorem dX0_bear_35 : decode cX0_bear 35 = .ok (.return_, 1) := by decide +kernel
theorem dX0_bear_36 : decode cX0_bear 36 = .ok (.aload_n 0, 1) := by decide +kernel
theorem dX0_bear_37 : decode cX0_bear 37 = .ok (.getfield 15, 3) := by decide +kernel
theorem dX0_bear_40 : decode cX0_bear 40 = .ok (.iload_n 1, 1) := by decide +kernel
theorem dX0_bear_41 : decode cX0_bear 41 = .ok (.iaload, 1) := by decide +kernel
theorem dX0_bear_42 : decode cX0_bear 42 = .ok (.aload_n 0, 1) := by decide +kernel
theorem dX0_bear_43 : decode cX0_bear 43 = .ok (.getfield 15, 3) := by decide +kernel
theorem dX0_bear_46 : decode cX0_bear 46 = .ok (.iload_n 3, 1) := by decide +kernel
theorem dX0_bear_47 : decode cX0_bear 47 = .ok (.iaload, 1) := by decide +kernel
theorem dX0_bear_48 : decode cX0_bear 48 = .ok (.iadd, 1) := by decide +kernel
theorem dX0_bear_49 : decode cX0_bear 49 = .ok (.bipush 15, 2) := by decide +kernel
theorem dX0_bear_51 : decode cX0_bear 51 = .ok (.irem, 1) := by decide +kernel
theorem dX0_bear_52 : decode cX0_bear 52 = .ok (.iconst 1, 1) := by decide +kernel
theorem dX0_bear_53 : decode cX0_bear 53 = .ok (.iadd, 1) := by decide +kernel
theorem dX0_bear_54 : decode cX0_bear 54 = .ok (.istore 4, 2) := by decide +kernel
theorem dX0_bear_56 : decode cX0_bear 56 = .ok (.aload_n 0, 1) := by decide +kernel
theorem dX0_bear_57 : decode cX0_bear 57 = .ok (.getfield 15, 3) := by decide +kernel
theorem dX0_bear_60 : decode cX0_bear 60 = .ok (.iload_n 3, 1) := by decide +kernel
theorem dX0_bear_61 : decode cX0_bear 61 = .ok (.iaload, 1) := by decide +kernel
theorem dX0_bear_62 : decode cX0_bear 62 = .ok (.aload_n 0, 1) := by decide +kernel
theorem dX0_bear_63 : decode cX0_bear 63 = .ok (.getfield 15, 3) := by decide +kernel
theorem dX0_bear_66 : decode cX0_bear 66 = .ok (.iload_n 1, 1) := by decide +kernel
theorem dX0_bear_67 : decode cX0_bear 67 = .ok (.iaload, 1) := by decide +kernel
theorem dX0_bear_68 : decode cX0_bear 68 = .ok (.if_icmp .le 12, 3) := by decide +kernel
theorem dX0_bear_71 : decode cX0_bear 71 = .ok (.aload_n 0, 1) := by decide +kernel
theorem dX0_bear_72 : decode cX0_bear 72 = .ok (.getfield 9, 3) := by decide +kernel
theorem dX0_bear_75 : decode cX0_bear 75 = .ok (.iload_n 3, 1) := by decide +kernel
theorem dX0_bear_76 : decode cX0_bear 76 = .ok (.iaload, 1) := by decide +kernel
theorem dX0_bear_77 : decode cX0_bear 77 = .ok (.goto 9, 3) := by decide +kernel
theorem dX0_bear_80 : decode cX0_bear 80 = .ok (.aload_n 0, 1) := by decide +kernel
theorem dX0_bear_81 : decode cX0_bear 81 = .ok (.getfield 9, 3) := by decide +kernel
theorem dX0_bear_84 : decode cX0_bear 84 = .ok (.iload_n 1, 1) := by decide +kernel
theorem dX0_bear_85 : decode cX0_bear 85 = .ok (.iaload, 1) := by decide +kernel
theorem dX0_bear_86 : decode cX0_bear 86 = .ok (.istore 5, 2) := by decide +kernel
theorem dX0_bear_88 : decode cX0_bear 88 = .ok (.aload_n 0, 1) := by decide +kernel
theorem dX0_bear_89 : decode cX0_bear 89 = .ok (.iload_n 2, 1) := by decide +kernel
theorem dX0_bear_90 : decode cX0_bear 90 = .ok (.iload 5, 2) := by decide +kernel
theorem dX0_bear_92 : decode cX0_bear 92 = .ok (.iload 4, 2) := by decide +kernel
theorem dX0_bear_94 : decode cX0_bear 94 = .ok (.iload_n 1, 1) := by decide +kernel
theorem dX0_bear_95 : decode cX0_bear 95 = .ok (.invokevirtual 141, 3) := by decide +kernel
theorem dX0_bear_98 : decode cX0_bear 98 = .ok (.pop, 1) := by decide +kernel
theorem dX0_bear_99 : decode cX0_bear 99 = .ok (.aload_n 0, 1) := by decide +kernel
theorem dX0_bear_100 : decode cX0_bear 100 = .ok (.getfield 24, 3) := by decide +kernel
theorem dX0_bear_103 : decode cX0_bear 103 = .ok (.iload_n 1, 1) := by decide +kernel
theorem dX0_bear_104 : decode cX0_bear 104 = .ok (.dup2, 1) := by decide +kernel
theorem dX0_bear_105 : decode cX0_bear 105 = .ok (.iaload, 1) := by decide +kernel
theorem dX0_bear_106 : decode cX0_bear 106 = .ok (.iconst 2, 1) := by decide +kernel
theorem dX0_bear_107 : decode cX0_bear 107 = .ok (.isub, 1) := by decide +kernel
theorem dX0_bear_108 : decode cX0_bear 108 = .ok (.iastore, 1) := by decide +kernel
theorem dX0_bear_109 : decode cX0_bear 109 = .ok (.aload_n 0, 1) := by decide +kernel
theorem dX0_bear_110 : decode cX0_bear 110 = .ok (.getfield 39, 3) := by decide +kernel
theorem dX0_bear_113 : decode cX0_bear 113 = .ok (.iload_n 1, 1) := by decide +kernel
theorem dX0_bear_114 : decode cX0_bear 114 = .ok (.dup2, 1) := by decide +kernel
theorem dX0_bear_115 : decode cX0_bear 115 = .ok (.iaload, 1) := by decide +kernel
theorem dX0_bear_116 : decode cX0_bear 116 = .ok (.iconst 1, 1) := by decide +kernel
theorem dX0_bear_117 : decode cX0_bear 117 = .ok (.iadd, 1) := by decide +kernel
theorem dX0_bear_118 : decode cX0_bear 118 = .ok (.iastore, 1) := by decide +kernel
theorem dX0_bear_119 : decode cX0_bear 119 = .ok (.return_, 1) := by decide +kernel
set_option maxRecDepth 20000 in
theorem ggX0_freeCageAround_X0_cageBeside : GoodIn wsX0_freeCageAround wsX0_cageBeside := goodIn_r _ [6, 7, 8, 9, 10, 11, 12, 13, 14, 15, 16, 17, 18, 19, 20, 21, 22, 23, 24, 25, 26] (by decide +kernel) (by decide +kernel)
set_option maxRecDepth 20000 in
theorem gX0_freeCageAround_X0_cageBeside : GoodIn wsX0_freeCageAround (wsV RX0 92 RX0 yX0_cageBeside wsX0_cageBeside) := goodIn_app (goodIn_of _ (by decide +kernel)) ggX0_freeCageAround_X0_cageBeside
theorem dX0_freeCageAround_0 : decode cX0_freeCageAround 0 = .ok (.getstatic 89, 3) := by decide +kernel
theorem dX0_freeCageAround_3 : decode cX0_freeCageAround 3 = .ok (.astore_n 2, 1) := by decide +kernel
theorem dX0_freeCageAround_4 : decode cX0_freeCageAround 4 = .ok (.aload_n 2, 1) := by decide +kernel
theorem dX0_freeCageAround_5 : decode cX0_freeCageAround 5 = .ok (.arraylength, 1) := by decide +kernel
theorem dX0_freeCageAround_6 : decode cX0_freeCageAround 6 = .ok (.istore_n 3, 1) := by decide +kernel
theorem dX0_freeCageAround_7 : decode cX0_freeCageAround 7 = .ok (.iconst 0, 1) := by decide +kernel
theorem dX0_freeCageAround_8 : decode cX0_freeCageAround 8 = .ok (.istore 4, 2) := by decide +kernel
theorem dX0_freeCageAround_10 : decode cX0_freeCageAround 10 = .ok (.iload 4, 2) := by decide +kernel
theorem dX0_freeCageAround_12 : decode cX0_freeCageAround 12 = .ok (.iload_n 3, 1) := by decide +kernel
theorem dX0_freeCageAround_13 : decode cX0_freeCageAround 13 = .ok (.if_icmp .ge 38, 3) := by decide +kernel
theorem dX0_freeCageAround_16 : decode cX0_freeCageAround 16 = .ok (.aload_n 2, 1) := by decide +kernel
theorem dX0_freeCageAround_17 : decode cX0_freeCageAround 17 = .ok (.iload 4, 2) := by decide +kernel
theorem dX0_freeCageAround_19 : decode cX0_freeCageAround 19 = .ok (.iaload, 1) := by decide +kernel
theorem dX0_freeCageAround_20 : decode cX0_freeCageAround 20 = .ok (.istore 5, 2) := by decide +kernel
theorem dX0_freeCageAround_22 : decode cX0_freeCageAround 22 = .ok (.aload_n 0, 1) := by decide +kernel
theorem dX0_freeCageAround_23 : decode cX0_freeCageAround 23 = .ok (.iload_n 1, 1) := by decide +kernel
theorem dX0_freeCageAround_24 : decode cX0_freeCageAround 24 = .ok (.iload 5, 2) := by decide +kernel
theorem dX0_freeCageAround_26 : decode cX0_freeCageAround 26 = .ok (.invokevirtual 92, 3) := by decide +kernel
theorem dX0_freeCageAround_29 : decode cX0_freeCageAround 29 = .ok (.istore 6, 2) := by decide +kernel
theorem dX0_freeCageAround_31 : decode cX0_freeCageAround 31 = .ok (.aload_n 0, 1) := by decide +kernel
theorem dX0_freeCageAround_32 : decode cX0_freeCageAround 32 = .ok (.getfield 48, 3) := by decide +kernel
theorem dX0_freeCageAround_35 : decode cX0_freeCageAround 35 = .ok (.iload 6, 2) := by decide +kernel
theorem dX0_freeCageAround_37 : decode cX0_freeCageAround 37 = .ok (.iaload, 1) := by decide +kernel
theorem dX0_freeCageAround_38 : decode cX0_freeCageAround 38 = .ok (.iconst (-1), 1) := by decide +kernel
theorem dX0_freeCageAround_39 : decode cX0_freeCageAround 39 = .ok (.if_icmp .ne 6, 3) := by decide +kernel
theorem dX0_freeCageAround_42 : decode cX0_freeCageAround 42 = .ok (.iload 6, 2) := by decide +kernel
theorem dX0_freeCageAround_44 : decode cX0_freeCageAround 44 = .ok (.ireturn, 1) := by decide +kernel
theorem dX0_freeCageAround_45 : decode cX0_freeCageAround 45 = .ok (.iinc 4 1, 3) := by decide +kernel
theorem dX0_freeCageAround_48 : decode cX0_freeCageAround 48 = .ok (.goto (-38), 3) := by decide +kernel
theorem dX0_freeCageAround_51 : decode cX0_freeCageAround 51 = .ok (.iconst (-1), 1) := by decide +kernel
theorem dX0_freeCageAround_52 : decode cX0_freeCageAround 52 = .ok (.ireturn, 1) := by decide +kernel
set_option maxRecDepth 20000 in
theorem ggX0_growOlder_X0_isThere : GoodIn wsX0_growOlder wsX0_isThere := goodIn_r _ [6, 7, 8, 9, 10, 11, 12, 13, 14, 15, 16, 17, 18, 19, 20, 21, 22, 23] (by decide +kernel) (by decide +kernel)
set_option maxRecDepth 20000 in
theorem gX0_growOlder_X0_isThere : GoodIn wsX0_growOlder (wsV RX0 78 RX0 yX0_isThere wsX0_isThere) := goodIn_app (goodIn_of _ (by decide +kernel)) ggX0_growOlder_X0_isThere
theorem dX0_growOlder_0 : decode cX0_growOlder 0 = .ok (.iconst 0, 1) := by decide +kernel
theorem dX0_growOlder_1 : decode cX0_growOlder 1 = .ok (.istore_n 2, 1) := by decide +kernel
theorem dX0_growOlder_2 : decode cX0_growOlder 2 = .ok (.iload_n 2, 1) := by decide +kernel
theorem dX0_growOlder_3 : decode cX0_growOlder 3 = .ok (.iload_n 1, 1) := by decide +kernel
theorem dX0_growOlder_4 : decode cX0_growOlder 4 = .ok (.if_icmp .ge 27, 3) := by decide +kernel
theorem dX0_growOlder_7 : decode cX0_growOlder 7 = .ok (.aload_n 0, 1) := by decide +kernel
theorem dX0_growOlder_8 : decode cX0_growOlder 8 = .ok (.iload_n 2, 1) := by decide +kernel
theorem dX0_growOlder_9 : decode cX0_growOlder 9 = .ok (.invokevirtual 78, 3) := by decide +kernel
theorem dX0_growOlder_12 : decode cX0_growOlder 12 = .ok (.ifCond .eq 13, 3) := by decide +kernel
theorem dX0_growOlder_15 : decode cX0_growOlder 15 = .ok (.aload_n 0, 1) := by decide +kernel
theorem dX0_growOlder_16 : decode cX0_growOlder 16 = .ok (.getfield 21, 3) := by decide +kernel
theorem dX0_growOlder_19 : decode cX0_growOlder 19 = .ok (.iload_n 2, 1) := by decide +kernel
theorem dX0_growOlder_20 : decode cX0_growOlder 20 = .ok (.dup2, 1) := by decide +kernel
theorem dX0_growOlder_21 : decode cX0_growOlder 21 = .ok (.iaload, 1) := by decide +kernel
theorem dX0_growOlder_22 : decode cX0_growOlder 22 = .ok (.iconst 1, 1) := by decide +kernel
theorem dX0_growOlder_23 : decode cX0_growOlder 23 = .ok (.iadd, 1) := by decide +kernel
theorem dX0_growOlder_24 : decode cX0_growOlder 24 = .ok (.iastore, 1) := by decide +kernel
theorem dX0_growOlder_25 : decode cX0_growOlder 25 = .ok (.iinc 2 1, 3) := by decide +kernel
theorem dX0_growOlder_28 : decode cX0_growOlder 28 = .ok (.goto (-26), 3) := by decide +kernel
theorem dX0_growOlder_31 : decode cX0_growOlder 31 = .ok (.return_, 1) := by decide +kernel
theorem dX0_withFate_0 : decode cX0_withFate 0 = .ok (.iconst 0, 1) := by decide +kernel
theorem dX0_withFate_1 : decode cX0_withFate 1 = .ok (.istore_n 2, 1) := by decide +kernel
theorem dX0_withFate_2 : decode cX0_withFate 2 = .ok (.iconst 0, 1) := by decide +kernel
theorem dX0_withFate_3 : decode cX0_withFate 3 = .ok (.istore_n 3, 1) := by decide +kernel
theorem dX0_withFate_4 : decode cX0_withFate 4 = .ok (.iload_n 3, 1) := by decide +kernel
theorem dX0_withFate_5 : decode cX0_withFate 5 = .ok (.aload_n 0, 1) := by decide +kernel
theorem dX0_withFate_6 : decode cX0_withFate 6 = .ok (.getfield 55, 3) := by decide +kernel
theorem dX0_withFate_9 : decode cX0_withFate 9 = .ok (.if_icmp .ge 22, 3) := by decide +kernel
theorem dX0_withFate_12 : decode cX0_withFate 12 = .ok (.aload_n 0, 1) := by decide +kernel
theorem dX0_withFate_13 : decode cX0_withFate 13 = .ok (.getfield 36, 3) := by decide +kernel
theorem dX0_withFate_16 : decode cX0_withFate 16 = .ok (.iload_n 3, 1) := by decide +kernel
theorem dX0_withFate_17 : decode cX0_withFate 17 = .ok (.iaload, 1) := by decide +kernel
theorem dX0_withFate_18 : decode cX0_withFate 18 = .ok (.iload_n 1, 1) := by decide +kernel
theorem dX0_withFate_19 : decode cX0_withFate 19 = .ok (.if_icmp .ne 6, 3) := by decide +kernel
theorem dX0_withFate_22 : decode cX0_withFate 22 = .ok (.iinc 2 1, 3) := by decide +kernel
theorem dX0_withFate_25 : decode cX0_withFate 25 = .ok (.iinc 3 1, 3) := by decide +kernel
theorem dX0_withFate_28 : decode cX0_withFate 28 = .ok (.goto (-24), 3) := by decide +kernel
theorem dX0_withFate_31 : decode cX0_withFate 31 = .ok (.iload_n 2, 1) := by decide +kernel
theorem dX0_withFate_32 : decode cX0_withFate 32 = .ok (.ireturn, 1) := by decide +kernel
set_option maxRecDepth 20000 in
theorem ggX0_firstThere_X0_isThere : GoodIn wsX0_firstThere wsX0_isThere := goodIn_r _ [6, 1, 7, 8, 9, 10, 11, 12, 13, 14, 15, 16, 17, 18, 19, 20, 21, 22] (by decide +kernel) (by decide +kernel)
set_option maxRecDepth 20000 in
theorem gX0_firstThere_X0_isThere : GoodIn wsX0_firstThere (wsV RX0 78 RX0 yX0_isThere wsX0_isThere) := goodIn_app (goodIn_of _ (by decide +kernel)) ggX0_firstThere_X0_isThere
theorem dX0_firstThere_0 : decode cX0_firstThere 0 = .ok (.iconst 0, 1) := by decide +kernel
theorem dX0_firstThere_1 : decode cX0_firstThere 1 = .ok (.istore_n 1, 1) := by decide +kernel
theorem dX0_firstThere_2 : decode cX0_firstThere 2 = .ok (.iload_n 1, 1) := by decide +kernel
theorem dX0_firstThere_3 : decode cX0_firstThere 3 = .ok (.aload_n 0, 1) := by decide +kernel
theorem dX0_firstThere_4 : decode cX0_firstThere 4 = .ok (.getfield 55, 3) := by decide +kernel
theorem dX0_firstThere_7 : decode cX0_firstThere 7 = .ok (.if_icmp .ge 19, 3) := by decide +kernel
theorem dX0_firstThere_10 : decode cX0_firstThere 10 = .ok (.aload_n 0, 1) := by decide +kernel
theorem dX0_firstThere_11 : decode cX0_firstThere 11 = .ok (.iload_n 1, 1) := by decide +kernel
theorem dX0_firstThere_12 : decode cX0_firstThere 12 = .ok (.invokevirtual 78, 3) := by decide +kernel
theorem dX0_firstThere_15 : decode cX0_firstThere 15 = .ok (.ifCond .eq 5, 3) := by decide +kernel
theorem dX0_firstThere_18 : decode cX0_firstThere 18 = .ok (.iload_n 1, 1) := by decide +kernel
theorem dX0_firstThere_19 : decode cX0_firstThere 19 = .ok (.ireturn, 1) := by decide +kernel
theorem dX0_firstThere_20 : decode cX0_firstThere 20 = .ok (.iinc 1 1, 3) := by decide +kernel
theorem dX0_firstThere_23 : decode cX0_firstThere 23 = .ok (.goto (-21), 3) := by decide +kernel
theorem dX0_firstThere_26 : decode cX0_firstThere 26 = .ok (.iconst (-1), 1) := by decide +kernel
theorem dX0_firstThere_27 : decode cX0_firstThere 27 = .ok (.ireturn, 1) := by decide +kernel
set_option maxRecDepth 20000 in
theorem ggX0_hungerOfAll_X0_isThere : GoodIn wsX0_hungerOfAll wsX0_isThere := goodIn_r _ [7, 1, 8, 9, 10, 11, 12, 13, 14, 15, 16, 17, 18, 19, 20, 21, 22, 23] (by decide +kernel) (by decide +kernel)
set_option maxRecDepth 20000 in
theorem gX0_hungerOfAll_X0_isThere : GoodIn wsX0_hungerOfAll (wsV RX0 78 RX0 yX0_isThere wsX0_isThere) := goodIn_app (goodIn_of _ (by decide +kernel)) ggX0_hungerOfAll_X0_isThere
theorem dX0_hungerOfAll_0 : decode cX0_hungerOfAll 0 = .ok (.iconst 0, 1) := by decide +kernel
theorem dX0_hungerOfAll_1 : decode cX0_hungerOfAll 1 = .ok (.istore_n 1, 1) := by decide +kernel
theorem dX0_hungerOfAll_2 : decode cX0_hungerOfAll 2 = .ok (.iconst 0, 1) := by decide +kernel
theorem dX0_hungerOfAll_3 : decode cX0_hungerOfAll 3 = .ok (.istore_n 2, 1) := by decide +kernel
theorem dX0_hungerOfAll_4 : decode cX0_hungerOfAll 4 = .ok (.iload_n 2, 1) := by decide +kernel
theorem dX0_hungerOfAll_5 : decode cX0_hungerOfAll 5 = .ok (.aload_n 0, 1) := by decide +kernel
theorem dX0_hungerOfAll_6 : decode cX0_hungerOfAll 6 = .ok (.getfield 55, 3) := by decide +kernel
theorem dX0_hungerOfAll_9 : decode cX0_hungerOfAll 9 = .ok (.if_icmp .ge 26, 3) := by decide +kernel
theorem dX0_hungerOfAll_12 : decode cX0_hungerOfAll 12 = .ok (.aload_n 0, 1) := by decide +kernel
theorem dX0_hungerOfAll_13 : decode cX0_hungerOfAll 13 = .ok (.iload_n 2, 1) := by decide +kernel
theorem dX0_hungerOfAll_14 : decode cX0_hungerOfAll 14 = .ok (.invokevirtual 78, 3) := by decide +kernel
theorem dX0_hungerOfAll_17 : decode cX0_hungerOfAll 17 = .ok (.ifCond .eq 12, 3) := by decide +kernel
theorem dX0_hungerOfAll_20 : decode cX0_hungerOfAll 20 = .ok (.iload_n 1, 1) := by decide +kernel
theorem dX0_hungerOfAll_21 : decode cX0_hungerOfAll 21 = .ok (.aload_n 0, 1) := by decide +kernel
theorem dX0_hungerOfAll_22 : decode cX0_hungerOfAll 22 = .ok (.getfield 18, 3) := by decide +kernel
theorem dX0_hungerOfAll_25 : decode cX0_hungerOfAll 25 = .ok (.iload_n 2, 1) := by decide +kernel
theorem dX0_hungerOfAll_26 : decode cX0_hungerOfAll 26 = .ok (.iaload, 1) := by decide +kernel
theorem dX0_hungerOfAll_27 : decode cX0_hungerOfAll 27 = .ok (.iadd, 1) := by decide +kernel
theorem dX0_hungerOfAll_28 : decode cX0_hungerOfAll 28 = .ok (.istore_n 1, 1) := by decide +kernel
theorem dX0_hungerOfAll_29 : decode cX0_hungerOfAll 29 = .ok (.iinc 2 1, 3) := by decide +kernel
theorem dX0_hungerOfAll_32 : decode cX0_hungerOfAll 32 = .ok (.goto (-28), 3) := by decide +kernel
theorem dX0_hungerOfAll_35 : decode cX0_hungerOfAll 35 = .ok (.iload_n 1, 1) := by decide +kernel
theorem dX0_hungerOfAll_36 : decode cX0_hungerOfAll 36 = .ok (.ireturn, 1) := by decide +kernel
theorem dX0_born_0 : decode cX0_born 0 = .ok (.iconst 0, 1) := by decide +kernel
theorem dX0_born_1 : decode cX0_born 1 = .ok (.istore_n 1, 1) := by decide +kernel
theorem dX0_born_2 : decode cX0_born 2 = .ok (.iconst 0, 1) := by decide +kernel
theorem dX0_born_3 : decode cX0_born 3 = .ok (.istore_n 2, 1) := by decide +kernel
theorem dX0_born_4 : decode cX0_born 4 = .ok (.iload_n 2, 1) := by decide +kernel
theorem dX0_born_5 : decode cX0_born 5 = .ok (.aload_n 0, 1) := by decide +kernel
theorem dX0_born_6 : decode cX0_born 6 = .ok (.getfield 55, 3) := by decide +kernel
theorem dX0_born_9 : decode cX0_born 9 = .ok (.if_icmp .ge 22, 3) := by decide +kernel
theorem dX0_born_12 : decode cX0_born 12 = .ok (.aload_n 0, 1) := by decide +kernel
theorem dX0_born_13 : decode cX0_born 13 = .ok (.getfield 30, 3) := by decide +kernel
theorem dX0_born_16 : decode cX0_born 16 = .ok (.iload_n 2, 1) := by decide +kernel
theorem dX0_born_17 : decode cX0_born 17 = .ok (.iaload, 1) := by decide +kernel
theorem dX0_born_18 : decode cX0_born 18 = .ok (.iconst (-1), 1) := by decide +kernel
theorem dX0_born_19 : decode cX0_born 19 = .ok (.if_icmp .eq 6, 3) := by decide +kernel
theorem dX0_born_22 : decode cX0_born 22 = .ok (.iinc 1 1, 3) := by decide +kernel
theorem dX0_born_25 : decode cX0_born 25 = .ok (.iinc 2 1, 3) := by decide +kernel
theorem dX0_born_28 : decode cX0_born 28 = .ok (.goto (-24), 3) := by decide +kernel
theorem dX0_born_31 : decode cX0_born 31 = .ok (.iload_n 1, 1) := by decide +kernel
theorem dX0_born_32 : decode cX0_born 32 = .ok (.ireturn, 1) := by decide +kernel
set_option maxRecDepth 20000 in
theorem ggX0_kindsThere_X0_isThere : GoodIn wsX0_kindsThere wsX0_isThere := goodIn_r _ [7, 1, 8, 16, 17, 18, 19, 20, 21, 22, 23, 24, 25, 26, 27, 28, 29, 30] (by decide +kernel) (by decide +kernel)
set_option maxRecDepth 20000 in
theorem gX0_kindsThere_X0_isThere : GoodIn wsX0_kindsThere (wsV RX0 78 RX0 yX0_isThere wsX0_isThere) := goodIn_app (goodIn_of _ (by decide +kernel)) ggX0_kindsThere_X0_isThere
set_option maxRecDepth 20000 in
theorem ggX0_kindsThere_J6_bitCount_0f7a4 : GoodIn wsX0_kindsThere wsJ6_bitCount_0f7a4 := goodIn_r _ [12, 13, 14, 15] (by decide +kernel) (by decide +kernel)
set_option maxRecDepth 20000 in
theorem gX0_kindsThere_J6_bitCount_0f7a4 : GoodIn wsX0_kindsThere (va_wsS RX0 145 yJ6_bitCount_0f7a4 wsJ6_bitCount_0f7a4) := goodIn_app (goodIn_of _ (by decide +kernel)) ggX0_kindsThere_J6_bitCount_0f7a4
theorem dX0_kindsThere_0 : decode cX0_kindsThere 0 = .ok (.iconst 0, 1) := by decide +kernel
theorem dX0_kindsThere_1 : decode cX0_kindsThere 1 = .ok (.istore_n 1, 1) := by decide +kernel
theorem dX0_kindsThere_2 : decode cX0_kindsThere 2 = .ok (.iconst 0, 1) := by decide +kernel
theorem dX0_kindsThere_3 : decode cX0_kindsThere 3 = .ok (.istore_n 2, 1) := by decide +kernel
theorem dX0_kindsThere_4 : decode cX0_kindsThere 4 = .ok (.iload_n 2, 1) := by decide +kernel
theorem dX0_kindsThere_5 : decode cX0_kindsThere 5 = .ok (.aload_n 0, 1) := by decide +kernel
theorem dX0_kindsThere_6 : decode cX0_kindsThere 6 = .ok (.getfield 55, 3) := by decide +kernel
theorem dX0_kindsThere_9 : decode cX0_kindsThere 9 = .ok (.if_icmp .ge 28, 3) := by decide +kernel
theorem dX0_kindsThere_12 : decode cX0_kindsThere 12 = .ok (.aload_n 0, 1) := by decide +kernel
theorem dX0_kindsThere_13 : decode cX0_kindsThere 13 = .ok (.iload_n 2, 1) := by decide +kernel
theorem dX0_kindsThere_14 : decode cX0_kindsThere 14 = .ok (.invokevirtual 78, 3) := by decide +kernel
theorem dX0_kindsThere_17 : decode cX0_kindsThere 17 = .ok (.ifCond .eq 14, 3) := by decide +kernel
theorem dX0_kindsThere_20 : decode cX0_kindsThere 20 = .ok (.iload_n 1, 1) := by decide +kernel
theorem dX0_kindsThere_21 : decode cX0_kindsThere 21 = .ok (.iconst 1, 1) := by decide +kernel
theorem dX0_kindsThere_22 : decode cX0_kindsThere 22 = .ok (.aload_n 0, 1) := by decide +kernel
theorem dX0_kindsThere_23 : decode cX0_kindsThere 23 = .ok (.getfield 9, 3) := by decide +kernel
theorem dX0_kindsThere_26 : decode cX0_kindsThere 26 = .ok (.iload_n 2, 1) := by decide +kernel
theorem dX0_kindsThere_27 : decode cX0_kindsThere 27 = .ok (.iaload, 1) := by decide +kernel
theorem dX0_kindsThere_28 : decode cX0_kindsThere 28 = .ok (.ishl, 1) := by decide +kernel
theorem dX0_kindsThere_29 : decode cX0_kindsThere 29 = .ok (.ior, 1) := by decide +kernel
theorem dX0_kindsThere_30 : decode cX0_kindsThere 30 = .ok (.istore_n 1, 1) := by decide +kernel
theorem dX0_kindsThere_31 : decode cX0_kindsThere 31 = .ok (.iinc 2 1, 3) := by decide +kernel
theorem dX0_kindsThere_34 : decode cX0_kindsThere 34 = .ok (.goto (-30), 3) := by decide +kernel
theorem dX0_kindsThere_37 : decode cX0_kindsThere 37 = .ok (.iload_n 1, 1) := by decide +kernel
theorem dX0_kindsThere_38 : decode cX0_kindsThere 38 = .ok (.invokestatic 145, 3) := by decide +kernel
theorem dX0_kindsThere_41 : decode cX0_kindsThere 41 = .ok (.ireturn, 1) := by decide +kernel
set_option maxRecDepth 20000 in
theorem ggX0_counted_X0_withFate : GoodIn wsX0_counted wsX0_withFate := goodIn_r _ [7, 2, 8, 30, 31, 32, 33, 34, 35, 36, 37, 38, 39, 40, 41, 42, 43, 44] (by decide +kernel) (by decide +kernel)
set_option maxRecDepth 20000 in
theorem gX0_counted_X0_withFate : GoodIn wsX0_counted (wsV RX0 150 RX0 yX0_withFate wsX0_withFate) := goodIn_app (goodIn_of _ (by decide +kernel)) ggX0_counted_X0_withFate
set_option maxRecDepth 20000 in
theorem ggX0_counted_X0_born : GoodIn wsX0_counted wsX0_born := goodIn_r _ [12, 2, 13, 30, 31, 32, 33, 34, 35, 36, 37, 38, 39, 40, 41, 42, 43, 44] (by decide +kernel) (by decide +kernel)
set_option maxRecDepth 20000 in
theorem gX0_counted_X0_born : GoodIn wsX0_counted (wsV RX0 153 RX0 yX0_born wsX0_born) := goodIn_app (goodIn_of _ (by decide +kernel)) ggX0_counted_X0_born
set_option maxRecDepth 20000 in
theorem ggX0_counted_X0_kindsThere : GoodIn wsX0_counted wsX0_kindsThere := goodIn_r _ [17, 2, 18, 19, 20, 21, 6, 22, 8, 23, 24, 25, 26, 27, 28, 29, 30, 31, 32, 33, 34, 35, 36, 37, 38, 39, 40, 41, 42, 43, 44] (by decide +kernel) (by decide +kernel)
set_option maxRecDepth 20000 in
theorem gX0_counted_X0_kindsThere : GoodIn wsX0_counted (wsV RX0 157 RX0 yX0_kindsThere wsX0_kindsThere) := goodIn_app (goodIn_of _ (by decide +kernel)) ggX0_counted_X0_kindsThere
theorem dX0_counted_0 : decode cX0_counted 0 = .ok (.iload_n 1, 1) := by decide +kernel
theorem dX0_counted_1 : decode cX0_counted 1 = .ok (.tableswitch 95 0 7 #[47, 52, 58, 63, 69, 75, 81, 86], 47) := by decide +kernel
theorem dX0_counted_48 : decode cX0_counted 48 = .ok (.aload_n 0, 1) := by decide +kernel
theorem dX0_counted_49 : decode cX0_counted 49 = .ok (.getfield 59, 3) := by decide +kernel
theorem dX0_counted_52 : decode cX0_counted 52 = .ok (.ireturn, 1) := by decide +kernel
theorem dX0_counted_53 : decode cX0_counted 53 = .ok (.aload_n 0, 1) := by decide +kernel
theorem dX0_counted_54 : decode cX0_counted 54 = .ok (.iconst 0, 1) := by decide +kernel
theorem dX0_counted_55 : decode cX0_counted 55 = .ok (.invokevirtual 150, 3) := by decide +kernel
theorem dX0_counted_58 : decode cX0_counted 58 = .ok (.ireturn, 1) := by decide +kernel
theorem dX0_counted_59 : decode cX0_counted 59 = .ok (.aload_n 0, 1) := by decide +kernel
theorem dX0_counted_60 : decode cX0_counted 60 = .ok (.getfield 55, 3) := by decide +kernel
theorem dX0_counted_63 : decode cX0_counted 63 = .ok (.ireturn, 1) := by decide +kernel
theorem dX0_counted_64 : decode cX0_counted 64 = .ok (.aload_n 0, 1) := by decide +kernel
theorem dX0_counted_65 : decode cX0_counted 65 = .ok (.iconst 1, 1) := by decide +kernel
theorem dX0_counted_66 : decode cX0_counted 66 = .ok (.invokevirtual 150, 3) := by decide +kernel
theorem dX0_counted_69 : decode cX0_counted 69 = .ok (.ireturn, 1) := by decide +kernel
theorem dX0_counted_70 : decode cX0_counted 70 = .ok (.aload_n 0, 1) := by decide +kernel
theorem dX0_counted_71 : decode cX0_counted 71 = .ok (.iconst 2, 1) := by decide +kernel
theorem dX0_counted_72 : decode cX0_counted 72 = .ok (.invokevirtual 150, 3) := by decide +kernel
theorem dX0_counted_75 : decode cX0_counted 75 = .ok (.ireturn, 1) := by decide +kernel
theorem dX0_counted_76 : decode cX0_counted 76 = .ok (.aload_n 0, 1) := by decide +kernel
theorem dX0_counted_77 : decode cX0_counted 77 = .ok (.iconst 3, 1) := by decide +kernel
theorem dX0_counted_78 : decode cX0_counted 78 = .ok (.invokevirtual 150, 3) := by decide +kernel
theorem dX0_counted_81 : decode cX0_counted 81 = .ok (.ireturn, 1) := by decide +kernel
theorem dX0_counted_82 : decode cX0_counted 82 = .ok (.aload_n 0, 1) := by decide +kernel
theorem dX0_counted_83 : decode cX0_counted 83 = .ok (.invokevirtual 153, 3) := by decide +kernel
theorem dX0_counted_86 : decode cX0_counted 86 = .ok (.ireturn, 1) := by decide +kernel
theorem dX0_counted_87 : decode cX0_counted 87 = .ok (.bipush 20, 2) := by decide +kernel
theorem dX0_counted_89 : decode cX0_counted 89 = .ok (.aload_n 0, 1) := by decide +kernel
theorem dX0_counted_90 : decode cX0_counted 90 = .ok (.iconst 0, 1) := by decide +kernel
theorem dX0_counted_91 : decode cX0_counted 91 = .ok (.invokevirtual 150, 3) := by decide +kernel
theorem dX0_counted_94 : decode cX0_counted 94 = .ok (.isub, 1) := by decide +kernel
theorem dX0_counted_95 : decode cX0_counted 95 = .ok (.ireturn, 1) := by decide +kernel
theorem dX0_counted_96 : decode cX0_counted 96 = .ok (.aload_n 0, 1) := by decide +kernel
theorem dX0_counted_97 : decode cX0_counted 97 = .ok (.invokevirtual 157, 3) := by decide +kernel
theorem dX0_counted_100 : decode cX0_counted 100 = .ok (.ireturn, 1) := by decide +kernel
set_option maxRecDepth 20000 in
theorem ggX0_aboutRule_X0_isRule : GoodIn wsX0_aboutRule wsX0_isRule := goodIn_r _ [16, 17, 22, 23, 24, 25, 26, 27, 28, 29, 30, 31, 32, 33, 34, 35, 36] (by decide +kernel) (by decide +kernel)
set_option maxRecDepth 20000 in
theorem gX0_aboutRule_X0_isRule : GoodIn wsX0_aboutRule (wsV RX0 138 RX0 yX0_isRule wsX0_isRule) := goodIn_app (goodIn_of _ (by decide +kernel)) ggX0_aboutRule_X0_isRule
set_option maxRecDepth 20000 in
theorem ggX0_aboutRule_X0_codeOf : GoodIn wsX0_aboutRule wsX0_codeOf := goodIn_r _ [21, 1, 2, 22, 23, 24, 25, 26, 27, 28, 29, 30, 31, 32, 33, 34, 35, 36] (by decide +kernel) (by decide +kernel)
set_option maxRecDepth 20000 in
theorem gX0_aboutRule_X0_codeOf : GoodIn wsX0_aboutRule (wsV RX0 85 RX0 yX0_codeOf wsX0_codeOf) := goodIn_app (goodIn_of _ (by decide +kernel)) ggX0_aboutRule_X0_codeOf
theorem dX0_aboutRule_0 : decode cX0_aboutRule 0 = .ok (.aload_n 0, 1) := by decide +kernel
theorem dX0_aboutRule_1 : decode cX0_aboutRule 1 = .ok (.iload_n 1, 1) := by decide +kernel
theorem dX0_aboutRule_2 : decode cX0_aboutRule 2 = .ok (.invokevirtual 138, 3) := by decide +kernel
theorem dX0_aboutRule_5 : decode cX0_aboutRule 5 = .ok (.ifCond .ne 5, 3) := by decide +kernel
theorem dX0_aboutRule_8 : decode cX0_aboutRule 8 = .ok (.iconst (-1), 1) := by decide +kernel
theorem dX0_aboutRule_9 : decode cX0_aboutRule 9 = .ok (.ireturn, 1) := by decide +kernel
theorem dX0_aboutRule_10 : decode cX0_aboutRule 10 = .ok (.iload_n 2, 1) := by decide +kernel
theorem dX0_aboutRule_11 : decode cX0_aboutRule 11 = .ok (.tableswitch 133 0 10 #[57, 64, 71, 77, 84, 91, 98, 105, 112, 119, 126], 57) := by decide +kernel
theorem dX0_aboutRule_68 : decode cX0_aboutRule 68 = .ok (.aload_n 0, 1) := by decide +kernel
theorem dX0_aboutRule_69 : decode cX0_aboutRule 69 = .ok (.getfield 9, 3) := by decide +kernel
theorem dX0_aboutRule_72 : decode cX0_aboutRule 72 = .ok (.iload_n 1, 1) := by decide +kernel
theorem dX0_aboutRule_73 : decode cX0_aboutRule 73 = .ok (.iaload, 1) := by decide +kernel
theorem dX0_aboutRule_74 : decode cX0_aboutRule 74 = .ok (.ireturn, 1) := by decide +kernel
theorem dX0_aboutRule_75 : decode cX0_aboutRule 75 = .ok (.aload_n 0, 1) := by decide +kernel
theorem dX0_aboutRule_76 : decode cX0_aboutRule 76 = .ok (.getfield 15, 3) := by decide +kernel
theorem dX0_aboutRule_79 : decode cX0_aboutRule 79 = .ok (.iload_n 1, 1) := by decide +kernel
theorem dX0_aboutRule_80 : decode cX0_aboutRule 80 = .ok (.iaload, 1) := by decide +kernel
theorem dX0_aboutRule_81 : decode cX0_aboutRule 81 = .ok (.ireturn, 1) := by decide +kernel
theorem dX0_aboutRule_82 : decode cX0_aboutRule 82 = .ok (.aload_n 0, 1) := by decide +kernel
theorem dX0_aboutRule_83 : decode cX0_aboutRule 83 = .ok (.iload_n 1, 1) := by decide +kernel
theorem dX0_aboutRule_84 : decode cX0_aboutRule 84 = .ok (.invokevirtual 85, 3) := by decide +kernel
theorem dX0_aboutRule_87 : decode cX0_aboutRule 87 = .ok (.ireturn, 1) := by decide +kernel
theorem dX0_aboutRule_88 : decode cX0_aboutRule 88 = .ok (.aload_n 0, 1) := by decide +kernel
theorem dX0_aboutRule_89 : decode cX0_aboutRule 89 = .ok (.getfield 18, 3) := by decide +kernel
theorem dX0_aboutRule_92 : decode cX0_aboutRule 92 = .ok (.iload_n 1, 1) := by decide +kernel
theorem dX0_aboutRule_93 : decode cX0_aboutRule 93 = .ok (.iaload, 1) := by decide +kernel
theorem dX0_aboutRule_94 : decode cX0_aboutRule 94 = .ok (.ireturn, 1) := by decide +kernel
theorem dX0_aboutRule_95 : decode cX0_aboutRule 95 = .ok (.aload_n 0, 1) := by decide +kernel
theorem dX0_aboutRule_96 : decode cX0_aboutRule 96 = .ok (.getfield 21, 3) := by decide +kernel
theorem dX0_aboutRule_99 : decode cX0_aboutRule 99 = .ok (.iload_n 1, 1) := by decide +kernel
theorem dX0_aboutRule_100 : decode cX0_aboutRule 100 = .ok (.iaload, 1) := by decide +kernel
theorem dX0_aboutRule_101 : decode cX0_aboutRule 101 = .ok (.ireturn, 1) := by decide +kernel
theorem dX0_aboutRule_102 : decode cX0_aboutRule 102 = .ok (.aload_n 0, 1) := by decide +kernel
theorem dX0_aboutRule_103 : decode cX0_aboutRule 103 = .ok (.getfield 24, 3) := by decide +kernel
theorem dX0_aboutRule_106 : decode cX0_aboutRule 106 = .ok (.iload_n 1, 1) := by decide +kernel
theorem dX0_aboutRule_107 : decode cX0_aboutRule 107 = .ok (.iaload, 1) := by decide +kernel
theorem dX0_aboutRule_108 : decode cX0_aboutRule 108 = .ok (.ireturn, 1) := by decide +kernel
theorem dX0_aboutRule_109 : decode cX0_aboutRule 109 = .ok (.aload_n 0, 1) := by decide +kernel
theorem dX0_aboutRule_110 : decode cX0_aboutRule 110 = .ok (.getfield 27, 3) := by decide +kernel
theorem dX0_aboutRule_113 : decode cX0_aboutRule 113 = .ok (.iload_n 1, 1) := by decide +kernel
theorem dX0_aboutRule_114 : decode cX0_aboutRule 114 = .ok (.iaload, 1) := by decide +kernel
theorem dX0_aboutRule_115 : decode cX0_aboutRule 115 = .ok (.ireturn, 1) := by decide +kernel
theorem dX0_aboutRule_116 : decode cX0_aboutRule 116 = .ok (.aload_n 0, 1) := by decide +kernel
theorem dX0_aboutRule_117 : decode cX0_aboutRule 117 = .ok (.getfield 30, 3) := by decide +kernel
theorem dX0_aboutRule_120 : decode cX0_aboutRule 120 = .ok (.iload_n 1, 1) := by decide +kernel
theorem dX0_aboutRule_121 : decode cX0_aboutRule 121 = .ok (.iaload, 1) := by decide +kernel
theorem dX0_aboutRule_122 : decode cX0_aboutRule 122 = .ok (.ireturn, 1) := by decide +kernel
theorem dX0_aboutRule_123 : decode cX0_aboutRule 123 = .ok (.aload_n 0, 1) := by decide +kernel
theorem dX0_aboutRule_124 : decode cX0_aboutRule 124 = .ok (.getfield 33, 3) := by decide +kernel
theorem dX0_aboutRule_127 : decode cX0_aboutRule 127 = .ok (.iload_n 1, 1) := by decide +kernel
theorem dX0_aboutRule_128 : decode cX0_aboutRule 128 = .ok (.iaload, 1) := by decide +kernel
theorem dX0_aboutRule_129 : decode cX0_aboutRule 129 = .ok (.ireturn, 1) := by decide +kernel
theorem dX0_aboutRule_130 : decode cX0_aboutRule 130 = .ok (.aload_n 0, 1) := by decide +kernel
theorem dX0_aboutRule_131 : decode cX0_aboutRule 131 = .ok (.getfield 36, 3) := by decide +kernel
theorem dX0_aboutRule_134 : decode cX0_aboutRule 134 = .ok (.iload_n 1, 1) := by decide +kernel
theorem dX0_aboutRule_135 : decode cX0_aboutRule 135 = .ok (.iaload, 1) := by decide +kernel
theorem dX0_aboutRule_136 : decode cX0_aboutRule 136 = .ok (.ireturn, 1) := by decide +kernel
theorem dX0_aboutRule_137 : decode cX0_aboutRule 137 = .ok (.aload_n 0, 1) := by decide +kernel
theorem dX0_aboutRule_138 : decode cX0_aboutRule 138 = .ok (.getfield 39, 3) := by decide +kernel
theorem dX0_aboutRule_141 : decode cX0_aboutRule 141 = .ok (.iload_n 1, 1) := by decide +kernel
theorem dX0_aboutRule_142 : decode cX0_aboutRule 142 = .ok (.iaload, 1) := by decide +kernel
theorem dX0_aboutRule_143 : decode cX0_aboutRule 143 = .ok (.ireturn, 1) := by decide +kernel
theorem dX0_aboutRule_144 : decode cX0_aboutRule 144 = .ok (.aload_n 0, 1) := by decide +kernel
theorem dX0_aboutRule_145 : decode cX0_aboutRule 145 = .ok (.getfield 42, 3) := by decide +kernel
theorem dX0_aboutRule_148 : decode cX0_aboutRule 148 = .ok (.iload_n 1, 1) := by decide +kernel
theorem dX0_aboutRule_149 : decode cX0_aboutRule 149 = .ok (.iaload, 1) := by decide +kernel
theorem dX0_aboutRule_150 : decode cX0_aboutRule 150 = .ok (.ireturn, 1) := by decide +kernel
