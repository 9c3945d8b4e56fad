theorem dX0_init_0 : decode cX0_init 0 = .ok (.aload_n 0, 1) := by decide +kernel
theorem dX0_init_1 : decode cX0_init 1 = .ok (.invokespecial 3, 3) := by decide +kernel
theorem dX0_init_4 : decode cX0_init 4 = .ok (.aload_n 0, 1) := by decide +kernel
theorem dX0_init_5 : decode cX0_init 5 = .ok (.new 9, 3) := by decide +kernel
theorem dX0_init_8 : decode cX0_init 8 = .ok (.dup, 1) := by decide +kernel
theorem dX0_init_9 : decode cX0_init 9 = .ok (.invokespecial 11, 3) := by decide +kernel
theorem dX0_init_12 : decode cX0_init 12 = .ok (.putfield 12, 3) := by decide +kernel
theorem dX0_init_15 : decode cX0_init 15 = .ok (.aload_n 0, 1) := by decide +kernel
theorem dX0_init_16 : decode cX0_init 16 = .ok (.iconst 0, 1) := by decide +kernel
theorem dX0_init_17 : decode cX0_init 17 = .ok (.putfield 18, 3) := by decide +kernel
theorem dX0_init_20 : decode cX0_init 20 = .ok (.aload_n 0, 1) := by decide +kernel
theorem dX0_init_21 : decode cX0_init 21 = .ok (.iconst 0, 1) := by decide +kernel
theorem dX0_init_22 : decode cX0_init 22 = .ok (.putfield 22, 3) := by decide +kernel
theorem dX0_init_25 : decode cX0_init 25 = .ok (.aload_n 0, 1) := by decide +kernel
theorem dX0_init_26 : decode cX0_init 26 = .ok (.iconst (-1), 1) := by decide +kernel
theorem dX0_init_27 : decode cX0_init 27 = .ok (.putfield 25, 3) := by decide +kernel
theorem dX0_init_30 : decode cX0_init 30 = .ok (.return_, 1) := by decide +kernel
theorem dX1_init_0 : decode cX1_init 0 = .ok (.aload_n 0, 1) := by decide +kernel
theorem dX1_init_1 : decode cX1_init 1 = .ok (.invokespecial 3, 3) := by decide +kernel
theorem dX1_init_4 : decode cX1_init 4 = .ok (.aload_n 0, 1) := by decide +kernel
theorem dX1_init_5 : decode cX1_init 5 = .ok (.bipush 8, 2) := by decide +kernel
theorem dX1_init_7 : decode cX1_init 7 = .ok (.anewarray 9, 3) := by decide +kernel
theorem dX1_init_10 : decode cX1_init 10 = .ok (.putfield 11, 3) := by decide +kernel
theorem dX1_init_13 : decode cX1_init 13 = .ok (.aload_n 0, 1) := by decide +kernel
theorem dX1_init_14 : decode cX1_init 14 = .ok (.iconst 0, 1) := by decide +kernel
theorem dX1_init_15 : decode cX1_init 15 = .ok (.putfield 17, 3) := by decide +kernel
theorem dX1_init_18 : decode cX1_init 18 = .ok (.aload_n 0, 1) := by decide +kernel
theorem dX1_init_19 : decode cX1_init 19 = .ok (.iconst 0, 1) := by decide +kernel
theorem dX1_init_20 : decode cX1_init 20 = .ok (.putfield 21, 3) := by decide +kernel
theorem dX1_init_23 : decode cX1_init 23 = .ok (.iconst 0, 1) := by decide +kernel
theorem dX1_init_24 : decode cX1_init 24 = .ok (.istore_n 1, 1) := by decide +kernel
theorem dX1_init_25 : decode cX1_init 25 = .ok (.iload_n 1, 1) := by decide +kernel
theorem dX1_init_26 : decode cX1_init 26 = .ok (.bipush 8, 2) := by decide +kernel
theorem dX1_init_28 : decode cX1_init 28 = .ok (.if_icmp .ge 22, 3) := by decide +kernel
theorem dX1_init_31 : decode cX1_init 31 = .ok (.aload_n 0, 1) := by decide +kernel
theorem dX1_init_32 : decode cX1_init 32 = .ok (.getfield 11, 3) := by decide +kernel
theorem dX1_init_35 : decode cX1_init 35 = .ok (.iload_n 1, 1) := by decide +kernel
theorem dX1_init_36 : decode cX1_init 36 = .ok (.new 9, 3) := by decide +kernel
theorem dX1_init_39 : decode cX1_init 39 = .ok (.dup, 1) := by decide +kernel
theorem dX1_init_40 : decode cX1_init 40 = .ok (.invokespecial 24, 3) := by decide +kernel
theorem dX1_init_43 : decode cX1_init 43 = .ok (.aastore, 1) := by decide +kernel
theorem dX1_init_44 : decode cX1_init 44 = .ok (.iinc 1 1, 3) := by decide +kernel
theorem dX1_init_47 : decode cX1_init 47 = .ok (.goto (-22), 3) := by decide +kernel
theorem dX1_init_50 : decode cX1_init 50 = .ok (.return_, 1) := by decide +kernel
theorem dX1_put_0 : decode cX1_put 0 = .ok (.aload_n 0, 1) := by decide +kernel
theorem dX1_put_1 : decode cX1_put 1 = .ok (.getfield 21, 3) := by decide +kernel
theorem dX1_put_4 : decode cX1_put 4 = .ok (.bipush 8, 2) := by decide +kernel
theorem dX1_put_6 : decode cX1_put 6 = .ok (.if_icmp .lt 5, 3) := by decide +kernel
theorem dX1_put_9 : decode cX1_put 9 = .ok (.iconst 0, 1) := by decide +kernel
theorem dX1_put_10 : decode cX1_put 10 = .ok (.ireturn, 1) := by decide +kernel
theorem dX1_put_11 : decode cX1_put 11 = .ok (.aload_n 0, 1) := by decide +kernel
theorem dX1_put_12 : decode cX1_put 12 = .ok (.getfield 11, 3) := by decide +kernel
theorem dX1_put_15 : decode cX1_put 15 = .ok (.aload_n 0, 1) := by decide +kernel
theorem dX1_put_16 : decode cX1_put 16 = .ok (.getfield 17, 3) := by decide +kernel
theorem dX1_put_19 : decode cX1_put 19 = .ok (.aload_n 0, 1) := by decide +kernel
theorem dX1_put_20 : decode cX1_put 20 = .ok (.getfield 21, 3) := by decide +kernel
theorem dX1_put_23 : decode cX1_put 23 = .ok (.iadd, 1) := by decide +kernel
theorem dX1_put_24 : decode cX1_put 24 = .ok (.bipush 8, 2) := by decide +kernel
theorem dX1_put_26 : decode cX1_put 26 = .ok (.irem, 1) := by decide +kernel
theorem dX1_put_27 : decode cX1_put 27 = .ok (.aaload, 1) := by decide +kernel
theorem dX1_put_28 : decode cX1_put 28 = .ok (.astore 4, 2) := by decide +kernel
theorem dX1_put_30 : decode cX1_put 30 = .ok (.aload 4, 2) := by decide +kernel
theorem dX1_put_32 : decode cX1_put 32 = .ok (.getfield 25, 3) := by decide +kernel
theorem dX1_put_35 : decode cX1_put 35 = .ok (.aload_n 1, 1) := by decide +kernel
theorem dX1_put_36 : decode cX1_put 36 = .ok (.getfield 29, 3) := by decide +kernel
theorem dX1_put_39 : decode cX1_put 39 = .ok (.invokevirtual 32, 3) := by decide +kernel
theorem dX1_put_42 : decode cX1_put 42 = .ok (.aload 4, 2) := by decide +kernel
theorem dX1_put_44 : decode cX1_put 44 = .ok (.aload_n 1, 1) := by decide +kernel
theorem dX1_put_45 : decode cX1_put 45 = .ok (.getfield 38, 3) := by decide +kernel
theorem dX1_put_48 : decode cX1_put 48 = .ok (.putfield 41, 3) := by decide +kernel
theorem dX1_put_51 : decode cX1_put 51 = .ok (.aload 4, 2) := by decide +kernel
theorem dX1_put_53 : decode cX1_put 53 = .ok (.iload_n 2, 1) := by decide +kernel
theorem dX1_put_54 : decode cX1_put 54 = .ok (.putfield 44, 3) := by decide +kernel
theorem dX1_put_57 : decode cX1_put 57 = .ok (.aload 4, 2) := by decide +kernel
theorem dX1_put_59 : decode cX1_put 59 = .ok (.iload_n 3, 1) := by decide +kernel
theorem dX1_put_60 : decode cX1_put 60 = .ok (.putfield 47, 3) := by decide +kernel
theorem dX1_put_63 : decode cX1_put 63 = .ok (.aload_n 0, 1) := by decide +kernel
theorem dX1_put_64 : decode cX1_put 64 = .ok (.dup, 1) := by decide +kernel
theorem dX1_put_65 : decode cX1_put 65 = .ok (.getfield 21, 3) := by decide +kernel
theorem dX1_put_68 : decode cX1_put 68 = .ok (.iconst 1, 1) := by decide +kernel
theorem dX1_put_69 : decode cX1_put 69 = .ok (.iadd, 1) := by decide +kernel
theorem dX1_put_70 : decode cX1_put 70 = .ok (.putfield 21, 3) := by decide +kernel
theorem dX1_put_73 : decode cX1_put 73 = .ok (.iconst 1, 1) := by decide +kernel
theorem dX1_put_74 : decode cX1_put 74 = .ok (.ireturn, 1) := by decide +kernel
theorem dX1_take_0 : decode cX1_take 0 = .ok (.aload_n 0, 1) := by decide +kernel
theorem dX1_take_1 : decode cX1_take 1 = .ok (.getfield 21, 3) := by decide +kernel
theorem dX1_take_4 : decode cX1_take 4 = .ok (.istore_n 2, 1) := by decide +kernel
theorem dX1_take_5 : decode cX1_take 5 = .ok (.iload_n 2, 1) := by decide +kernel
theorem dX1_take_6 : decode cX1_take 6 = .ok (.ifCond .le 55, 3) := by decide +kernel
theorem dX1_take_9 : decode cX1_take 9 = .ok (.aload_n 0, 1) := by decide +kernel
theorem dX1_take_10 : decode cX1_take 10 = .ok (.getfield 11, 3) := by decide +kernel
theorem dX1_take_13 : decode cX1_take 13 = .ok (.aload_n 0, 1) := by decide +kernel
theorem dX1_take_14 : decode cX1_take 14 = .ok (.getfield 17, 3) := by decide +kernel
theorem dX1_take_17 : decode cX1_take 17 = .ok (.aaload, 1) := by decide +kernel
theorem dX1_take_18 : decode cX1_take 18 = .ok (.astore_n 3, 1) := by decide +kernel
theorem dX1_take_19 : decode cX1_take 19 = .ok (.aload_n 0, 1) := by decide +kernel
theorem dX1_take_20 : decode cX1_take 20 = .ok (.aload_n 0, 1) := by decide +kernel
theorem dX1_take_21 : decode cX1_take 21 = .ok (.getfield 17, 3) := by decide +kernel
theorem dX1_take_24 : decode cX1_take 24 = .ok (.iconst 1, 1) := by decide +kernel
theorem dX1_take_25 : decode cX1_take 25 = .ok (.iadd, 1) := by decide +kernel
theorem dX1_take_26 : decode cX1_take 26 = .ok (.bipush 8, 2) := by decide +kernel
theorem dX1_take_28 : decode cX1_take 28 = .ok (.irem, 1) := by decide +kernel
theorem dX1_take_29 : decode cX1_take 29 = .ok (.putfield 17, 3) := by decide +kernel
theorem dX1_take_32 : decode cX1_take 32 = .ok (.aload_n 0, 1) := by decide +kernel
theorem dX1_take_33 : decode cX1_take 33 = .ok (.dup, 1) := by decide +kernel
theorem dX1_take_34 : decode cX1_take 34 = .ok (.getfield 21, 3) := by decide +kernel
theorem dX1_take_37 : decode cX1_take 37 = .ok (.iconst 1, 1) := by decide +kernel
theorem dX1_take_38 : decode cX1_take 38 = .ok (.isub, 1) := by decide +kernel
theorem dX1_take_39 : decode cX1_take 39 = .ok (.putfield 21, 3) := by decide +kernel
theorem dX1_take_42 : decode cX1_take 42 = .ok (.aload_n 3, 1) := by decide +kernel
theorem dX1_take_43 : decode cX1_take 43 = .ok (.getfield 25, 3) := by decide +kernel
theorem dX1_take_46 : decode cX1_take 46 = .ok (.aload_n 1, 1) := by decide +kernel
theorem dX1_take_47 : decode cX1_take 47 = .ok (.invokevirtual 50, 3) := by decide +kernel
theorem dX1_take_50 : decode cX1_take 50 = .ok (.ifCond .eq 5, 3) := by decide +kernel
theorem dX1_take_53 : decode cX1_take 53 = .ok (.aload_n 3, 1) := by decide +kernel
theorem dX1_take_54 : decode cX1_take 54 = .ok (.areturn, 1) := by decide +kernel
theorem dX1_take_55 : decode cX1_take 55 = .ok (.iinc 2 (-1), 3) := by decide +kernel
theorem dX1_take_58 : decode cX1_take 58 = .ok (.goto (-53), 3) := by decide +kernel
theorem dX1_take_61 : decode cX1_take 61 = .ok (.aconst_null, 1) := by decide +kernel
theorem dX1_take_62 : decode cX1_take 62 = .ok (.areturn, 1) := by decide +kernel
theorem dX2_init_0 : decode cX2_init 0 = .ok (.aload_n 0, 1) := by decide +kernel
theorem dX2_init_1 : decode cX2_init 1 = .ok (.invokespecial 3, 3) := by decide +kernel
theorem dX2_init_4 : decode cX2_init 4 = .ok (.aload_n 0, 1) := by decide +kernel
theorem dX2_init_5 : decode cX2_init 5 = .ok (.sipush 128, 3) := by decide +kernel
theorem dX2_init_8 : decode cX2_init 8 = .ok (.newarray .int, 2) := by decide +kernel
theorem dX2_init_10 : decode cX2_init 10 = .ok (.putfield 9, 3) := by decide +kernel
theorem dX2_init_13 : decode cX2_init 13 = .ok (.aload_n 0, 1) := by decide +kernel
theorem dX2_init_14 : decode cX2_init 14 = .ok (.iconst 0, 1) := by decide +kernel
theorem dX2_init_15 : decode cX2_init 15 = .ok (.putfield 15, 3) := by decide +kernel
theorem dX2_init_18 : decode cX2_init 18 = .ok (.aload_n 0, 1) := by decide +kernel
theorem dX2_init_19 : decode cX2_init 19 = .ok (.iconst 0, 1) := by decide +kernel
theorem dX2_init_20 : decode cX2_init 20 = .ok (.putfield 19, 3) := by decide +kernel
theorem dX2_init_23 : decode cX2_init 23 = .ok (.aload_n 0, 1) := by decide +kernel
theorem dX2_init_24 : decode cX2_init 24 = .ok (.iconst 0, 1) := by decide +kernel
theorem dX2_init_25 : decode cX2_init 25 = .ok (.putfield 22, 3) := by decide +kernel
theorem dX2_init_28 : decode cX2_init 28 = .ok (.aload_n 0, 1) := by decide +kernel
theorem dX2_init_29 : decode cX2_init 29 = .ok (.iconst 0, 1) := by decide +kernel
theorem dX2_init_30 : decode cX2_init 30 = .ok (.putfield 25, 3) := by decide +kernel
theorem dX2_init_33 : decode cX2_init 33 = .ok (.aload_n 0, 1) := by decide +kernel
theorem dX2_init_34 : decode cX2_init 34 = .ok (.iconst 0, 1) := by decide +kernel
theorem dX2_init_35 : decode cX2_init 35 = .ok (.putfield 28, 3) := by decide +kernel
theorem dX2_init_38 : decode cX2_init 38 = .ok (.aload_n 0, 1) := by decide +kernel
theorem dX2_init_39 : decode cX2_init 39 = .ok (.new 31, 3) := by decide +kernel
theorem dX2_init_42 : decode cX2_init 42 = .ok (.dup, 1) := by decide +kernel
theorem dX2_init_43 : decode cX2_init 43 = .ok (.invokespecial 33, 3) := by decide +kernel
theorem dX2_init_46 : decode cX2_init 46 = .ok (.putfield 34, 3) := by decide +kernel
theorem dX2_init_49 : decode cX2_init 49 = .ok (.aload_n 0, 1) := by decide +kernel
theorem dX2_init_50 : decode cX2_init 50 = .ok (.new 31, 3) := by decide +kernel
theorem dX2_init_53 : decode cX2_init 53 = .ok (.dup, 1) := by decide +kernel
theorem dX2_init_54 : decode cX2_init 54 = .ok (.invokespecial 33, 3) := by decide +kernel
theorem dX2_init_57 : decode cX2_init 57 = .ok (.putfield 38, 3) := by decide +kernel
theorem dX2_init_60 : decode cX2_init 60 = .ok (.aload_n 0, 1) := by decide +kernel
theorem dX2_init_61 : decode cX2_init 61 = .ok (.new 31, 3) := by decide +kernel
theorem dX2_init_64 : decode cX2_init 64 = .ok (.dup, 1) := by decide +kernel
theorem dX2_init_65 : decode cX2_init 65 = .ok (.invokespecial 33, 3) := by decide +kernel
theorem dX2_init_68 : decode cX2_init 68 = .ok (.putfield 41, 3) := by decide +kernel
theorem dX2_init_71 : decode cX2_init 71 = .ok (.aload_n 0, 1) := by decide +kernel
theorem dX2_init_72 : decode cX2_init 72 = .ok (.new 44, 3) := by decide +kernel
theorem dX2_init_75 : decode cX2_init 75 = .ok (.dup, 1) := by decide +kernel
theorem dX2_init_76 : decode cX2_init 76 = .ok (.invokespecial 46, 3) := by decide +kernel
theorem dX2_init_79 : decode cX2_init 79 = .ok (.putfield 47, 3) := by decide +kernel
theorem dX2_init_82 : decode cX2_init 82 = .ok (.aload_n 0, 1) := by decide +kernel
theorem dX2_init_83 : decode cX2_init 83 = .ok (.bipush 8, 2) := by decide +kernel
theorem dX2_init_85 : decode cX2_init 85 = .ok (.anewarray 51, 3) := by decide +kernel
theorem dX2_init_88 : decode cX2_init 88 = .ok (.putfield 53, 3) := by decide +kernel
theorem dX2_init_91 : decode cX2_init 91 = .ok (.aload_n 0, 1) := by decide +kernel
theorem dX2_init_92 : decode cX2_init 92 = .ok (.bipush 64, 2) := by decide +kernel
theorem dX2_init_94 : decode cX2_init 94 = .ok (.newarray .int, 2) := by decide +kernel
theorem dX2_init_96 : decode cX2_init 96 = .ok (.putfield 57, 3) := by decide +kernel
theorem dX2_init_99 : decode cX2_init 99 = .ok (.aload_n 0, 1) := by decide +kernel
theorem dX2_init_100 : decode cX2_init 100 = .ok (.bipush 64, 2) := by decide +kernel
theorem dX2_init_102 : decode cX2_init 102 = .ok (.newarray .int, 2) := by decide +kernel
theorem dX2_init_104 : decode cX2_init 104 = .ok (.putfield 60, 3) := by decide +kernel
theorem dX2_init_107 : decode cX2_init 107 = .ok (.aload_n 0, 1) := by decide +kernel
theorem dX2_init_108 : decode cX2_init 108 = .ok (.iconst 0, 1) := by decide +kernel
theorem dX2_init_109 : decode cX2_init 109 = .ok (.putfield 63, 3) := by decide +kernel
theorem dX2_init_112 : decode cX2_init 112 = .ok (.aload_n 0, 1) := by decide +kernel
theorem dX2_init_113 : decode cX2_init 113 = .ok (.iload_n 1, 1) := by decide +kernel
theorem dX2_init_114 : decode cX2_init 114 = .ok (.putfield 66, 3) := by decide +kernel
theorem dX2_init_117 : decode cX2_init 117 = .ok (.iconst 0, 1) := by decide +kernel
theorem dX2_init_118 : decode cX2_init 118 = .ok (.istore_n 2, 1) := by decide +kernel
theorem dX2_init_119 : decode cX2_init 119 = .ok (.iload_n 2, 1) := by decide +kernel
theorem dX2_init_120 : decode cX2_init 120 = .ok (.bipush 8, 2) := by decide +kernel
theorem dX2_init_122 : decode cX2_init 122 = .ok (.if_icmp .ge 22, 3) := by decide +kernel
theorem dX2_init_125 : decode cX2_init 125 = .ok (.aload_n 0, 1) := by decide +kernel
theorem dX2_init_126 : decode cX2_init 126 = .ok (.getfield 53, 3) := by decide +kernel
theorem dX2_init_129 : decode cX2_init 129 = .ok (.iload_n 2, 1) := by decide +kernel
theorem dX2_init_130 : decode cX2_init 130 = .ok (.new 51, 3) := by decide +kernel
theorem dX2_init_133 : decode cX2_init 133 = .ok (.dup, 1) := by decide +kernel
theorem dX2_init_134 : decode cX2_init 134 = .ok (.invokespecial 69, 3) := by decide +kernel
theorem dX2_init_137 : decode cX2_init 137 = .ok (.aastore, 1) := by decide +kernel
theorem dX2_init_138 : decode cX2_init 138 = .ok (.iinc 2 1, 3) := by decide +kernel
theorem dX2_init_141 : decode cX2_init 141 = .ok (.goto (-22), 3) := by decide +kernel
theorem dX2_init_144 : decode cX2_init 144 = .ok (.return_, 1) := by decide +kernel
theorem dX2_stopBy_0 : decode cX2_stopBy 0 = .ok (.aload_n 0, 1) := by decide +kernel
theorem dX2_stopBy_1 : decode cX2_stopBy 1 = .ok (.iconst 3, 1) := by decide +kernel
theorem dX2_stopBy_2 : decode cX2_stopBy 2 = .ok (.putfield 22, 3) := by decide +kernel
theorem dX2_stopBy_5 : decode cX2_stopBy 5 = .ok (.aload_n 0, 1) := by decide +kernel
theorem dX2_stopBy_6 : decode cX2_stopBy 6 = .ok (.iload_n 1, 1) := by decide +kernel
theorem dX2_stopBy_7 : decode cX2_stopBy 7 = .ok (.putfield 25, 3) := by decide +kernel
theorem dX2_stopBy_10 : decode cX2_stopBy 10 = .ok (.return_, 1) := by decide +kernel
theorem dX2_capabilities_0 : decode cX2_capabilities 0 = .ok (.iload_n 1, 1) := by decide +kernel
theorem dX2_capabilities_1 : decode cX2_capabilities 1 = .ok (.ifCond .ne 10, 3) := by decide +kernel
theorem dX2_capabilities_4 : decode cX2_capabilities 4 = .ok (.aload_n 0, 1) := by decide +kernel
theorem dX2_capabilities_5 : decode cX2_capabilities 5 = .ok (.getfield 38, 3) := by decide +kernel
theorem dX2_capabilities_8 : decode cX2_capabilities 8 = .ok (.goto 7, 3) := by decide +kernel
theorem dX2_capabilities_11 : decode cX2_capabilities 11 = .ok (.aload_n 0, 1) := by decide +kernel
theorem dX2_capabilities_12 : decode cX2_capabilities 12 = .ok (.getfield 41, 3) := by decide +kernel
theorem dX2_capabilities_15 : decode cX2_capabilities 15 = .ok (.areturn, 1) := by decide +kernel
theorem dX2_countFiles_0 : decode cX2_countFiles 0 = .ok (.iconst 0, 1) := by decide +kernel
theorem dX2_countFiles_1 : decode cX2_countFiles 1 = .ok (.istore_n 1, 1) := by decide +kernel
theorem dX2_countFiles_2 : decode cX2_countFiles 2 = .ok (.iconst 0, 1) := by decide +kernel
theorem dX2_countFiles_3 : decode cX2_countFiles 3 = .ok (.istore_n 2, 1) := by decide +kernel
theorem dX2_countFiles_4 : decode cX2_countFiles 4 = .ok (.iload_n 2, 1) := by decide +kernel
theorem dX2_countFiles_5 : decode cX2_countFiles 5 = .ok (.bipush 8, 2) := by decide +kernel
theorem dX2_countFiles_7 : decode cX2_countFiles 7 = .ok (.if_icmp .ge 24, 3) := by decide +kernel
theorem dX2_countFiles_10 : decode cX2_countFiles 10 = .ok (.aload_n 0, 1) := by decide +kernel
theorem dX2_countFiles_11 : decode cX2_countFiles 11 = .ok (.getfield 53, 3) := by decide +kernel
theorem dX2_countFiles_14 : decode cX2_countFiles 14 = .ok (.iload_n 2, 1) := by decide +kernel
theorem dX2_countFiles_15 : decode cX2_countFiles 15 = .ok (.aaload, 1) := by decide +kernel
theorem dX2_countFiles_16 : decode cX2_countFiles 16 = .ok (.getfield 70, 3) := by decide +kernel
theorem dX2_countFiles_19 : decode cX2_countFiles 19 = .ok (.ifCond .eq 6, 3) := by decide +kernel
theorem dX2_countFiles_22 : decode cX2_countFiles 22 = .ok (.iinc 1 1, 3) := by decide +kernel
theorem dX2_countFiles_25 : decode cX2_countFiles 25 = .ok (.iinc 2 1, 3) := by decide +kernel
theorem dX2_countFiles_28 : decode cX2_countFiles 28 = .ok (.goto (-24), 3) := by decide +kernel
theorem dX2_countFiles_31 : decode cX2_countFiles 31 = .ok (.iload_n 1, 1) := by decide +kernel
theorem dX2_countFiles_32 : decode cX2_countFiles 32 = .ok (.ireturn, 1) := by decide +kernel
theorem dX2_newTag_0 : decode cX2_newTag 0 = .ok (.aload_n 0, 1) := by decide +kernel
theorem dX2_newTag_1 : decode cX2_newTag 1 = .ok (.getfield 28, 3) := by decide +kernel
theorem dX2_newTag_4 : decode cX2_newTag 4 = .ok (.bipush 32, 2) := by decide +kernel
theorem dX2_newTag_6 : decode cX2_newTag 6 = .ok (.if_icmp .ge 27, 3) := by decide +kernel
theorem dX2_newTag_9 : decode cX2_newTag 9 = .ok (.aload_n 0, 1) := by decide +kernel
theorem dX2_newTag_10 : decode cX2_newTag 10 = .ok (.getfield 38, 3) := by decide +kernel
theorem dX2_newTag_13 : decode cX2_newTag 13 = .ok (.getfield 74, 3) := by decide +kernel
theorem dX2_newTag_16 : decode cX2_newTag 16 = .ok (.bipush 40, 2) := by decide +kernel
theorem dX2_newTag_18 : decode cX2_newTag 18 = .ok (.if_icmp .ge 15, 3) := by decide +kernel
theorem dX2_newTag_21 : decode cX2_newTag 21 = .ok (.aload_n 0, 1) := by decide +kernel
theorem dX2_newTag_22 : decode cX2_newTag 22 = .ok (.getfield 41, 3) := by decide +kernel
theorem dX2_newTag_25 : decode cX2_newTag 25 = .ok (.getfield 74, 3) := by decide +kernel
theorem dX2_newTag_28 : decode cX2_newTag 28 = .ok (.bipush 40, 2) := by decide +kernel
theorem dX2_newTag_30 : decode cX2_newTag 30 = .ok (.if_icmp .lt 5, 3) := by decide +kernel
theorem dX2_newTag_33 : decode cX2_newTag 33 = .ok (.iconst (-1), 1) := by decide +kernel
theorem dX2_newTag_34 : decode cX2_newTag 34 = .ok (.ireturn, 1) := by decide +kernel
theorem dX2_newTag_35 : decode cX2_newTag 35 = .ok (.bipush 32, 2) := by decide +kernel
theorem dX2_newTag_37 : decode cX2_newTag 37 = .ok (.aload_n 0, 1) := by decide +kernel
theorem dX2_newTag_38 : decode cX2_newTag 38 = .ok (.getfield 66, 3) := by decide +kernel
theorem dX2_newTag_41 : decode cX2_newTag 41 = .ok (.imul, 1) := by decide +kernel
theorem dX2_newTag_42 : decode cX2_newTag 42 = .ok (.aload_n 0, 1) := by decide +kernel
theorem dX2_newTag_43 : decode cX2_newTag 43 = .ok (.getfield 28, 3) := by decide +kernel
theorem dX2_newTag_46 : decode cX2_newTag 46 = .ok (.iadd, 1) := by decide +kernel
theorem dX2_newTag_47 : decode cX2_newTag 47 = .ok (.istore_n 1, 1) := by decide +kernel
theorem dX2_newTag_48 : decode cX2_newTag 48 = .ok (.aload_n 0, 1) := by decide +kernel
theorem dX2_newTag_49 : decode cX2_newTag 49 = .ok (.dup, 1) := by decide +kernel
theorem dX2_newTag_50 : decode cX2_newTag 50 = .ok (.getfield 28, 3) := by decide +kernel
theorem dX2_newTag_53 : decode cX2_newTag 53 = .ok (.iconst 1, 1) := by decide +kernel
theorem dX2_newTag_54 : decode cX2_newTag 54 = .ok (.iadd, 1) := by decide +kernel
theorem dX2_newTag_55 : decode cX2_newTag 55 = .ok (.putfield 28, 3) := by decide +kernel
theorem dX2_newTag_58 : decode cX2_newTag 58 = .ok (.aload_n 0, 1) := by decide +kernel
theorem dX2_newTag_59 : decode cX2_newTag 59 = .ok (.getfield 38, 3) := by decide +kernel
theorem dX2_newTag_62 : decode cX2_newTag 62 = .ok (.iload_n 1, 1) := by decide +kernel
theorem dX2_newTag_63 : decode cX2_newTag 63 = .ok (.invokevirtual 77, 3) := by decide +kernel
theorem dX2_newTag_66 : decode cX2_newTag 66 = .ok (.aload_n 0, 1) := by decide +kernel
theorem dX2_newTag_67 : decode cX2_newTag 67 = .ok (.getfield 41, 3) := by decide +kernel
theorem dX2_newTag_70 : decode cX2_newTag 70 = .ok (.iload_n 1, 1) := by decide +kernel
theorem dX2_newTag_71 : decode cX2_newTag 71 = .ok (.invokevirtual 77, 3) := by decide +kernel
theorem dX2_newTag_74 : decode cX2_newTag 74 = .ok (.iload_n 1, 1) := by decide +kernel
theorem dX2_newTag_75 : decode cX2_newTag 75 = .ok (.ireturn, 1) := by decide +kernel
theorem dX2_relabel_0 : decode cX2_relabel 0 = .ok (.aload_n 1, 1) := by decide +kernel
theorem dX2_relabel_1 : decode cX2_relabel 1 = .ok (.aload_n 0, 1) := by decide +kernel
theorem dX2_relabel_2 : decode cX2_relabel 2 = .ok (.getfield 34, 3) := by decide +kernel
theorem dX2_relabel_5 : decode cX2_relabel 5 = .ok (.aload_n 0, 1) := by decide +kernel
theorem dX2_relabel_6 : decode cX2_relabel 6 = .ok (.getfield 38, 3) := by decide +kernel
theorem dX2_relabel_9 : decode cX2_relabel 9 = .ok (.invokevirtual 81, 3) := by decide +kernel
theorem dX2_relabel_12 : decode cX2_relabel 12 = .ok (.ifCond .eq 18, 3) := by decide +kernel
theorem dX2_relabel_15 : decode cX2_relabel 15 = .ok (.aload_n 0, 1) := by decide +kernel
theorem dX2_relabel_16 : decode cX2_relabel 16 = .ok (.getfield 34, 3) := by decide +kernel
theorem dX2_relabel_19 : decode cX2_relabel 19 = .ok (.aload_n 1, 1) := by decide +kernel
theorem dX2_relabel_20 : decode cX2_relabel 20 = .ok (.aload_n 0, 1) := by decide +kernel
theorem dX2_relabel_21 : decode cX2_relabel 21 = .ok (.getfield 41, 3) := by decide +kernel
theorem dX2_relabel_24 : decode cX2_relabel 24 = .ok (.invokevirtual 81, 3) := by decide +kernel
theorem dX2_relabel_27 : decode cX2_relabel 27 = .ok (.ifCond .ne 5, 3) := by decide +kernel
theorem dX2_relabel_30 : decode cX2_relabel 30 = .ok (.iconst 0, 1) := by decide +kernel
theorem dX2_relabel_31 : decode cX2_relabel 31 = .ok (.ireturn, 1) := by decide +kernel
theorem dX2_relabel_32 : decode cX2_relabel 32 = .ok (.aload_n 0, 1) := by decide +kernel
theorem dX2_relabel_33 : decode cX2_relabel 33 = .ok (.getfield 34, 3) := by decide +kernel
theorem dX2_relabel_36 : decode cX2_relabel 36 = .ok (.aload_n 1, 1) := by decide +kernel
theorem dX2_relabel_37 : decode cX2_relabel 37 = .ok (.invokevirtual 85, 3) := by decide +kernel
theorem dX2_relabel_40 : decode cX2_relabel 40 = .ok (.iconst 1, 1) := by decide +kernel
theorem dX2_relabel_41 : decode cX2_relabel 41 = .ok (.ireturn, 1) := by decide +kernel
theorem dX2_dropCapability_0 : decode cX2_dropCapability 0 = .ok (.aload_n 0, 1) := by decide +kernel
theorem dX2_dropCapability_1 : decode cX2_dropCapability 1 = .ok (.iload_n 1, 1) := by decide +kernel
theorem dX2_dropCapability_2 : decode cX2_dropCapability 2 = .ok (.invokestatic 89, 3) := by decide +kernel
theorem dX2_dropCapability_5 : decode cX2_dropCapability 5 = .ok (.invokevirtual 93, 3) := by decide +kernel
theorem dX2_dropCapability_8 : decode cX2_dropCapability 8 = .ok (.astore_n 3, 1) := by decide +kernel
theorem dX2_dropCapability_9 : decode cX2_dropCapability 9 = .ok (.aload_n 3, 1) := by decide +kernel
theorem dX2_dropCapability_10 : decode cX2_dropCapability 10 = .ok (.iload_n 2, 1) := by decide +kernel
theorem dX2_dropCapability_11 : decode cX2_dropCapability 11 = .ok (.invokevirtual 97, 3) := by decide +kernel
theorem dX2_dropCapability_14 : decode cX2_dropCapability 14 = .ok (.ifCond .ne 5, 3) := by decide +kernel
theorem dX2_dropCapability_17 : decode cX2_dropCapability 17 = .ok (.iconst 0, 1) := by decide +kernel
theorem dX2_dropCapability_18 : decode cX2_dropCapability 18 = .ok (.ireturn, 1) := by decide +kernel
theorem dX2_dropCapability_19 : decode cX2_dropCapability 19 = .ok (.aload_n 3, 1) := by decide +kernel
theorem dX2_dropCapability_20 : decode cX2_dropCapability 20 = .ok (.iload_n 2, 1) := by decide +kernel
theorem dX2_dropCapability_21 : decode cX2_dropCapability 21 = .ok (.invokevirtual 101, 3) := by decide +kernel
theorem dX2_dropCapability_24 : decode cX2_dropCapability 24 = .ok (.iconst 1, 1) := by decide +kernel
theorem dX2_dropCapability_25 : decode cX2_dropCapability 25 = .ok (.ireturn, 1) := by decide +kernel
theorem dX2_receive_0 : decode cX2_receive 0 = .ok (.aload_n 0, 1) := by decide +kernel
theorem dX2_receive_1 : decode cX2_receive 1 = .ok (.getfield 47, 3) := by decide +kernel
theorem dX2_receive_4 : decode cX2_receive 4 = .ok (.aload_n 0, 1) := by decide +kernel
theorem dX2_receive_5 : decode cX2_receive 5 = .ok (.getfield 34, 3) := by decide +kernel
theorem dX2_receive_8 : decode cX2_receive 8 = .ok (.invokevirtual 104, 3) := by decide +kernel
theorem dX2_receive_11 : decode cX2_receive 11 = .ok (.astore_n 1, 1) := by decide +kernel
theorem dX2_receive_12 : decode cX2_receive 12 = .ok (.aload_n 1, 1) := by decide +kernel
theorem dX2_receive_13 : decode cX2_receive 13 = .ok (.ifnonnull 5, 3) := by decide +kernel
theorem dX2_receive_16 : decode cX2_receive 16 = .ok (.iconst 0, 1) := by decide +kernel
theorem dX2_receive_17 : decode cX2_receive 17 = .ok (.ireturn, 1) := by decide +kernel
theorem dX2_receive_18 : decode cX2_receive 18 = .ok (.aload_n 0, 1) := by decide +kernel
theorem dX2_receive_19 : decode cX2_receive 19 = .ok (.getfield 9, 3) := by decide +kernel
theorem dX2_receive_22 : decode cX2_receive 22 = .ok (.bipush 120, 2) := by decide +kernel
theorem dX2_receive_24 : decode cX2_receive 24 = .ok (.aload_n 1, 1) := by decide +kernel
theorem dX2_receive_25 : decode cX2_receive 25 = .ok (.getfield 108, 3) := by decide +kernel
theorem dX2_receive_28 : decode cX2_receive 28 = .ok (.iastore, 1) := by decide +kernel
theorem dX2_receive_29 : decode cX2_receive 29 = .ok (.aload_n 0, 1) := by decide +kernel
theorem dX2_receive_30 : decode cX2_receive 30 = .ok (.getfield 9, 3) := by decide +kernel
theorem dX2_receive_33 : decode cX2_receive 33 = .ok (.bipush 121, 2) := by decide +kernel
theorem dX2_receive_35 : decode cX2_receive 35 = .ok (.aload_n 1, 1) := by decide +kernel
theorem dX2_receive_36 : decode cX2_receive 36 = .ok (.getfield 113, 3) := by decide +kernel
theorem dX2_receive_39 : decode cX2_receive 39 = .ok (.iastore, 1) := by decide +kernel
theorem dX2_receive_40 : decode cX2_receive 40 = .ok (.aload_n 1, 1) := by decide +kernel
theorem dX2_receive_41 : decode cX2_receive 41 = .ok (.getfield 116, 3) := by decide +kernel
theorem dX2_receive_44 : decode cX2_receive 44 = .ok (.iconst (-1), 1) := by decide +kernel
theorem dX2_receive_45 : decode cX2_receive 45 = .ok (.if_icmp .ne 5, 3) := by decide +kernel
theorem dX2_receive_48 : decode cX2_receive 48 = .ok (.iconst 1, 1) := by decide +kernel
theorem dX2_receive_49 : decode cX2_receive 49 = .ok (.ireturn, 1) := by decide +kernel
theorem dX2_receive_50 : decode cX2_receive 50 = .ok (.aload_n 0, 1) := by decide +kernel
theorem dX2_receive_51 : decode cX2_receive 51 = .ok (.aload_n 1, 1) := by decide +kernel
theorem dX2_receive_52 : decode cX2_receive 52 = .ok (.getfield 116, 3) := by decide +kernel
theorem dX2_receive_55 : decode cX2_receive 55 = .ok (.invokevirtual 93, 3) := by decide +kernel
theorem dX2_receive_58 : decode cX2_receive 58 = .ok (.aload_n 1, 1) := by decide +kernel
theorem dX2_receive_59 : decode cX2_receive 59 = .ok (.getfield 108, 3) := by decide +kernel
theorem dX2_receive_62 : decode cX2_receive 62 = .ok (.iconst 1, 1) := by decide +kernel
theorem dX2_receive_63 : decode cX2_receive 63 = .ok (.bipush 40, 2) := by decide +kernel
theorem dX2_receive_65 : decode cX2_receive 65 = .ok (.invokevirtual 119, 3) := by decide +kernel
theorem dX2_receive_68 : decode cX2_receive 68 = .ok (.pop, 1) := by decide +kernel
theorem dX2_receive_69 : decode cX2_receive 69 = .ok (.iconst 2, 1) := by decide +kernel
theorem dX2_receive_70 : decode cX2_receive 70 = .ok (.ireturn, 1) := by decide +kernel
theorem dX2_createFile_0 : decode cX2_createFile 0 = .ok (.aload_n 0, 1) := by decide +kernel
theorem dX2_createFile_1 : decode cX2_createFile 1 = .ok (.getfield 34, 3) := by decide +kernel
theorem dX2_createFile_4 : decode cX2_createFile 4 = .ok (.aload_n 1, 1) := by decide +kernel
theorem dX2_createFile_5 : decode cX2_createFile 5 = .ok (.invokevirtual 123, 3) := by decide +kernel
theorem dX2_createFile_8 : decode cX2_createFile 8 = .ok (.ifCond .ne 5, 3) := by decide +kernel
theorem dX2_createFile_11 : decode cX2_createFile 11 = .ok (.iconst (-1), 1) := by decide +kernel
theorem dX2_createFile_12 : decode cX2_createFile 12 = .ok (.ireturn, 1) := by decide +kernel
theorem dX2_createFile_13 : decode cX2_createFile 13 = .ok (.iconst 0, 1) := by decide +kernel
theorem dX2_createFile_14 : decode cX2_createFile 14 = .ok (.istore_n 2, 1) := by decide +kernel
theorem dX2_createFile_15 : decode cX2_createFile 15 = .ok (.iload_n 2, 1) := by decide +kernel
theorem dX2_createFile_16 : decode cX2_createFile 16 = .ok (.bipush 8, 2) := by decide +kernel
theorem dX2_createFile_18 : decode cX2_createFile 18 = .ok (.if_icmp .ge 54, 3) := by decide +kernel
theorem dX2_createFile_21 : decode cX2_createFile 21 = .ok (.aload_n 0, 1) := by decide +kernel
theorem dX2_createFile_22 : decode cX2_createFile 22 = .ok (.getfield 53, 3) := by decide +kernel
theorem dX2_createFile_25 : decode cX2_createFile 25 = .ok (.iload_n 2, 1) := by decide +kernel
theorem dX2_createFile_26 : decode cX2_createFile 26 = .ok (.aaload, 1) := by decide +kernel
theorem dX2_createFile_27 : decode cX2_createFile 27 = .ok (.getfield 70, 3) := by decide +kernel
theorem dX2_createFile_30 : decode cX2_createFile 30 = .ok (.ifCond .ne 36, 3) := by decide +kernel
theorem dX2_createFile_33 : decode cX2_createFile 33 = .ok (.aload_n 0, 1) := by decide +kernel
theorem dX2_createFile_34 : decode cX2_createFile 34 = .ok (.getfield 53, 3) := by decide +kernel
theorem dX2_createFile_37 : decode cX2_createFile 37 = .ok (.iload_n 2, 1) := by decide +kernel
theorem dX2_createFile_38 : decode cX2_createFile 38 = .ok (.aaload, 1) := by decide +kernel
theorem dX2_createFile_39 : decode cX2_createFile 39 = .ok (.iconst 1, 1) := by decide +kernel
theorem dX2_createFile_40 : decode cX2_createFile 40 = .ok (.putfield 70, 3) := by decide +kernel
theorem dX2_createFile_43 : decode cX2_createFile 43 = .ok (.aload_n 0, 1) := by decide +kernel
theorem dX2_createFile_44 : decode cX2_createFile 44 = .ok (.getfield 53, 3) := by decide +kernel
theorem dX2_createFile_47 : decode cX2_createFile 47 = .ok (.iload_n 2, 1) := by decide +kernel
theorem dX2_createFile_48 : decode cX2_createFile 48 = .ok (.aaload, 1) := by decide +kernel
theorem dX2_createFile_49 : decode cX2_createFile 49 = .ok (.getfield 127, 3) := by decide +kernel
theorem dX2_createFile_52 : decode cX2_createFile 52 = .ok (.aload_n 1, 1) := by decide +kernel
theorem dX2_createFile_53 : decode cX2_createFile 53 = .ok (.invokevirtual 85, 3) := by decide +kernel
theorem dX2_createFile_56 : decode cX2_createFile 56 = .ok (.bipush 8, 2) := by decide +kernel
theorem dX2_createFile_58 : decode cX2_createFile 58 = .ok (.aload_n 0, 1) := by decide +kernel
theorem dX2_createFile_59 : decode cX2_createFile 59 = .ok (.getfield 66, 3) := by decide +kernel
theorem dX2_createFile_62 : decode cX2_createFile 62 = .ok (.imul, 1) := by decide +kernel
theorem dX2_createFile_63 : decode cX2_createFile 63 = .ok (.iload_n 2, 1) := by decide +kernel
theorem dX2_createFile_64 : decode cX2_createFile 64 = .ok (.iadd, 1) := by decide +kernel
theorem dX2_createFile_65 : decode cX2_createFile 65 = .ok (.ireturn, 1) := by decide +kernel
theorem dX2_createFile_66 : decode cX2_createFile 66 = .ok (.iinc 2 1, 3) := by decide +kernel
theorem dX2_createFile_69 : decode cX2_createFile 69 = .ok (.goto (-54), 3) := by decide +kernel
theorem dX2_createFile_72 : decode cX2_createFile 72 = .ok (.iconst (-1), 1) := by decide +kernel
theorem dX2_createFile_73 : decode cX2_createFile 73 = .ok (.ireturn, 1) := by decide +kernel
theorem dX2_addOutput_0 : decode cX2_addOutput 0 = .ok (.aload_n 0, 1) := by decide +kernel
theorem dX2_addOutput_1 : decode cX2_addOutput 1 = .ok (.getfield 63, 3) := by decide +kernel
theorem dX2_addOutput_4 : decode cX2_addOutput 4 = .ok (.bipush 64, 2) := by decide +kernel
theorem dX2_addOutput_6 : decode cX2_addOutput 6 = .ok (.if_icmp .ge 39, 3) := by decide +kernel
theorem dX2_addOutput_9 : decode cX2_addOutput 9 = .ok (.aload_n 0, 1) := by decide +kernel
theorem dX2_addOutput_10 : decode cX2_addOutput 10 = .ok (.getfield 57, 3) := by decide +kernel
theorem dX2_addOutput_13 : decode cX2_addOutput 13 = .ok (.aload_n 0, 1) := by decide +kernel
theorem dX2_addOutput_14 : decode cX2_addOutput 14 = .ok (.getfield 63, 3) := by decide +kernel
theorem dX2_addOutput_17 : decode cX2_addOutput 17 = .ok (.iload_n 1, 1) := by decide +kernel
theorem dX2_addOutput_18 : decode cX2_addOutput 18 = .ok (.iastore, 1) := by decide +kernel
theorem dX2_addOutput_19 : decode cX2_addOutput 19 = .ok (.aload_n 0, 1) := by decide +kernel
theorem dX2_addOutput_20 : decode cX2_addOutput 20 = .ok (.getfield 60, 3) := by decide +kernel
theorem dX2_addOutput_23 : decode cX2_addOutput 23 = .ok (.aload_n 0, 1) := by decide +kernel
theorem dX2_addOutput_24 : decode cX2_addOutput 24 = .ok (.getfield 63, 3) := by decide +kernel
theorem dX2_addOutput_27 : decode cX2_addOutput 27 = .ok (.aload_n 0, 1) := by decide +kernel
theorem dX2_addOutput_28 : decode cX2_addOutput 28 = .ok (.getfield 34, 3) := by decide +kernel
theorem dX2_addOutput_31 : decode cX2_addOutput 31 = .ok (.getfield 74, 3) := by decide +kernel
theorem dX2_addOutput_34 : decode cX2_addOutput 34 = .ok (.iastore, 1) := by decide +kernel
theorem dX2_addOutput_35 : decode cX2_addOutput 35 = .ok (.aload_n 0, 1) := by decide +kernel
theorem dX2_addOutput_36 : decode cX2_addOutput 36 = .ok (.dup, 1) := by decide +kernel
theorem dX2_addOutput_37 : decode cX2_addOutput 37 = .ok (.getfield 63, 3) := by decide +kernel
theorem dX2_addOutput_40 : decode cX2_addOutput 40 = .ok (.iconst 1, 1) := by decide +kernel
theorem dX2_addOutput_41 : decode cX2_addOutput 41 = .ok (.iadd, 1) := by decide +kernel
theorem dX2_addOutput_42 : decode cX2_addOutput 42 = .ok (.putfield 63, 3) := by decide +kernel
theorem dX2_addOutput_45 : decode cX2_addOutput 45 = .ok (.iconst 1, 1) := by decide +kernel
theorem dX2_addOutput_46 : decode cX2_addOutput 46 = .ok (.ireturn, 1) := by decide +kernel
theorem dX3_init_0 : decode cX3_init 0 = .ok (.aload_n 0, 1) := by decide +kernel
theorem dX3_init_1 : decode cX3_init 1 = .ok (.invokespecial 3, 3) := by decide +kernel
theorem dX3_init_4 : decode cX3_init 4 = .ok (.aload_n 0, 1) := by decide +kernel
theorem dX3_init_5 : decode cX3_init 5 = .ok (.new 9, 3) := by decide +kernel
theorem dX3_init_8 : decode cX3_init 8 = .ok (.dup, 1) := by decide +kernel
theorem dX3_init_9 : decode cX3_init 9 = .ok (.invokespecial 11, 3) := by decide +kernel
theorem dX3_init_12 : decode cX3_init 12 = .ok (.putfield 12, 3) := by decide +kernel
theorem dX3_init_15 : decode cX3_init 15 = .ok (.aload_n 0, 1) := by decide +kernel
theorem dX3_init_16 : decode cX3_init 16 = .ok (.bipush 8, 2) := by decide +kernel
theorem dX3_init_18 : decode cX3_init 18 = .ok (.newarray .int, 2) := by decide +kernel
theorem dX3_init_20 : decode cX3_init 20 = .ok (.putfield 18, 3) := by decide +kernel
theorem dX3_init_23 : decode cX3_init 23 = .ok (.aload_n 0, 1) := by decide +kernel
theorem dX3_init_24 : decode cX3_init 24 = .ok (.iconst 0, 1) := by decide +kernel
theorem dX3_init_25 : decode cX3_init 25 = .ok (.putfield 22, 3) := by decide +kernel
theorem dX3_init_28 : decode cX3_init 28 = .ok (.return_, 1) := by decide +kernel
theorem dX4_init_0 : decode cX4_init 0 = .ok (.aload_n 0, 1) := by decide +kernel
theorem dX4_init_1 : decode cX4_init 1 = .ok (.invokespecial 3, 3) := by decide +kernel
theorem dX4_init_4 : decode cX4_init 4 = .ok (.aload_n 0, 1) := by decide +kernel
theorem dX4_init_5 : decode cX4_init 5 = .ok (.bipush 8, 2) := by decide +kernel
theorem dX4_init_7 : decode cX4_init 7 = .ok (.newarray .int, 2) := by decide +kernel
theorem dX4_init_9 : decode cX4_init 9 = .ok (.putfield 9, 3) := by decide +kernel
theorem dX4_init_12 : decode cX4_init 12 = .ok (.aload_n 0, 1) := by decide +kernel
theorem dX4_init_13 : decode cX4_init 13 = .ok (.iconst 0, 1) := by decide +kernel
theorem dX4_init_14 : decode cX4_init 14 = .ok (.putfield 15, 3) := by decide +kernel
theorem dX4_init_17 : decode cX4_init 17 = .ok (.return_, 1) := by decide +kernel
theorem dX4_has_0 : decode cX4_has 0 = .ok (.iload_n 1, 1) := by decide +kernel
theorem dX4_has_1 : decode cX4_has 1 = .ok (.ifCond .lt 32, 3) := by decide +kernel
theorem dX4_has_4 : decode cX4_has 4 = .ok (.iload_n 1, 1) := by decide +kernel
theorem dX4_has_5 : decode cX4_has 5 = .ok (.sipush 256, 3) := by decide +kernel
theorem dX4_has_8 : decode cX4_has 8 = .ok (.if_icmp .ge 25, 3) := by decide +kernel
theorem dX4_has_11 : decode cX4_has 11 = .ok (.aload_n 0, 1) := by decide +kernel
theorem dX4_has_12 : decode cX4_has 12 = .ok (.getfield 9, 3) := by decide +kernel
theorem dX4_has_15 : decode cX4_has 15 = .ok (.iload_n 1, 1) := by decide +kernel
theorem dX4_has_16 : decode cX4_has 16 = .ok (.iconst 5, 1) := by decide +kernel
theorem dX4_has_17 : decode cX4_has 17 = .ok (.ishr, 1) := by decide +kernel
theorem dX4_has_18 : decode cX4_has 18 = .ok (.iaload, 1) := by decide +kernel
theorem dX4_has_19 : decode cX4_has 19 = .ok (.iconst 1, 1) := by decide +kernel
theorem dX4_has_20 : decode cX4_has 20 = .ok (.iload_n 1, 1) := by decide +kernel
theorem dX4_has_21 : decode cX4_has 21 = .ok (.bipush 31, 2) := by decide +kernel
theorem dX4_has_23 : decode cX4_has 23 = .ok (.iand, 1) := by decide +kernel
theorem dX4_has_24 : decode cX4_has 24 = .ok (.ishl, 1) := by decide +kernel
theorem dX4_has_25 : decode cX4_has 25 = .ok (.iand, 1) := by decide +kernel
theorem dX4_has_26 : decode cX4_has 26 = .ok (.ifCond .eq 7, 3) := by decide +kernel
theorem dX4_has_29 : decode cX4_has 29 = .ok (.iconst 1, 1) := by decide +kernel
theorem dX4_has_30 : decode cX4_has 30 = .ok (.goto 4, 3) := by decide +kernel
theorem dX4_has_33 : decode cX4_has 33 = .ok (.iconst 0, 1) := by decide +kernel
theorem dX4_has_34 : decode cX4_has 34 = .ok (.ireturn, 1) := by decide +kernel
theorem dX4_add_0 : decode cX4_add 0 = .ok (.iload_n 1, 1) := by decide +kernel
theorem dX4_add_1 : decode cX4_add 1 = .ok (.invokestatic 19, 3) := by decide +kernel
theorem dX4_add_4 : decode cX4_add 4 = .ok (.ifCond .eq 38, 3) := by decide +kernel
theorem dX4_add_7 : decode cX4_add 7 = .ok (.aload_n 0, 1) := by decide +kernel
theorem dX4_add_8 : decode cX4_add 8 = .ok (.iload_n 1, 1) := by decide +kernel
theorem dX4_add_9 : decode cX4_add 9 = .ok (.invokevirtual 23, 3) := by decide +kernel
theorem dX4_add_12 : decode cX4_add 12 = .ok (.ifCond .ne 30, 3) := by decide +kernel
theorem dX4_add_15 : decode cX4_add 15 = .ok (.aload_n 0, 1) := by decide +kernel
theorem dX4_add_16 : decode cX4_add 16 = .ok (.getfield 9, 3) := by decide +kernel
theorem dX4_add_19 : decode cX4_add 19 = .ok (.iload_n 1, 1) := by decide +kernel
theorem dX4_add_20 : decode cX4_add 20 = .ok (.iconst 5, 1) := by decide +kernel
theorem dX4_add_21 : decode cX4_add 21 = .ok (.ishr, 1) := by decide +kernel
theorem dX4_add_22 : decode cX4_add 22 = .ok (.dup2, 1) := by decide +kernel
theorem dX4_add_23 : decode cX4_add 23 = .ok (.iaload, 1) := by decide +kernel
theorem dX4_add_24 : decode cX4_add 24 = .ok (.iconst 1, 1) := by decide +kernel
theorem dX4_add_25 : decode cX4_add 25 = .ok (.iload_n 1, 1) := by decide +kernel
theorem dX4_add_26 : decode cX4_add 26 = .ok (.bipush 31, 2) := by decide +kernel
theorem dX4_add_28 : decode cX4_add 28 = .ok (.iand, 1) := by decide +kernel
theorem dX4_add_29 : decode cX4_add 29 = .ok (.ishl, 1) := by decide +kernel
theorem dX4_add_30 : decode cX4_add 30 = .ok (.ior, 1) := by decide +kernel
theorem dX4_add_31 : decode cX4_add 31 = .ok (.iastore, 1) := by decide +kernel
theorem dX4_add_32 : decode cX4_add 32 = .ok (.aload_n 0, 1) := by decide +kernel
theorem dX4_add_33 : decode cX4_add 33 = .ok (.dup, 1) := by decide +kernel
theorem dX4_add_34 : decode cX4_add 34 = .ok (.getfield 15, 3) := by decide +kernel
theorem dX4_add_37 : decode cX4_add 37 = .ok (.iconst 1, 1) := by decide +kernel
theorem dX4_add_38 : decode cX4_add 38 = .ok (.iadd, 1) := by decide +kernel
theorem dX4_add_39 : decode cX4_add 39 = .ok (.putfield 15, 3) := by decide +kernel
theorem dX4_add_42 : decode cX4_add 42 = .ok (.return_, 1) := by decide +kernel
theorem dX4_remove_0 : decode cX4_remove 0 = .ok (.aload_n 0, 1) := by decide +kernel
theorem dX4_remove_1 : decode cX4_remove 1 = .ok (.iload_n 1, 1) := by decide +kernel
theorem dX4_remove_2 : decode cX4_remove 2 = .ok (.invokevirtual 23, 3) := by decide +kernel
theorem dX4_remove_5 : decode cX4_remove 5 = .ok (.ifCond .eq 32, 3) := by decide +kernel
theorem dX4_remove_8 : decode cX4_remove 8 = .ok (.aload_n 0, 1) := by decide +kernel
theorem dX4_remove_9 : decode cX4_remove 9 = .ok (.getfield 9, 3) := by decide +kernel
theorem dX4_remove_12 : decode cX4_remove 12 = .ok (.iload_n 1, 1) := by decide +kernel
theorem dX4_remove_13 : decode cX4_remove 13 = .ok (.iconst 5, 1) := by decide +kernel
theorem dX4_remove_14 : decode cX4_remove 14 = .ok (.ishr, 1) := by decide +kernel
theorem dX4_remove_15 : decode cX4_remove 15 = .ok (.dup2, 1) := by decide +kernel
theorem dX4_remove_16 : decode cX4_remove 16 = .ok (.iaload, 1) := by decide +kernel
theorem dX4_remove_17 : decode cX4_remove 17 = .ok (.iconst 1, 1) := by decide +kernel
theorem dX4_remove_18 : decode cX4_remove 18 = .ok (.iload_n 1, 1) := by decide +kernel
theorem dX4_remove_19 : decode cX4_remove 19 = .ok (.bipush 31, 2) := by decide +kernel
theorem dX4_remove_21 : decode cX4_remove 21 = .ok (.iand, 1) := by decide +kernel
theorem dX4_remove_22 : decode cX4_remove 22 = .ok (.ishl, 1) := by decide +kernel
theorem dX4_remove_23 : decode cX4_remove 23 = .ok (.iconst (-1), 1) := by decide +kernel
theorem dX4_remove_24 : decode cX4_remove 24 = .ok (.ixor, 1) := by decide +kernel
theorem dX4_remove_25 : decode cX4_remove 25 = .ok (.iand, 1) := by decide +kernel
theorem dX4_remove_26 : decode cX4_remove 26 = .ok (.iastore, 1) := by decide +kernel
theorem dX4_remove_27 : decode cX4_remove 27 = .ok (.aload_n 0, 1) := by decide +kernel
theorem dX4_remove_28 : decode cX4_remove 28 = .ok (.dup, 1) := by decide +kernel
theorem dX4_remove_29 : decode cX4_remove 29 = .ok (.getfield 15, 3) := by decide +kernel
theorem dX4_remove_32 : decode cX4_remove 32 = .ok (.iconst 1, 1) := by decide +kernel
theorem dX4_remove_33 : decode cX4_remove 33 = .ok (.isub, 1) := by decide +kernel
theorem dX4_remove_34 : decode cX4_remove 34 = .ok (.putfield 15, 3) := by decide +kernel
theorem dX4_remove_37 : decode cX4_remove 37 = .ok (.return_, 1) := by decide +kernel
theorem dX4_change_0 : decode cX4_change 0 = .ok (.iload_n 2, 1) := by decide +kernel
theorem dX4_change_1 : decode cX4_change 1 = .ok (.ifCond .ne 11, 3) := by decide +kernel
theorem dX4_change_4 : decode cX4_change 4 = .ok (.aload_n 0, 1) := by decide +kernel
theorem dX4_change_5 : decode cX4_change 5 = .ok (.iload_n 1, 1) := by decide +kernel
theorem dX4_change_6 : decode cX4_change 6 = .ok (.invokevirtual 26, 3) := by decide +kernel
theorem dX4_change_9 : decode cX4_change 9 = .ok (.goto 26, 3) := by decide +kernel
theorem dX4_change_12 : decode cX4_change 12 = .ok (.aload_n 0, 1) := by decide +kernel
theorem dX4_change_13 : decode cX4_change 13 = .ok (.iload_n 1, 1) := by decide +kernel
theorem dX4_change_14 : decode cX4_change 14 = .ok (.invokevirtual 23, 3) := by decide +kernel
theorem dX4_change_17 : decode cX4_change 17 = .ok (.ifCond .ne 18, 3) := by decide +kernel
theorem dX4_change_20 : decode cX4_change 20 = .ok (.aload_n 0, 1) := by decide +kernel
theorem dX4_change_21 : decode cX4_change 21 = .ok (.getfield 15, 3) := by decide +kernel
theorem dX4_change_24 : decode cX4_change 24 = .ok (.iload_n 3, 1) := by decide +kernel
theorem dX4_change_25 : decode cX4_change 25 = .ok (.if_icmp .lt 5, 3) := by decide +kernel
theorem dX4_change_28 : decode cX4_change 28 = .ok (.iconst (-1), 1) := by decide +kernel
theorem dX4_change_29 : decode cX4_change 29 = .ok (.ireturn, 1) := by decide +kernel
theorem dX4_change_30 : decode cX4_change 30 = .ok (.aload_n 0, 1) := by decide +kernel
theorem dX4_change_31 : decode cX4_change 31 = .ok (.iload_n 1, 1) := by decide +kernel
theorem dX4_change_32 : decode cX4_change 32 = .ok (.invokevirtual 30, 3) := by decide +kernel
theorem dX4_change_35 : decode cX4_change 35 = .ok (.aload_n 0, 1) := by decide +kernel
theorem dX4_change_36 : decode cX4_change 36 = .ok (.getfield 15, 3) := by decide +kernel
theorem dX4_change_39 : decode cX4_change 39 = .ok (.ireturn, 1) := by decide +kernel
theorem dX4_clear_0 : decode cX4_clear 0 = .ok (.iconst 0, 1) := by decide +kernel
theorem dX4_clear_1 : decode cX4_clear 1 = .ok (.istore_n 1, 1) := by decide +kernel
theorem dX4_clear_2 : decode cX4_clear 2 = .ok (.iload_n 1, 1) := by decide +kernel
theorem dX4_clear_3 : decode cX4_clear 3 = .ok (.bipush 8, 2) := by decide +kernel
theorem dX4_clear_5 : decode cX4_clear 5 = .ok (.if_icmp .ge 16, 3) := by decide +kernel
theorem dX4_clear_8 : decode cX4_clear 8 = .ok (.aload_n 0, 1) := by decide +kernel
theorem dX4_clear_9 : decode cX4_clear 9 = .ok (.getfield 9, 3) := by decide +kernel
theorem dX4_clear_12 : decode cX4_clear 12 = .ok (.iload_n 1, 1) := by decide +kernel
theorem dX4_clear_13 : decode cX4_clear 13 = .ok (.iconst 0, 1) := by decide +kernel
theorem dX4_clear_14 : decode cX4_clear 14 = .ok (.iastore, 1) := by decide +kernel
theorem dX4_clear_15 : decode cX4_clear 15 = .ok (.iinc 1 1, 3) := by decide +kernel
theorem dX4_clear_18 : decode cX4_clear 18 = .ok (.goto (-16), 3) := by decide +kernel
theorem dX4_clear_21 : decode cX4_clear 21 = .ok (.aload_n 0, 1) := by decide +kernel
theorem dX4_clear_22 : decode cX4_clear 22 = .ok (.iconst 0, 1) := by decide +kernel
theorem dX4_clear_23 : decode cX4_clear 23 = .ok (.putfield 15, 3) := by decide +kernel
theorem dX4_clear_26 : decode cX4_clear 26 = .ok (.return_, 1) := by decide +kernel
theorem dX4_copy_0 : decode cX4_copy 0 = .ok (.iconst 0, 1) := by decide +kernel
theorem dX4_copy_1 : decode cX4_copy 1 = .ok (.istore_n 2, 1) := by decide +kernel
theorem dX4_copy_2 : decode cX4_copy 2 = .ok (.iload_n 2, 1) := by decide +kernel
theorem dX4_copy_3 : decode cX4_copy 3 = .ok (.bipush 8, 2) := by decide +kernel
theorem dX4_copy_5 : decode cX4_copy 5 = .ok (.if_icmp .ge 21, 3) := by decide +kernel
theorem dX4_copy_8 : decode cX4_copy 8 = .ok (.aload_n 0, 1) := by decide +kernel
theorem dX4_copy_9 : decode cX4_copy 9 = .ok (.getfield 9, 3) := by decide +kernel
theorem dX4_copy_12 : decode cX4_copy 12 = .ok (.iload_n 2, 1) := by decide +kernel
theorem dX4_copy_13 : decode cX4_copy 13 = .ok (.aload_n 1, 1) := by decide +kernel
theorem dX4_copy_14 : decode cX4_copy 14 = .ok (.getfield 9, 3) := by decide +kernel
theorem dX4_copy_17 : decode cX4_copy 17 = .ok (.iload_n 2, 1) := by decide +kernel
theorem dX4_copy_18 : decode cX4_copy 18 = .ok (.iaload, 1) := by decide +kernel
theorem dX4_copy_19 : decode cX4_copy 19 = .ok (.iastore, 1) := by decide +kernel
theorem dX4_copy_20 : decode cX4_copy 20 = .ok (.iinc 2 1, 3) := by decide +kernel
theorem dX4_copy_23 : decode cX4_copy 23 = .ok (.goto (-21), 3) := by decide +kernel
theorem dX4_copy_26 : decode cX4_copy 26 = .ok (.aload_n 0, 1) := by decide +kernel
theorem dX4_copy_27 : decode cX4_copy 27 = .ok (.aload_n 1, 1) := by decide +kernel
theorem dX4_copy_28 : decode cX4_copy 28 = .ok (.getfield 15, 3) := by decide +kernel
theorem dX4_copy_31 : decode cX4_copy 31 = .ok (.putfield 15, 3) := by decide +kernel
theorem dX4_copy_34 : decode cX4_copy 34 = .ok (.return_, 1) := by decide +kernel
theorem dX4_isIn_0 : decode cX4_isIn 0 = .ok (.aload_n 0, 1) := by decide +kernel
theorem dX4_isIn_1 : decode cX4_isIn 1 = .ok (.aload_n 1, 1) := by decide +kernel
theorem dX4_isIn_2 : decode cX4_isIn 2 = .ok (.aload_n 1, 1) := by decide +kernel
theorem dX4_isIn_3 : decode cX4_isIn 3 = .ok (.invokevirtual 33, 3) := by decide +kernel
theorem dX4_isIn_6 : decode cX4_isIn 6 = .ok (.ireturn, 1) := by decide +kernel
theorem dX4_isInEither_0 : decode cX4_isInEither 0 = .ok (.iconst 0, 1) := by decide +kernel
theorem dX4_isInEither_1 : decode cX4_isInEither 1 = .ok (.istore_n 3, 1) := by decide +kernel
theorem dX4_isInEither_2 : decode cX4_isInEither 2 = .ok (.iload_n 3, 1) := by decide +kernel
theorem dX4_isInEither_3 : decode cX4_isInEither 3 = .ok (.bipush 8, 2) := by decide +kernel
theorem dX4_isInEither_5 : decode cX4_isInEither 5 = .ok (.if_icmp .ge 36, 3) := by decide +kernel
theorem dX4_isInEither_8 : decode cX4_isInEither 8 = .ok (.aload_n 0, 1) := by decide +kernel
theorem dX4_isInEither_9 : decode cX4_isInEither 9 = .ok (.getfield 9, 3) := by decide +kernel
theorem dX4_isInEither_12 : decode cX4_isInEither 12 = .ok (.iload_n 3, 1) := by decide +kernel
theorem dX4_isInEither_13 : decode cX4_isInEither 13 = .ok (.iaload, 1) := by decide +kernel
theorem dX4_isInEither_14 : decode cX4_isInEither 14 = .ok (.aload_n 1, 1) := by decide +kernel
theorem dX4_isInEither_15 : decode cX4_isInEither 15 = .ok (.getfield 9, 3) := by decide +kernel
theorem dX4_isInEither_18 : decode cX4_isInEither 18 = .ok (.iload_n 3, 1) := by decide +kernel
theorem dX4_isInEither_19 : decode cX4_isInEither 19 = .ok (.iaload, 1) := by decide +kernel
theorem dX4_isInEither_20 : decode cX4_isInEither 20 = .ok (.aload_n 2, 1) := by decide +kernel
theorem dX4_isInEither_21 : decode cX4_isInEither 21 = .ok (.getfield 9, 3) := by decide +kernel
theorem dX4_isInEither_24 : decode cX4_isInEither 24 = .ok (.iload_n 3, 1) := by decide +kernel
theorem dX4_isInEither_25 : decode cX4_isInEither 25 = .ok (.iaload, 1) := by decide +kernel
theorem dX4_isInEither_26 : decode cX4_isInEither 26 = .ok (.ior, 1) := by decide +kernel
theorem dX4_isInEither_27 : decode cX4_isInEither 27 = .ok (.iconst (-1), 1) := by decide +kernel
theorem dX4_isInEither_28 : decode cX4_isInEither 28 = .ok (.ixor, 1) := by decide +kernel
theorem dX4_isInEither_29 : decode cX4_isInEither 29 = .ok (.iand, 1) := by decide +kernel
theorem dX4_isInEither_30 : decode cX4_isInEither 30 = .ok (.ifCond .eq 5, 3) := by decide +kernel
theorem dX4_isInEither_33 : decode cX4_isInEither 33 = .ok (.iconst 0, 1) := by decide +kernel
theorem dX4_isInEither_34 : decode cX4_isInEither 34 = .ok (.ireturn, 1) := by decide +kernel
theorem dX4_isInEither_35 : decode cX4_isInEither 35 = .ok (.iinc 3 1, 3) := by decide +kernel
theorem dX4_isInEither_38 : decode cX4_isInEither 38 = .ok (.goto (-36), 3) := by decide +kernel
theorem dX4_isInEither_41 : decode cX4_isInEither 41 = .ok (.iconst 1, 1) := by decide +kernel
theorem dX4_isInEither_42 : decode cX4_isInEither 42 = .ok (.ireturn, 1) := by decide +kernel
theorem dX4_tagAt_0 : decode cX4_tagAt 0 = .ok (.iload_n 1, 1) := by decide +kernel
theorem dX4_tagAt_1 : decode cX4_tagAt 1 = .ok (.ifCond .lt 11, 3) := by decide +kernel
theorem dX4_tagAt_4 : decode cX4_tagAt 4 = .ok (.iload_n 1, 1) := by decide +kernel
theorem dX4_tagAt_5 : decode cX4_tagAt 5 = .ok (.aload_n 0, 1) := by decide +kernel
theorem dX4_tagAt_6 : decode cX4_tagAt 6 = .ok (.getfield 15, 3) := by decide +kernel
theorem dX4_tagAt_9 : decode cX4_tagAt 9 = .ok (.if_icmp .lt 5, 3) := by decide +kernel
theorem dX4_tagAt_12 : decode cX4_tagAt 12 = .ok (.iconst (-1), 1) := by decide +kernel
theorem dX4_tagAt_13 : decode cX4_tagAt 13 = .ok (.ireturn, 1) := by decide +kernel
theorem dX4_tagAt_14 : decode cX4_tagAt 14 = .ok (.iconst 0, 1) := by decide +kernel
theorem dX4_tagAt_15 : decode cX4_tagAt 15 = .ok (.istore_n 2, 1) := by decide +kernel
theorem dX4_tagAt_16 : decode cX4_tagAt 16 = .ok (.iconst 0, 1) := by decide +kernel
theorem dX4_tagAt_17 : decode cX4_tagAt 17 = .ok (.istore_n 3, 1) := by decide +kernel
theorem dX4_tagAt_18 : decode cX4_tagAt 18 = .ok (.iload_n 3, 1) := by decide +kernel
theorem dX4_tagAt_19 : decode cX4_tagAt 19 = .ok (.sipush 256, 3) := by decide +kernel
theorem dX4_tagAt_22 : decode cX4_tagAt 22 = .ok (.if_icmp .ge 27, 3) := by decide +kernel
theorem dX4_tagAt_25 : decode cX4_tagAt 25 = .ok (.aload_n 0, 1) := by decide +kernel
theorem dX4_tagAt_26 : decode cX4_tagAt 26 = .ok (.iload_n 3, 1) := by decide +kernel
theorem dX4_tagAt_27 : decode cX4_tagAt 27 = .ok (.invokevirtual 23, 3) := by decide +kernel
theorem dX4_tagAt_30 : decode cX4_tagAt 30 = .ok (.ifCond .eq 13, 3) := by decide +kernel
theorem dX4_tagAt_33 : decode cX4_tagAt 33 = .ok (.iload_n 2, 1) := by decide +kernel
theorem dX4_tagAt_34 : decode cX4_tagAt 34 = .ok (.iload_n 1, 1) := by decide +kernel
theorem dX4_tagAt_35 : decode cX4_tagAt 35 = .ok (.if_icmp .ne 5, 3) := by decide +kernel
theorem dX4_tagAt_38 : decode cX4_tagAt 38 = .ok (.iload_n 3, 1) := by decide +kernel
theorem dX4_tagAt_39 : decode cX4_tagAt 39 = .ok (.ireturn, 1) := by decide +kernel
theorem dX4_tagAt_40 : decode cX4_tagAt 40 = .ok (.iinc 2 1, 3) := by decide +kernel
theorem dX4_tagAt_43 : decode cX4_tagAt 43 = .ok (.iinc 3 1, 3) := by decide +kernel
theorem dX4_tagAt_46 : decode cX4_tagAt 46 = .ok (.goto (-28), 3) := by decide +kernel
theorem dX4_tagAt_49 : decode cX4_tagAt 49 = .ok (.iconst (-1), 1) := by decide +kernel
theorem dX4_tagAt_50 : decode cX4_tagAt 50 = .ok (.ireturn, 1) := by decide +kernel
theorem dX5_init_0 : decode cX5_init 0 = .ok (.aload_n 0, 1) := by decide +kernel
theorem dX5_init_1 : decode cX5_init 1 = .ok (.invokespecial 1, 3) := by decide +kernel
theorem dX5_init_4 : decode cX5_init 4 = .ok (.aload_n 0, 1) := by decide +kernel
theorem dX5_init_5 : decode cX5_init 5 = .ok (.bipush 8, 2) := by decide +kernel
theorem dX5_init_7 : decode cX5_init 7 = .ok (.anewarray 9, 3) := by decide +kernel
theorem dX5_init_10 : decode cX5_init 10 = .ok (.putfield 11, 3) := by decide +kernel
theorem dX5_init_13 : decode cX5_init 13 = .ok (.iconst 0, 1) := by decide +kernel
theorem dX5_init_14 : decode cX5_init 14 = .ok (.istore_n 1, 1) := by decide +kernel
theorem dX5_init_15 : decode cX5_init 15 = .ok (.iload_n 1, 1) := by decide +kernel
theorem dX5_init_16 : decode cX5_init 16 = .ok (.bipush 8, 2) := by decide +kernel
theorem dX5_init_18 : decode cX5_init 18 = .ok (.if_icmp .ge 23, 3) := by decide +kernel
theorem dX5_init_21 : decode cX5_init 21 = .ok (.aload_n 0, 1) := by decide +kernel
theorem dX5_init_22 : decode cX5_init 22 = .ok (.getfield 11, 3) := by decide +kernel
theorem dX5_init_25 : decode cX5_init 25 = .ok (.iload_n 1, 1) := by decide +kernel
theorem dX5_init_26 : decode cX5_init 26 = .ok (.new 9, 3) := by decide +kernel
theorem dX5_init_29 : decode cX5_init 29 = .ok (.dup, 1) := by decide +kernel
theorem dX5_init_30 : decode cX5_init 30 = .ok (.iload_n 1, 1) := by decide +kernel
theorem dX5_init_31 : decode cX5_init 31 = .ok (.invokespecial 15, 3) := by decide +kernel
theorem dX5_init_34 : decode cX5_init 34 = .ok (.aastore, 1) := by decide +kernel
theorem dX5_init_35 : decode cX5_init 35 = .ok (.iinc 1 1, 3) := by decide +kernel
theorem dX5_init_38 : decode cX5_init 38 = .ok (.goto (-23), 3) := by decide +kernel
theorem dX5_init_41 : decode cX5_init 41 = .ok (.aload_n 0, 1) := by decide +kernel
theorem dX5_init_42 : decode cX5_init 42 = .ok (.new 18, 3) := by decide +kernel
theorem dX5_init_45 : decode cX5_init 45 = .ok (.dup, 1) := by decide +kernel
theorem dX5_init_46 : decode cX5_init 46 = .ok (.invokespecial 20, 3) := by decide +kernel
theorem dX5_init_49 : decode cX5_init 49 = .ok (.putfield 21, 3) := by decide +kernel
theorem dX5_init_52 : decode cX5_init 52 = .ok (.aload_n 0, 1) := by decide +kernel
theorem dX5_init_53 : decode cX5_init 53 = .ok (.iconst 0, 1) := by decide +kernel
theorem dX5_init_54 : decode cX5_init 54 = .ok (.putfield 25, 3) := by decide +kernel
theorem dX5_init_57 : decode cX5_init 57 = .ok (.return_, 1) := by decide +kernel
theorem dX5_poke_0 : decode cX5_poke 0 = .ok (.iload_n 1, 1) := by decide +kernel
theorem dX5_poke_1 : decode cX5_poke 1 = .ok (.invokestatic 29, 3) := by decide +kernel
theorem dX5_poke_4 : decode cX5_poke 4 = .ok (.ifCond .eq 13, 3) := by decide +kernel
theorem dX5_poke_7 : decode cX5_poke 7 = .ok (.iload_n 2, 1) := by decide +kernel
theorem dX5_poke_8 : decode cX5_poke 8 = .ok (.ifCond .lt 9, 3) := by decide +kernel
theorem dX5_poke_11 : decode cX5_poke 11 = .ok (.iload_n 2, 1) := by decide +kernel
theorem dX5_poke_12 : decode cX5_poke 12 = .ok (.bipush 125, 2) := by decide +kernel
theorem dX5_poke_14 : decode cX5_poke 14 = .ok (.if_icmp .le 5, 3) := by decide +kernel
theorem dX5_poke_17 : decode cX5_poke 17 = .ok (.iconst (-1), 1) := by decide +kernel
theorem dX5_poke_18 : decode cX5_poke 18 = .ok (.ireturn, 1) := by decide +kernel
theorem dX5_poke_19 : decode cX5_poke 19 = .ok (.aload_n 0, 1) := by decide +kernel
theorem dX5_poke_20 : decode cX5_poke 20 = .ok (.getfield 11, 3) := by decide +kernel
theorem dX5_poke_23 : decode cX5_poke 23 = .ok (.iload_n 1, 1) := by decide +kernel
theorem dX5_poke_24 : decode cX5_poke 24 = .ok (.aaload, 1) := by decide +kernel
theorem dX5_poke_25 : decode cX5_poke 25 = .ok (.getfield 33, 3) := by decide +kernel
theorem dX5_poke_28 : decode cX5_poke 28 = .ok (.astore 6, 2) := by decide +kernel
theorem dX5_poke_30 : decode cX5_poke 30 = .ok (.aload 6, 2) := by decide +kernel
theorem dX5_poke_32 : decode cX5_poke 32 = .ok (.iload_n 2, 1) := by decide +kernel
theorem dX5_poke_33 : decode cX5_poke 33 = .ok (.iload_n 3, 1) := by decide +kernel
theorem dX5_poke_34 : decode cX5_poke 34 = .ok (.iastore, 1) := by decide +kernel
theorem dX5_poke_35 : decode cX5_poke 35 = .ok (.aload 6, 2) := by decide +kernel
theorem dX5_poke_37 : decode cX5_poke 37 = .ok (.iload_n 2, 1) := by decide +kernel
theorem dX5_poke_38 : decode cX5_poke 38 = .ok (.iconst 1, 1) := by decide +kernel
theorem dX5_poke_39 : decode cX5_poke 39 = .ok (.iadd, 1) := by decide +kernel
theorem dX5_poke_40 : decode cX5_poke 40 = .ok (.iload 4, 2) := by decide +kernel
theorem dX5_poke_42 : decode cX5_poke 42 = .ok (.iastore, 1) := by decide +kernel
theorem dX5_poke_43 : decode cX5_poke 43 = .ok (.aload 6, 2) := by decide +kernel
theorem dX5_poke_45 : decode cX5_poke 45 = .ok (.iload_n 2, 1) := by decide +kernel
theorem dX5_poke_46 : decode cX5_poke 46 = .ok (.iconst 2, 1) := by decide +kernel
theorem dX5_poke_47 : decode cX5_poke 47 = .ok (.iadd, 1) := by decide +kernel
theorem dX5_poke_48 : decode cX5_poke 48 = .ok (.iload 5, 2) := by decide +kernel
theorem dX5_poke_50 : decode cX5_poke 50 = .ok (.iastore, 1) := by decide +kernel
theorem dX5_poke_51 : decode cX5_poke 51 = .ok (.iconst 1, 1) := by decide +kernel
theorem dX5_poke_52 : decode cX5_poke 52 = .ok (.ireturn, 1) := by decide +kernel
theorem dX5_start_0 : decode cX5_start 0 = .ok (.iload_n 1, 1) := by decide +kernel
theorem dX5_start_1 : decode cX5_start 1 = .ok (.invokestatic 29, 3) := by decide +kernel
theorem dX5_start_4 : decode cX5_start 4 = .ok (.ifCond .eq 15, 3) := by decide +kernel
theorem dX5_start_7 : decode cX5_start 7 = .ok (.aload_n 0, 1) := by decide +kernel
theorem dX5_start_8 : decode cX5_start 8 = .ok (.getfield 11, 3) := by decide +kernel
theorem dX5_start_11 : decode cX5_start 11 = .ok (.iload_n 1, 1) := by decide +kernel
theorem dX5_start_12 : decode cX5_start 12 = .ok (.aaload, 1) := by decide +kernel
theorem dX5_start_13 : decode cX5_start 13 = .ok (.getfield 37, 3) := by decide +kernel
theorem dX5_start_16 : decode cX5_start 16 = .ok (.ifCond .eq 5, 3) := by decide +kernel
theorem dX5_start_19 : decode cX5_start 19 = .ok (.iconst (-1), 1) := by decide +kernel
theorem dX5_start_20 : decode cX5_start 20 = .ok (.ireturn, 1) := by decide +kernel
theorem dX5_start_21 : decode cX5_start 21 = .ok (.aload_n 0, 1) := by decide +kernel
theorem dX5_start_22 : decode cX5_start 22 = .ok (.getfield 11, 3) := by decide +kernel
theorem dX5_start_25 : decode cX5_start 25 = .ok (.iload_n 1, 1) := by decide +kernel
theorem dX5_start_26 : decode cX5_start 26 = .ok (.aaload, 1) := by decide +kernel
theorem dX5_start_27 : decode cX5_start 27 = .ok (.iconst 1, 1) := by decide +kernel
theorem dX5_start_28 : decode cX5_start 28 = .ok (.putfield 37, 3) := by decide +kernel
theorem dX5_start_31 : decode cX5_start 31 = .ok (.iconst 1, 1) := by decide +kernel
theorem dX5_start_32 : decode cX5_start 32 = .ok (.ireturn, 1) := by decide +kernel
theorem dX5_counter_0 : decode cX5_counter 0 = .ok (.iload_n 1, 1) := by decide +kernel
theorem dX5_counter_1 : decode cX5_counter 1 = .ok (.invokestatic 29, 3) := by decide +kernel
theorem dX5_counter_4 : decode cX5_counter 4 = .ok (.ifCond .eq 13, 3) := by decide +kernel
theorem dX5_counter_7 : decode cX5_counter 7 = .ok (.iload_n 2, 1) := by decide +kernel
theorem dX5_counter_8 : decode cX5_counter 8 = .ok (.ifCond .lt 9, 3) := by decide +kernel
theorem dX5_counter_11 : decode cX5_counter 11 = .ok (.iload_n 2, 1) := by decide +kernel
theorem dX5_counter_12 : decode cX5_counter 12 = .ok (.bipush 32, 2) := by decide +kernel
theorem dX5_counter_14 : decode cX5_counter 14 = .ok (.if_icmp .le 5, 3) := by decide +kernel
theorem dX5_counter_17 : decode cX5_counter 17 = .ok (.iconst (-1), 1) := by decide +kernel
theorem dX5_counter_18 : decode cX5_counter 18 = .ok (.ireturn, 1) := by decide +kernel
theorem dX5_counter_19 : decode cX5_counter 19 = .ok (.aload_n 0, 1) := by decide +kernel
theorem dX5_counter_20 : decode cX5_counter 20 = .ok (.getfield 11, 3) := by decide +kernel
theorem dX5_counter_23 : decode cX5_counter 23 = .ok (.iload_n 1, 1) := by decide +kernel
theorem dX5_counter_24 : decode cX5_counter 24 = .ok (.aaload, 1) := by decide +kernel
theorem dX5_counter_25 : decode cX5_counter 25 = .ok (.getfield 40, 3) := by decide +kernel
theorem dX5_counter_28 : decode cX5_counter 28 = .ok (.istore_n 3, 1) := by decide +kernel
theorem dX5_counter_29 : decode cX5_counter 29 = .ok (.iload_n 2, 1) := by decide +kernel
theorem dX5_counter_30 : decode cX5_counter 30 = .ok (.iload_n 3, 1) := by decide +kernel
theorem dX5_counter_31 : decode cX5_counter 31 = .ok (.if_icmp .ge 6, 3) := by decide +kernel
theorem dX5_counter_34 : decode cX5_counter 34 = .ok (.bipush (-2), 2) := by decide +kernel
theorem dX5_counter_36 : decode cX5_counter 36 = .ok (.ireturn, 1) := by decide +kernel
theorem dX5_counter_37 : decode cX5_counter 37 = .ok (.aload_n 0, 1) := by decide +kernel
theorem dX5_counter_38 : decode cX5_counter 38 = .ok (.getfield 11, 3) := by decide +kernel
theorem dX5_counter_41 : decode cX5_counter 41 = .ok (.iload_n 1, 1) := by decide +kernel
theorem dX5_counter_42 : decode cX5_counter 42 = .ok (.aaload, 1) := by decide +kernel
theorem dX5_counter_43 : decode cX5_counter 43 = .ok (.iload_n 2, 1) := by decide +kernel
theorem dX5_counter_44 : decode cX5_counter 44 = .ok (.putfield 40, 3) := by decide +kernel
theorem dX5_counter_47 : decode cX5_counter 47 = .ok (.iload_n 3, 1) := by decide +kernel
theorem dX5_counter_48 : decode cX5_counter 48 = .ok (.ireturn, 1) := by decide +kernel
theorem dX5_tag_0 : decode cX5_tag 0 = .ok (.iload_n 1, 1) := by decide +kernel
theorem dX5_tag_1 : decode cX5_tag 1 = .ok (.invokestatic 29, 3) := by decide +kernel
theorem dX5_tag_4 : decode cX5_tag 4 = .ok (.ifCond .eq 11, 3) := by decide +kernel
theorem dX5_tag_7 : decode cX5_tag 7 = .ok (.aload_n 0, 1) := by decide +kernel
theorem dX5_tag_8 : decode cX5_tag 8 = .ok (.iload_n 2, 1) := by decide +kernel
theorem dX5_tag_9 : decode cX5_tag 9 = .ok (.invokevirtual 43, 3) := by decide +kernel
theorem dX5_tag_12 : decode cX5_tag 12 = .ok (.ifCond .ne 5, 3) := by decide +kernel
theorem dX5_tag_15 : decode cX5_tag 15 = .ok (.iconst (-1), 1) := by decide +kernel
theorem dX5_tag_16 : decode cX5_tag 16 = .ok (.ireturn, 1) := by decide +kernel
theorem dX5_tag_17 : decode cX5_tag 17 = .ok (.aload_n 0, 1) := by decide +kernel
theorem dX5_tag_18 : decode cX5_tag 18 = .ok (.getfield 11, 3) := by decide +kernel
theorem dX5_tag_21 : decode cX5_tag 21 = .ok (.iload_n 1, 1) := by decide +kernel
theorem dX5_tag_22 : decode cX5_tag 22 = .ok (.aaload, 1) := by decide +kernel
theorem dX5_tag_23 : decode cX5_tag 23 = .ok (.getfield 46, 3) := by decide +kernel
theorem dX5_tag_26 : decode cX5_tag 26 = .ok (.iload_n 2, 1) := by decide +kernel
theorem dX5_tag_27 : decode cX5_tag 27 = .ok (.iload_n 3, 1) := by decide +kernel
theorem dX5_tag_28 : decode cX5_tag 28 = .ok (.bipush 16, 2) := by decide +kernel
theorem dX5_tag_30 : decode cX5_tag 30 = .ok (.invokevirtual 49, 3) := by decide +kernel
theorem dX5_tag_33 : decode cX5_tag 33 = .ok (.ireturn, 1) := by decide +kernel
theorem dX5_capability_0 : decode cX5_capability 0 = .ok (.iload_n 1, 1) := by decide +kernel
theorem dX5_capability_1 : decode cX5_capability 1 = .ok (.invokestatic 29, 3) := by decide +kernel
theorem dX5_capability_4 : decode cX5_capability 4 = .ok (.ifCond .eq 20, 3) := by decide +kernel
theorem dX5_capability_7 : decode cX5_capability 7 = .ok (.iload_n 2, 1) := by decide +kernel
theorem dX5_capability_8 : decode cX5_capability 8 = .ok (.ifCond .eq 8, 3) := by decide +kernel
theorem dX5_capability_11 : decode cX5_capability 11 = .ok (.iload_n 2, 1) := by decide +kernel
theorem dX5_capability_12 : decode cX5_capability 12 = .ok (.iconst 1, 1) := by decide +kernel
theorem dX5_capability_13 : decode cX5_capability 13 = .ok (.if_icmp .ne 11, 3) := by decide +kernel
theorem dX5_capability_16 : decode cX5_capability 16 = .ok (.aload_n 0, 1) := by decide +kernel
theorem dX5_capability_17 : decode cX5_capability 17 = .ok (.iload_n 3, 1) := by decide +kernel
theorem dX5_capability_18 : decode cX5_capability 18 = .ok (.invokevirtual 43, 3) := by decide +kernel
theorem dX5_capability_21 : decode cX5_capability 21 = .ok (.ifCond .ne 5, 3) := by decide +kernel
theorem dX5_capability_24 : decode cX5_capability 24 = .ok (.iconst (-1), 1) := by decide +kernel
theorem dX5_capability_25 : decode cX5_capability 25 = .ok (.ireturn, 1) := by decide +kernel
theorem dX5_capability_26 : decode cX5_capability 26 = .ok (.aload_n 0, 1) := by decide +kernel
theorem dX5_capability_27 : decode cX5_capability 27 = .ok (.getfield 11, 3) := by decide +kernel
theorem dX5_capability_30 : decode cX5_capability 30 = .ok (.iload_n 1, 1) := by decide +kernel
theorem dX5_capability_31 : decode cX5_capability 31 = .ok (.aaload, 1) := by decide +kernel
theorem dX5_capability_32 : decode cX5_capability 32 = .ok (.iload_n 2, 1) := by decide +kernel
theorem dX5_capability_33 : decode cX5_capability 33 = .ok (.invokevirtual 53, 3) := by decide +kernel
theorem dX5_capability_36 : decode cX5_capability 36 = .ok (.iload_n 3, 1) := by decide +kernel
theorem dX5_capability_37 : decode cX5_capability 37 = .ok (.iload 4, 2) := by decide +kernel
theorem dX5_capability_39 : decode cX5_capability 39 = .ok (.bipush 40, 2) := by decide +kernel
theorem dX5_capability_41 : decode cX5_capability 41 = .ok (.invokevirtual 49, 3) := by decide +kernel
theorem dX5_capability_44 : decode cX5_capability 44 = .ok (.ireturn, 1) := by decide +kernel
theorem dX5_file_0 : decode cX5_file 0 = .ok (.iload_n 1, 1) := by decide +kernel
theorem dX5_file_1 : decode cX5_file 1 = .ok (.invokestatic 57, 3) := by decide +kernel
theorem dX5_file_4 : decode cX5_file 4 = .ok (.ifCond .eq 15, 3) := by decide +kernel
theorem dX5_file_7 : decode cX5_file 7 = .ok (.iload_n 2, 1) := by decide +kernel
theorem dX5_file_8 : decode cX5_file 8 = .ok (.ifCond .lt 13, 3) := by decide +kernel
theorem dX5_file_11 : decode cX5_file 11 = .ok (.aload_n 0, 1) := by decide +kernel
theorem dX5_file_12 : decode cX5_file 12 = .ok (.iload_n 2, 1) := by decide +kernel
theorem dX5_file_13 : decode cX5_file 13 = .ok (.invokevirtual 43, 3) := by decide +kernel
theorem dX5_file_16 : decode cX5_file 16 = .ok (.ifCond .ne 5, 3) := by decide +kernel
theorem dX5_file_19 : decode cX5_file 19 = .ok (.iconst (-1), 1) := by decide +kernel
theorem dX5_file_20 : decode cX5_file 20 = .ok (.ireturn, 1) := by decide +kernel
theorem dX5_file_21 : decode cX5_file 21 = .ok (.aload_n 0, 1) := by decide +kernel
theorem dX5_file_22 : decode cX5_file 22 = .ok (.iload_n 1, 1) := by decide +kernel
theorem dX5_file_23 : decode cX5_file 23 = .ok (.invokevirtual 60, 3) := by decide +kernel
theorem dX5_file_26 : decode cX5_file 26 = .ok (.astore_n 3, 1) := by decide +kernel
theorem dX5_file_27 : decode cX5_file 27 = .ok (.aload_n 3, 1) := by decide +kernel
theorem dX5_file_28 : decode cX5_file 28 = .ok (.iconst 1, 1) := by decide +kernel
theorem dX5_file_29 : decode cX5_file 29 = .ok (.putfield 64, 3) := by decide +kernel
theorem dX5_file_32 : decode cX5_file 32 = .ok (.iload_n 2, 1) := by decide +kernel
theorem dX5_file_33 : decode cX5_file 33 = .ok (.ifCond .ge 11, 3) := by decide +kernel
theorem dX5_file_36 : decode cX5_file 36 = .ok (.aload_n 3, 1) := by decide +kernel
theorem dX5_file_37 : decode cX5_file 37 = .ok (.getfield 70, 3) := by decide +kernel
theorem dX5_file_40 : decode cX5_file 40 = .ok (.getfield 71, 3) := by decide +kernel
theorem dX5_file_43 : decode cX5_file 43 = .ok (.ireturn, 1) := by decide +kernel
theorem dX5_file_44 : decode cX5_file 44 = .ok (.aload_n 3, 1) := by decide +kernel
theorem dX5_file_45 : decode cX5_file 45 = .ok (.getfield 70, 3) := by decide +kernel
theorem dX5_file_48 : decode cX5_file 48 = .ok (.iload_n 2, 1) := by decide +kernel
theorem dX5_file_49 : decode cX5_file 49 = .ok (.iconst 1, 1) := by decide +kernel
theorem dX5_file_50 : decode cX5_file 50 = .ok (.bipush 16, 2) := by decide +kernel
theorem dX5_file_52 : decode cX5_file 52 = .ok (.invokevirtual 49, 3) := by decide +kernel
theorem dX5_file_55 : decode cX5_file 55 = .ok (.ireturn, 1) := by decide +kernel
theorem dX5_fill_0 : decode cX5_fill 0 = .ok (.aload_n 0, 1) := by decide +kernel
theorem dX5_fill_1 : decode cX5_fill 1 = .ok (.iload_n 1, 1) := by decide +kernel
theorem dX5_fill_2 : decode cX5_fill 2 = .ok (.iload_n 2, 1) := by decide +kernel
theorem dX5_fill_3 : decode cX5_fill 3 = .ok (.invokevirtual 74, 3) := by decide +kernel
theorem dX5_fill_6 : decode cX5_fill 6 = .ok (.ifCond .ne 5, 3) := by decide +kernel
theorem dX5_fill_9 : decode cX5_fill 9 = .ok (.iconst 0, 1) := by decide +kernel
theorem dX5_fill_10 : decode cX5_fill 10 = .ok (.ireturn, 1) := by decide +kernel
theorem dX5_fill_11 : decode cX5_fill 11 = .ok (.aload_n 0, 1) := by decide +kernel
theorem dX5_fill_12 : decode cX5_fill 12 = .ok (.iload_n 1, 1) := by decide +kernel
theorem dX5_fill_13 : decode cX5_fill 13 = .ok (.invokevirtual 60, 3) := by decide +kernel
theorem dX5_fill_16 : decode cX5_fill 16 = .ok (.getfield 78, 3) := by decide +kernel
theorem dX5_fill_19 : decode cX5_fill 19 = .ok (.astore 4, 2) := by decide +kernel
theorem dX5_fill_21 : decode cX5_fill 21 = .ok (.aload 4, 2) := by decide +kernel
theorem dX5_fill_23 : decode cX5_fill 23 = .ok (.iload_n 2, 1) := by decide +kernel
theorem dX5_fill_24 : decode cX5_fill 24 = .ok (.iaload, 1) := by decide +kernel
theorem dX5_fill_25 : decode cX5_fill 25 = .ok (.istore 5, 2) := by decide +kernel
theorem dX5_fill_27 : decode cX5_fill 27 = .ok (.aload 4, 2) := by decide +kernel
theorem dX5_fill_29 : decode cX5_fill 29 = .ok (.iload_n 2, 1) := by decide +kernel
theorem dX5_fill_30 : decode cX5_fill 30 = .ok (.iload_n 3, 1) := by decide +kernel
theorem dX5_fill_31 : decode cX5_fill 31 = .ok (.iastore, 1) := by decide +kernel
theorem dX5_fill_32 : decode cX5_fill 32 = .ok (.iload 5, 2) := by decide +kernel
theorem dX5_fill_34 : decode cX5_fill 34 = .ok (.ireturn, 1) := by decide +kernel
theorem dX5_post_0 : decode cX5_post 0 = .ok (.iload_n 1, 1) := by decide +kernel
theorem dX5_post_1 : decode cX5_post 1 = .ok (.invokestatic 29, 3) := by decide +kernel
theorem dX5_post_4 : decode cX5_post 4 = .ok (.ifCond .eq 10, 3) := by decide +kernel
theorem dX5_post_7 : decode cX5_post 7 = .ok (.iload_n 2, 1) := by decide +kernel
theorem dX5_post_8 : decode cX5_post 8 = .ok (.invokestatic 29, 3) := by decide +kernel
theorem dX5_post_11 : decode cX5_post 11 = .ok (.ifCond .ne 5, 3) := by decide +kernel
theorem dX5_post_14 : decode cX5_post 14 = .ok (.iconst (-1), 1) := by decide +kernel
theorem dX5_post_15 : decode cX5_post 15 = .ok (.ireturn, 1) := by decide +kernel
theorem dX5_post_16 : decode cX5_post 16 = .ok (.aload_n 0, 1) := by decide +kernel
theorem dX5_post_17 : decode cX5_post 17 = .ok (.getfield 11, 3) := by decide +kernel
theorem dX5_post_20 : decode cX5_post 20 = .ok (.iload_n 2, 1) := by decide +kernel
theorem dX5_post_21 : decode cX5_post 21 = .ok (.aaload, 1) := by decide +kernel
theorem dX5_post_22 : decode cX5_post 22 = .ok (.getfield 81, 3) := by decide +kernel
theorem dX5_post_25 : decode cX5_post 25 = .ok (.astore 4, 2) := by decide +kernel
theorem dX5_post_27 : decode cX5_post 27 = .ok (.aload 4, 2) := by decide +kernel
theorem dX5_post_29 : decode cX5_post 29 = .ok (.aload_n 0, 1) := by decide +kernel
theorem dX5_post_30 : decode cX5_post 30 = .ok (.getfield 11, 3) := by decide +kernel
theorem dX5_post_33 : decode cX5_post 33 = .ok (.iload_n 1, 1) := by decide +kernel
theorem dX5_post_34 : decode cX5_post 34 = .ok (.aaload, 1) := by decide +kernel
theorem dX5_post_35 : decode cX5_post 35 = .ok (.iload_n 3, 1) := by decide +kernel
theorem dX5_post_36 : decode cX5_post 36 = .ok (.iconst (-1), 1) := by decide +kernel
theorem dX5_post_37 : decode cX5_post 37 = .ok (.invokevirtual 85, 3) := by decide +kernel
theorem dX5_post_40 : decode cX5_post 40 = .ok (.ifCond .ne 5, 3) := by decide +kernel
theorem dX5_post_43 : decode cX5_post 43 = .ok (.iconst (-1), 1) := by decide +kernel
theorem dX5_post_44 : decode cX5_post 44 = .ok (.ireturn, 1) := by decide +kernel
theorem dX5_post_45 : decode cX5_post 45 = .ok (.aload 4, 2) := by decide +kernel
theorem dX5_post_47 : decode cX5_post 47 = .ok (.getfield 91, 3) := by decide +kernel
theorem dX5_post_50 : decode cX5_post 50 = .ok (.ireturn, 1) := by decide +kernel
theorem dX5_run_0 : decode cX5_run 0 = .ok (.iload_n 1, 1) := by decide +kernel
theorem dX5_run_1 : decode cX5_run 1 = .ok (.ifCond .lt 10, 3) := by decide +kernel
theorem dX5_run_4 : decode cX5_run 4 = .ok (.iload_n 1, 1) := by decide +kernel
theorem dX5_run_5 : decode cX5_run 5 = .ok (.sipush 5000, 3) := by decide +kernel
theorem dX5_run_8 : decode cX5_run 8 = .ok (.if_icmp .le 5, 3) := by decide +kernel
theorem dX5_run_11 : decode cX5_run 11 = .ok (.iconst (-1), 1) := by decide +kernel
theorem dX5_run_12 : decode cX5_run 12 = .ok (.ireturn, 1) := by decide +kernel
theorem dX5_run_13 : decode cX5_run 13 = .ok (.iconst 0, 1) := by decide +kernel
theorem dX5_run_14 : decode cX5_run 14 = .ok (.istore_n 2, 1) := by decide +kernel
theorem dX5_run_15 : decode cX5_run 15 = .ok (.iload_n 2, 1) := by decide +kernel
theorem dX5_run_16 : decode cX5_run 16 = .ok (.iload_n 1, 1) := by decide +kernel
theorem dX5_run_17 : decode cX5_run 17 = .ok (.if_icmp .ge 47, 3) := by decide +kernel
theorem dX5_run_20 : decode cX5_run 20 = .ok (.aload_n 0, 1) := by decide +kernel
theorem dX5_run_21 : decode cX5_run 21 = .ok (.getfield 11, 3) := by decide +kernel
theorem dX5_run_24 : decode cX5_run 24 = .ok (.aload_n 0, 1) := by decide +kernel
theorem dX5_run_25 : decode cX5_run 25 = .ok (.getfield 25, 3) := by decide +kernel
theorem dX5_run_28 : decode cX5_run 28 = .ok (.bipush 8, 2) := by decide +kernel
theorem dX5_run_30 : decode cX5_run 30 = .ok (.invokestatic 92, 3) := by decide +kernel
theorem dX5_run_33 : decode cX5_run 33 = .ok (.aaload, 1) := by decide +kernel
theorem dX5_run_34 : decode cX5_run 34 = .ok (.astore_n 3, 1) := by decide +kernel
theorem dX5_run_35 : decode cX5_run 35 = .ok (.aload_n 0, 1) := by decide +kernel
theorem dX5_run_36 : decode cX5_run 36 = .ok (.dup, 1) := by decide +kernel
theorem dX5_run_37 : decode cX5_run 37 = .ok (.getfield 25, 3) := by decide +kernel
theorem dX5_run_40 : decode cX5_run 40 = .ok (.iconst 1, 1) := by decide +kernel
theorem dX5_run_41 : decode cX5_run 41 = .ok (.iadd, 1) := by decide +kernel
theorem dX5_run_42 : decode cX5_run 42 = .ok (.putfield 25, 3) := by decide +kernel
theorem dX5_run_45 : decode cX5_run 45 = .ok (.aload_n 3, 1) := by decide +kernel
theorem dX5_run_46 : decode cX5_run 46 = .ok (.getfield 37, 3) := by decide +kernel
theorem dX5_run_49 : decode cX5_run 49 = .ok (.iconst 1, 1) := by decide +kernel
theorem dX5_run_50 : decode cX5_run 50 = .ok (.if_icmp .ne 8, 3) := by decide +kernel
theorem dX5_run_53 : decode cX5_run 53 = .ok (.aload_n 0, 1) := by decide +kernel
theorem dX5_run_54 : decode cX5_run 54 = .ok (.aload_n 3, 1) := by decide +kernel
theorem dX5_run_55 : decode cX5_run 55 = .ok (.invokevirtual 98, 3) := by decide +kernel
theorem dX5_run_58 : decode cX5_run 58 = .ok (.iinc 2 1, 3) := by decide +kernel
theorem dX5_run_61 : decode cX5_run 61 = .ok (.goto (-46), 3) := by decide +kernel
theorem dX5_run_64 : decode cX5_run 64 = .ok (.aload_n 0, 1) := by decide +kernel
theorem dX5_run_65 : decode cX5_run 65 = .ok (.getfield 25, 3) := by decide +kernel
theorem dX5_run_68 : decode cX5_run 68 = .ok (.ireturn, 1) := by decide +kernel
theorem dX5_cell_0 : decode cX5_cell 0 = .ok (.iload_n 1, 1) := by decide +kernel
theorem dX5_cell_1 : decode cX5_cell 1 = .ok (.invokestatic 29, 3) := by decide +kernel
theorem dX5_cell_4 : decode cX5_cell 4 = .ok (.ifCond .eq 24, 3) := by decide +kernel
theorem dX5_cell_7 : decode cX5_cell 7 = .ok (.iload_n 2, 1) := by decide +kernel
theorem dX5_cell_8 : decode cX5_cell 8 = .ok (.invokestatic 102, 3) := by decide +kernel
theorem dX5_cell_11 : decode cX5_cell 11 = .ok (.ifCond .eq 17, 3) := by decide +kernel
theorem dX5_cell_14 : decode cX5_cell 14 = .ok (.aload_n 0, 1) := by decide +kernel
theorem dX5_cell_15 : decode cX5_cell 15 = .ok (.getfield 11, 3) := by decide +kernel
theorem dX5_cell_18 : decode cX5_cell 18 = .ok (.iload_n 1, 1) := by decide +kernel
theorem dX5_cell_19 : decode cX5_cell 19 = .ok (.aaload, 1) := by decide +kernel
theorem dX5_cell_20 : decode cX5_cell 20 = .ok (.getfield 33, 3) := by decide +kernel
theorem dX5_cell_23 : decode cX5_cell 23 = .ok (.iload_n 2, 1) := by decide +kernel
theorem dX5_cell_24 : decode cX5_cell 24 = .ok (.iaload, 1) := by decide +kernel
theorem dX5_cell_25 : decode cX5_cell 25 = .ok (.goto 4, 3) := by decide +kernel
theorem dX5_cell_28 : decode cX5_cell 28 = .ok (.iconst 0, 1) := by decide +kernel
theorem dX5_cell_29 : decode cX5_cell 29 = .ok (.ireturn, 1) := by decide +kernel
theorem dX5_slot_0 : decode cX5_slot 0 = .ok (.iload_n 1, 1) := by decide +kernel
theorem dX5_slot_1 : decode cX5_slot 1 = .ok (.invokestatic 29, 3) := by decide +kernel
theorem dX5_slot_4 : decode cX5_slot 4 = .ok (.ifCond .ne 5, 3) := by decide +kernel
theorem dX5_slot_7 : decode cX5_slot 7 = .ok (.iconst (-1), 1) := by decide +kernel
theorem dX5_slot_8 : decode cX5_slot 8 = .ok (.ireturn, 1) := by decide +kernel
theorem dX5_slot_9 : decode cX5_slot 9 = .ok (.aload_n 0, 1) := by decide +kernel
theorem dX5_slot_10 : decode cX5_slot 10 = .ok (.getfield 11, 3) := by decide +kernel
theorem dX5_slot_13 : decode cX5_slot 13 = .ok (.iload_n 1, 1) := by decide +kernel
theorem dX5_slot_14 : decode cX5_slot 14 = .ok (.aaload, 1) := by decide +kernel
theorem dX5_slot_15 : decode cX5_slot 15 = .ok (.astore_n 3, 1) := by decide +kernel
theorem dX5_slot_16 : decode cX5_slot 16 = .ok (.iload_n 2, 1) := by decide +kernel
theorem dX5_slot_17 : decode cX5_slot 17 = .ok (.tableswitch 126 0 10 #[59, 64, 69, 74, 79, 87, 92, 100, 108, 116, 121], 59) := by decide +kernel
theorem dX5_slot_76 : decode cX5_slot 76 = .ok (.aload_n 3, 1) := by decide +kernel
theorem dX5_slot_77 : decode cX5_slot 77 = .ok (.getfield 37, 3) := by decide +kernel
theorem dX5_slot_80 : decode cX5_slot 80 = .ok (.ireturn, 1) := by decide +kernel
theorem dX5_slot_81 : decode cX5_slot 81 = .ok (.aload_n 3, 1) := by decide +kernel
theorem dX5_slot_82 : decode cX5_slot 82 = .ok (.getfield 105, 3) := by decide +kernel
theorem dX5_slot_85 : decode cX5_slot 85 = .ok (.ireturn, 1) := by decide +kernel
theorem dX5_slot_86 : decode cX5_slot 86 = .ok (.aload_n 3, 1) := by decide +kernel
theorem dX5_slot_87 : decode cX5_slot 87 = .ok (.getfield 108, 3) := by decide +kernel
theorem dX5_slot_90 : decode cX5_slot 90 = .ok (.ireturn, 1) := by decide +kernel
theorem dX5_slot_91 : decode cX5_slot 91 = .ok (.aload_n 3, 1) := by decide +kernel
theorem dX5_slot_92 : decode cX5_slot 92 = .ok (.getfield 111, 3) := by decide +kernel
theorem dX5_slot_95 : decode cX5_slot 95 = .ok (.ireturn, 1) := by decide +kernel
theorem dX5_slot_96 : decode cX5_slot 96 = .ok (.aload_n 3, 1) := by decide +kernel
theorem dX5_slot_97 : decode cX5_slot 97 = .ok (.getfield 46, 3) := by decide +kernel
theorem dX5_slot_100 : decode cX5_slot 100 = .ok (.getfield 71, 3) := by decide +kernel
theorem dX5_slot_103 : decode cX5_slot 103 = .ok (.ireturn, 1) := by decide +kernel
theorem dX5_slot_104 : decode cX5_slot 104 = .ok (.aload_n 3, 1) := by decide +kernel
theorem dX5_slot_105 : decode cX5_slot 105 = .ok (.getfield 40, 3) := by decide +kernel
theorem dX5_slot_108 : decode cX5_slot 108 = .ok (.ireturn, 1) := by decide +kernel
theorem dX5_slot_109 : decode cX5_slot 109 = .ok (.aload_n 3, 1) := by decide +kernel
theorem dX5_slot_110 : decode cX5_slot 110 = .ok (.getfield 114, 3) := by decide +kernel
theorem dX5_slot_113 : decode cX5_slot 113 = .ok (.getfield 71, 3) := by decide +kernel
theorem dX5_slot_116 : decode cX5_slot 116 = .ok (.ireturn, 1) := by decide +kernel
theorem dX5_slot_117 : decode cX5_slot 117 = .ok (.aload_n 3, 1) := by decide +kernel
theorem dX5_slot_118 : decode cX5_slot 118 = .ok (.getfield 117, 3) := by decide +kernel
theorem dX5_slot_121 : decode cX5_slot 121 = .ok (.getfield 71, 3) := by decide +kernel
theorem dX5_slot_124 : decode cX5_slot 124 = .ok (.ireturn, 1) := by decide +kernel
theorem dX5_slot_125 : decode cX5_slot 125 = .ok (.aload_n 3, 1) := by decide +kernel
theorem dX5_slot_126 : decode cX5_slot 126 = .ok (.getfield 81, 3) := by decide +kernel
theorem dX5_slot_129 : decode cX5_slot 129 = .ok (.getfield 91, 3) := by decide +kernel
theorem dX5_slot_132 : decode cX5_slot 132 = .ok (.ireturn, 1) := by decide +kernel
theorem dX5_slot_133 : decode cX5_slot 133 = .ok (.aload_n 3, 1) := by decide +kernel
theorem dX5_slot_134 : decode cX5_slot 134 = .ok (.invokevirtual 120, 3) := by decide +kernel
theorem dX5_slot_137 : decode cX5_slot 137 = .ok (.ireturn, 1) := by decide +kernel
theorem dX5_slot_138 : decode cX5_slot 138 = .ok (.aload_n 3, 1) := by decide +kernel
theorem dX5_slot_139 : decode cX5_slot 139 = .ok (.getfield 124, 3) := by decide +kernel
theorem dX5_slot_142 : decode cX5_slot 142 = .ok (.ireturn, 1) := by decide +kernel
theorem dX5_slot_143 : decode cX5_slot 143 = .ok (.iconst (-1), 1) := by decide +kernel
theorem dX5_slot_144 : decode cX5_slot 144 = .ok (.ireturn, 1) := by decide +kernel
theorem dX5_label_0 : decode cX5_label 0 = .ok (.iload_n 1, 1) := by decide +kernel
theorem dX5_label_1 : decode cX5_label 1 = .ok (.invokestatic 29, 3) := by decide +kernel
theorem dX5_label_4 : decode cX5_label 4 = .ok (.ifCond .eq 19, 3) := by decide +kernel
theorem dX5_label_7 : decode cX5_label 7 = .ok (.aload_n 0, 1) := by decide +kernel
theorem dX5_label_8 : decode cX5_label 8 = .ok (.getfield 11, 3) := by decide +kernel
theorem dX5_label_11 : decode cX5_label 11 = .ok (.iload_n 1, 1) := by decide +kernel
theorem dX5_label_12 : decode cX5_label 12 = .ok (.aaload, 1) := by decide +kernel
theorem dX5_label_13 : decode cX5_label 13 = .ok (.getfield 46, 3) := by decide +kernel
theorem dX5_label_16 : decode cX5_label 16 = .ok (.iload_n 2, 1) := by decide +kernel
theorem dX5_label_17 : decode cX5_label 17 = .ok (.invokevirtual 127, 3) := by decide +kernel
theorem dX5_label_20 : decode cX5_label 20 = .ok (.goto 4, 3) := by decide +kernel
theorem dX5_label_23 : decode cX5_label 23 = .ok (.iconst (-1), 1) := by decide +kernel
theorem dX5_label_24 : decode cX5_label 24 = .ok (.ireturn, 1) := by decide +kernel
theorem dX5_output_0 : decode cX5_output 0 = .ok (.aload_n 0, 1) := by decide +kernel
theorem dX5_output_1 : decode cX5_output 1 = .ok (.iload_n 1, 1) := by decide +kernel
theorem dX5_output_2 : decode cX5_output 2 = .ok (.iload_n 2, 1) := by decide +kernel
theorem dX5_output_3 : decode cX5_output 3 = .ok (.invokevirtual 131, 3) := by decide +kernel
theorem dX5_output_6 : decode cX5_output 6 = .ok (.ifCond .eq 17, 3) := by decide +kernel
theorem dX5_output_9 : decode cX5_output 9 = .ok (.aload_n 0, 1) := by decide +kernel
theorem dX5_output_10 : decode cX5_output 10 = .ok (.getfield 11, 3) := by decide +kernel
theorem dX5_output_13 : decode cX5_output 13 = .ok (.iload_n 1, 1) := by decide +kernel
theorem dX5_output_14 : decode cX5_output 14 = .ok (.aaload, 1) := by decide +kernel
theorem dX5_output_15 : decode cX5_output 15 = .ok (.getfield 134, 3) := by decide +kernel
theorem dX5_output_18 : decode cX5_output 18 = .ok (.iload_n 2, 1) := by decide +kernel
theorem dX5_output_19 : decode cX5_output 19 = .ok (.iaload, 1) := by decide +kernel
theorem dX5_output_20 : decode cX5_output 20 = .ok (.goto 4, 3) := by decide +kernel
theorem dX5_output_23 : decode cX5_output 23 = .ok (.iconst 0, 1) := by decide +kernel
theorem dX5_output_24 : decode cX5_output 24 = .ok (.ireturn, 1) := by decide +kernel
theorem dX5_outputTags_0 : decode cX5_outputTags 0 = .ok (.aload_n 0, 1) := by decide +kernel
theorem dX5_outputTags_1 : decode cX5_outputTags 1 = .ok (.iload_n 1, 1) := by decide +kernel
theorem dX5_outputTags_2 : decode cX5_outputTags 2 = .ok (.iload_n 2, 1) := by decide +kernel
theorem dX5_outputTags_3 : decode cX5_outputTags 3 = .ok (.invokevirtual 131, 3) := by decide +kernel
theorem dX5_outputTags_6 : decode cX5_outputTags 6 = .ok (.ifCond .eq 17, 3) := by decide +kernel
theorem dX5_outputTags_9 : decode cX5_outputTags 9 = .ok (.aload_n 0, 1) := by decide +kernel
theorem dX5_outputTags_10 : decode cX5_outputTags 10 = .ok (.getfield 11, 3) := by decide +kernel
theorem dX5_outputTags_13 : decode cX5_outputTags 13 = .ok (.iload_n 1, 1) := by decide +kernel
theorem dX5_outputTags_14 : decode cX5_outputTags 14 = .ok (.aaload, 1) := by decide +kernel
theorem dX5_outputTags_15 : decode cX5_outputTags 15 = .ok (.getfield 137, 3) := by decide +kernel
theorem dX5_outputTags_18 : decode cX5_outputTags 18 = .ok (.iload_n 2, 1) := by decide +kernel
theorem dX5_outputTags_19 : decode cX5_outputTags 19 = .ok (.iaload, 1) := by decide +kernel
theorem dX5_outputTags_20 : decode cX5_outputTags 20 = .ok (.goto 4, 3) := by decide +kernel
theorem dX5_outputTags_23 : decode cX5_outputTags 23 = .ok (.iconst (-1), 1) := by decide +kernel
theorem dX5_outputTags_24 : decode cX5_outputTags 24 = .ok (.ireturn, 1) := by decide +kernel
theorem dX5_content_0 : decode cX5_content 0 = .ok (.aload_n 0, 1) := by decide +kernel
theorem dX5_content_1 : decode cX5_content 1 = .ok (.iload_n 1, 1) := by decide +kernel
theorem dX5_content_2 : decode cX5_content 2 = .ok (.iload_n 2, 1) := by decide +kernel
theorem dX5_content_3 : decode cX5_content 3 = .ok (.invokevirtual 74, 3) := by decide +kernel
theorem dX5_content_6 : decode cX5_content 6 = .ok (.ifCond .eq 16, 3) := by decide +kernel
theorem dX5_content_9 : decode cX5_content 9 = .ok (.aload_n 0, 1) := by decide +kernel
theorem dX5_content_10 : decode cX5_content 10 = .ok (.iload_n 1, 1) := by decide +kernel
theorem dX5_content_11 : decode cX5_content 11 = .ok (.invokevirtual 60, 3) := by decide +kernel
theorem dX5_content_14 : decode cX5_content 14 = .ok (.getfield 78, 3) := by decide +kernel
theorem dX5_content_17 : decode cX5_content 17 = .ok (.iload_n 2, 1) := by decide +kernel
theorem dX5_content_18 : decode cX5_content 18 = .ok (.iaload, 1) := by decide +kernel
theorem dX5_content_19 : decode cX5_content 19 = .ok (.goto 4, 3) := by decide +kernel
theorem dX5_content_22 : decode cX5_content 22 = .ok (.iconst 0, 1) := by decide +kernel
theorem dX5_content_23 : decode cX5_content 23 = .ok (.ireturn, 1) := by decide +kernel
theorem dX5_fileTags_0 : decode cX5_fileTags 0 = .ok (.iload_n 1, 1) := by decide +kernel
theorem dX5_fileTags_1 : decode cX5_fileTags 1 = .ok (.invokestatic 57, 3) := by decide +kernel
theorem dX5_fileTags_4 : decode cX5_fileTags 4 = .ok (.ifCond .eq 28, 3) := by decide +kernel
theorem dX5_fileTags_7 : decode cX5_fileTags 7 = .ok (.aload_n 0, 1) := by decide +kernel
theorem dX5_fileTags_8 : decode cX5_fileTags 8 = .ok (.iload_n 1, 1) := by decide +kernel
theorem dX5_fileTags_9 : decode cX5_fileTags 9 = .ok (.invokevirtual 60, 3) := by decide +kernel
theorem dX5_fileTags_12 : decode cX5_fileTags 12 = .ok (.getfield 64, 3) := by decide +kernel
theorem dX5_fileTags_15 : decode cX5_fileTags 15 = .ok (.ifCond .eq 17, 3) := by decide +kernel
theorem dX5_fileTags_18 : decode cX5_fileTags 18 = .ok (.aload_n 0, 1) := by decide +kernel
theorem dX5_fileTags_19 : decode cX5_fileTags 19 = .ok (.iload_n 1, 1) := by decide +kernel
theorem dX5_fileTags_20 : decode cX5_fileTags 20 = .ok (.invokevirtual 60, 3) := by decide +kernel
theorem dX5_fileTags_23 : decode cX5_fileTags 23 = .ok (.getfield 70, 3) := by decide +kernel
theorem dX5_fileTags_26 : decode cX5_fileTags 26 = .ok (.getfield 71, 3) := by decide +kernel
theorem dX5_fileTags_29 : decode cX5_fileTags 29 = .ok (.goto 4, 3) := by decide +kernel
theorem dX5_fileTags_32 : decode cX5_fileTags 32 = .ok (.iconst (-1), 1) := by decide +kernel
theorem dX5_fileTags_33 : decode cX5_fileTags 33 = .ok (.ireturn, 1) := by decide +kernel
theorem dX5_mayFlow_0 : decode cX5_mayFlow 0 = .ok (.iload_n 1, 1) := by decide +kernel
theorem dX5_mayFlow_1 : decode cX5_mayFlow 1 = .ok (.invokestatic 29, 3) := by decide +kernel
theorem dX5_mayFlow_4 : decode cX5_mayFlow 4 = .ok (.ifCond .eq 38, 3) := by decide +kernel
theorem dX5_mayFlow_7 : decode cX5_mayFlow 7 = .ok (.iload_n 2, 1) := by decide +kernel
theorem dX5_mayFlow_8 : decode cX5_mayFlow 8 = .ok (.invokestatic 29, 3) := by decide +kernel
theorem dX5_mayFlow_11 : decode cX5_mayFlow 11 = .ok (.ifCond .eq 31, 3) := by decide +kernel
theorem dX5_mayFlow_14 : decode cX5_mayFlow 14 = .ok (.aload_n 0, 1) := by decide +kernel
theorem dX5_mayFlow_15 : decode cX5_mayFlow 15 = .ok (.getfield 11, 3) := by decide +kernel
theorem dX5_mayFlow_18 : decode cX5_mayFlow 18 = .ok (.iload_n 1, 1) := by decide +kernel
theorem dX5_mayFlow_19 : decode cX5_mayFlow 19 = .ok (.aaload, 1) := by decide +kernel
theorem dX5_mayFlow_20 : decode cX5_mayFlow 20 = .ok (.getfield 46, 3) := by decide +kernel
theorem dX5_mayFlow_23 : decode cX5_mayFlow 23 = .ok (.aload_n 0, 1) := by decide +kernel
theorem dX5_mayFlow_24 : decode cX5_mayFlow 24 = .ok (.getfield 11, 3) := by decide +kernel
theorem dX5_mayFlow_27 : decode cX5_mayFlow 27 = .ok (.iload_n 2, 1) := by decide +kernel
theorem dX5_mayFlow_28 : decode cX5_mayFlow 28 = .ok (.aaload, 1) := by decide +kernel
theorem dX5_mayFlow_29 : decode cX5_mayFlow 29 = .ok (.getfield 46, 3) := by decide +kernel
theorem dX5_mayFlow_32 : decode cX5_mayFlow 32 = .ok (.invokevirtual 140, 3) := by decide +kernel
theorem dX5_mayFlow_35 : decode cX5_mayFlow 35 = .ok (.ifCond .eq 7, 3) := by decide +kernel
theorem dX5_mayFlow_38 : decode cX5_mayFlow 38 = .ok (.iconst 1, 1) := by decide +kernel
theorem dX5_mayFlow_39 : decode cX5_mayFlow 39 = .ok (.goto 4, 3) := by decide +kernel
theorem dX5_mayFlow_42 : decode cX5_mayFlow 42 = .ok (.iconst 0, 1) := by decide +kernel
theorem dX5_mayFlow_43 : decode cX5_mayFlow 43 = .ok (.ireturn, 1) := by decide +kernel
theorem dX5_isSlot_0 : decode cX5_isSlot 0 = .ok (.iload_n 0, 1) := by decide +kernel
theorem dX5_isSlot_1 : decode cX5_isSlot 1 = .ok (.ifCond .lt 13, 3) := by decide +kernel
theorem dX5_isSlot_4 : decode cX5_isSlot 4 = .ok (.iload_n 0, 1) := by decide +kernel
theorem dX5_isSlot_5 : decode cX5_isSlot 5 = .ok (.bipush 8, 2) := by decide +kernel
theorem dX5_isSlot_7 : decode cX5_isSlot 7 = .ok (.if_icmp .ge 7, 3) := by decide +kernel
theorem dX5_isSlot_10 : decode cX5_isSlot 10 = .ok (.iconst 1, 1) := by decide +kernel
theorem dX5_isSlot_11 : decode cX5_isSlot 11 = .ok (.goto 4, 3) := by decide +kernel
theorem dX5_isSlot_14 : decode cX5_isSlot 14 = .ok (.iconst 0, 1) := by decide +kernel
theorem dX5_isSlot_15 : decode cX5_isSlot 15 = .ok (.ireturn, 1) := by decide +kernel
theorem dX5_isPlace_0 : decode cX5_isPlace 0 = .ok (.iload_n 0, 1) := by decide +kernel
theorem dX5_isPlace_1 : decode cX5_isPlace 1 = .ok (.ifCond .lt 14, 3) := by decide +kernel
theorem dX5_isPlace_4 : decode cX5_isPlace 4 = .ok (.iload_n 0, 1) := by decide +kernel
theorem dX5_isPlace_5 : decode cX5_isPlace 5 = .ok (.sipush 128, 3) := by decide +kernel
theorem dX5_isPlace_8 : decode cX5_isPlace 8 = .ok (.if_icmp .ge 7, 3) := by decide +kernel
theorem dX5_isPlace_11 : decode cX5_isPlace 11 = .ok (.iconst 1, 1) := by decide +kernel
theorem dX5_isPlace_12 : decode cX5_isPlace 12 = .ok (.goto 4, 3) := by decide +kernel
theorem dX5_isPlace_15 : decode cX5_isPlace 15 = .ok (.iconst 0, 1) := by decide +kernel
theorem dX5_isPlace_16 : decode cX5_isPlace 16 = .ok (.ireturn, 1) := by decide +kernel
theorem dX5_isTag_0 : decode cX5_isTag 0 = .ok (.iload_n 0, 1) := by decide +kernel
theorem dX5_isTag_1 : decode cX5_isTag 1 = .ok (.ifCond .lt 14, 3) := by decide +kernel
theorem dX5_isTag_4 : decode cX5_isTag 4 = .ok (.iload_n 0, 1) := by decide +kernel
theorem dX5_isTag_5 : decode cX5_isTag 5 = .ok (.sipush 256, 3) := by decide +kernel
theorem dX5_isTag_8 : decode cX5_isTag 8 = .ok (.if_icmp .ge 7, 3) := by decide +kernel
theorem dX5_isTag_11 : decode cX5_isTag 11 = .ok (.iconst 1, 1) := by decide +kernel
theorem dX5_isTag_12 : decode cX5_isTag 12 = .ok (.goto 4, 3) := by decide +kernel
theorem dX5_isTag_15 : decode cX5_isTag 15 = .ok (.iconst 0, 1) := by decide +kernel
theorem dX5_isTag_16 : decode cX5_isTag 16 = .ok (.ireturn, 1) := by decide +kernel
theorem dX5_isFile_0 : decode cX5_isFile 0 = .ok (.iload_n 0, 1) := by decide +kernel
theorem dX5_isFile_1 : decode cX5_isFile 1 = .ok (.ifCond .lt 13, 3) := by decide +kernel
theorem dX5_isFile_4 : decode cX5_isFile 4 = .ok (.iload_n 0, 1) := by decide +kernel
theorem dX5_isFile_5 : decode cX5_isFile 5 = .ok (.bipush 64, 2) := by decide +kernel
theorem dX5_isFile_7 : decode cX5_isFile 7 = .ok (.if_icmp .ge 7, 3) := by decide +kernel
theorem dX5_isFile_10 : decode cX5_isFile 10 = .ok (.iconst 1, 1) := by decide +kernel
theorem dX5_isFile_11 : decode cX5_isFile 11 = .ok (.goto 4, 3) := by decide +kernel
theorem dX5_isFile_14 : decode cX5_isFile 14 = .ok (.iconst 0, 1) := by decide +kernel
theorem dX5_isFile_15 : decode cX5_isFile 15 = .ok (.ireturn, 1) := by decide +kernel
theorem dX5_isThere_0 : decode cX5_isThere 0 = .ok (.iload_n 1, 1) := by decide +kernel
theorem dX5_isThere_1 : decode cX5_isThere 1 = .ok (.invokestatic 144, 3) := by decide +kernel
theorem dX5_isThere_4 : decode cX5_isThere 4 = .ok (.ifCond .eq 26, 3) := by decide +kernel
theorem dX5_isThere_7 : decode cX5_isThere 7 = .ok (.iload_n 1, 1) := by decide +kernel
theorem dX5_isThere_8 : decode cX5_isThere 8 = .ok (.bipush 32, 2) := by decide +kernel
theorem dX5_isThere_10 : decode cX5_isThere 10 = .ok (.irem, 1) := by decide +kernel
theorem dX5_isThere_11 : decode cX5_isThere 11 = .ok (.aload_n 0, 1) := by decide +kernel
theorem dX5_isThere_12 : decode cX5_isThere 12 = .ok (.getfield 11, 3) := by decide +kernel
theorem dX5_isThere_15 : decode cX5_isThere 15 = .ok (.iload_n 1, 1) := by decide +kernel
theorem dX5_isThere_16 : decode cX5_isThere 16 = .ok (.bipush 32, 2) := by decide +kernel
theorem dX5_isThere_18 : decode cX5_isThere 18 = .ok (.idiv, 1) := by decide +kernel
theorem dX5_isThere_19 : decode cX5_isThere 19 = .ok (.aaload, 1) := by decide +kernel
theorem dX5_isThere_20 : decode cX5_isThere 20 = .ok (.getfield 40, 3) := by decide +kernel
theorem dX5_isThere_23 : decode cX5_isThere 23 = .ok (.if_icmp .ge 7, 3) := by decide +kernel
theorem dX5_isThere_26 : decode cX5_isThere 26 = .ok (.iconst 1, 1) := by decide +kernel
theorem dX5_isThere_27 : decode cX5_isThere 27 = .ok (.goto 4, 3) := by decide +kernel
theorem dX5_isThere_30 : decode cX5_isThere 30 = .ok (.iconst 0, 1) := by decide +kernel
theorem dX5_isThere_31 : decode cX5_isThere 31 = .ok (.ireturn, 1) := by decide +kernel
theorem dX5_fileAt_0 : decode cX5_fileAt 0 = .ok (.aload_n 0, 1) := by decide +kernel
theorem dX5_fileAt_1 : decode cX5_fileAt 1 = .ok (.getfield 11, 3) := by decide +kernel
theorem dX5_fileAt_4 : decode cX5_fileAt 4 = .ok (.iload_n 1, 1) := by decide +kernel
theorem dX5_fileAt_5 : decode cX5_fileAt 5 = .ok (.bipush 8, 2) := by decide +kernel
theorem dX5_fileAt_7 : decode cX5_fileAt 7 = .ok (.idiv, 1) := by decide +kernel
theorem dX5_fileAt_8 : decode cX5_fileAt 8 = .ok (.aaload, 1) := by decide +kernel
theorem dX5_fileAt_9 : decode cX5_fileAt 9 = .ok (.getfield 147, 3) := by decide +kernel
theorem dX5_fileAt_12 : decode cX5_fileAt 12 = .ok (.iload_n 1, 1) := by decide +kernel
theorem dX5_fileAt_13 : decode cX5_fileAt 13 = .ok (.bipush 8, 2) := by decide +kernel
theorem dX5_fileAt_15 : decode cX5_fileAt 15 = .ok (.irem, 1) := by decide +kernel
theorem dX5_fileAt_16 : decode cX5_fileAt 16 = .ok (.aaload, 1) := by decide +kernel
theorem dX5_fileAt_17 : decode cX5_fileAt 17 = .ok (.areturn, 1) := by decide +kernel
theorem dX5_isFileCell_0 : decode cX5_isFileCell 0 = .ok (.iload_n 1, 1) := by decide +kernel
theorem dX5_isFileCell_1 : decode cX5_isFileCell 1 = .ok (.invokestatic 57, 3) := by decide +kernel
theorem dX5_isFileCell_4 : decode cX5_isFileCell 4 = .ok (.ifCond .eq 28, 3) := by decide +kernel
theorem dX5_isFileCell_7 : decode cX5_isFileCell 7 = .ok (.iload_n 2, 1) := by decide +kernel
theorem dX5_isFileCell_8 : decode cX5_isFileCell 8 = .ok (.ifCond .lt 24, 3) := by decide +kernel
theorem dX5_isFileCell_11 : decode cX5_isFileCell 11 = .ok (.iload_n 2, 1) := by decide +kernel
theorem dX5_isFileCell_12 : decode cX5_isFileCell 12 = .ok (.bipush 8, 2) := by decide +kernel
theorem dX5_isFileCell_14 : decode cX5_isFileCell 14 = .ok (.if_icmp .ge 18, 3) := by decide +kernel
theorem dX5_isFileCell_17 : decode cX5_isFileCell 17 = .ok (.aload_n 0, 1) := by decide +kernel
theorem dX5_isFileCell_18 : decode cX5_isFileCell 18 = .ok (.iload_n 1, 1) := by decide +kernel
theorem dX5_isFileCell_19 : decode cX5_isFileCell 19 = .ok (.invokevirtual 60, 3) := by decide +kernel
theorem dX5_isFileCell_22 : decode cX5_isFileCell 22 = .ok (.getfield 64, 3) := by decide +kernel
theorem dX5_isFileCell_25 : decode cX5_isFileCell 25 = .ok (.ifCond .eq 7, 3) := by decide +kernel
theorem dX5_isFileCell_28 : decode cX5_isFileCell 28 = .ok (.iconst 1, 1) := by decide +kernel
theorem dX5_isFileCell_29 : decode cX5_isFileCell 29 = .ok (.goto 4, 3) := by decide +kernel
theorem dX5_isFileCell_32 : decode cX5_isFileCell 32 = .ok (.iconst 0, 1) := by decide +kernel
theorem dX5_isFileCell_33 : decode cX5_isFileCell 33 = .ok (.ireturn, 1) := by decide +kernel
theorem dX5_isOutput_0 : decode cX5_isOutput 0 = .ok (.iload_n 1, 1) := by decide +kernel
theorem dX5_isOutput_1 : decode cX5_isOutput 1 = .ok (.invokestatic 29, 3) := by decide +kernel
theorem dX5_isOutput_4 : decode cX5_isOutput 4 = .ok (.ifCond .eq 24, 3) := by decide +kernel
theorem dX5_isOutput_7 : decode cX5_isOutput 7 = .ok (.iload_n 2, 1) := by decide +kernel
theorem dX5_isOutput_8 : decode cX5_isOutput 8 = .ok (.ifCond .lt 20, 3) := by decide +kernel
theorem dX5_isOutput_11 : decode cX5_isOutput 11 = .ok (.iload_n 2, 1) := by decide +kernel
theorem dX5_isOutput_12 : decode cX5_isOutput 12 = .ok (.aload_n 0, 1) := by decide +kernel
theorem dX5_isOutput_13 : decode cX5_isOutput 13 = .ok (.getfield 11, 3) := by decide +kernel
theorem dX5_isOutput_16 : decode cX5_isOutput 16 = .ok (.iload_n 1, 1) := by decide +kernel
theorem dX5_isOutput_17 : decode cX5_isOutput 17 = .ok (.aaload, 1) := by decide +kernel
theorem dX5_isOutput_18 : decode cX5_isOutput 18 = .ok (.getfield 124, 3) := by decide +kernel
theorem dX5_isOutput_21 : decode cX5_isOutput 21 = .ok (.if_icmp .ge 7, 3) := by decide +kernel
theorem dX5_isOutput_24 : decode cX5_isOutput 24 = .ok (.iconst 1, 1) := by decide +kernel
theorem dX5_isOutput_25 : decode cX5_isOutput 25 = .ok (.goto 4, 3) := by decide +kernel
theorem dX5_isOutput_28 : decode cX5_isOutput 28 = .ok (.iconst 0, 1) := by decide +kernel
theorem dX5_isOutput_29 : decode cX5_isOutput 29 = .ok (.ireturn, 1) := by decide +kernel
theorem dX5_step_0 : decode cX5_step 0 = .ok (.aload_n 1, 1) := by decide +kernel
theorem dX5_step_1 : decode cX5_step 1 = .ok (.getfield 111, 3) := by decide +kernel
theorem dX5_step_4 : decode cX5_step 4 = .ok (.invokestatic 102, 3) := by decide +kernel
theorem dX5_step_7 : decode cX5_step 7 = .ok (.ifCond .ne 9, 3) := by decide +kernel
theorem dX5_step_10 : decode cX5_step 10 = .ok (.aload_n 1, 1) := by decide +kernel
theorem dX5_step_11 : decode cX5_step 11 = .ok (.iconst 2, 1) := by decide +kernel
theorem dX5_step_12 : decode cX5_step 12 = .ok (.invokevirtual 151, 3) := by decide +kernel
theorem dX5_step_15 : decode cX5_step 15 = .ok (.return_, 1) := by decide +kernel
theorem dX5_step_16 : decode cX5_step 16 = .ok (.aload_n 1, 1) := by decide +kernel
theorem dX5_step_17 : decode cX5_step 17 = .ok (.getfield 33, 3) := by decide +kernel
theorem dX5_step_20 : decode cX5_step 20 = .ok (.aload_n 1, 1) := by decide +kernel
theorem dX5_step_21 : decode cX5_step 21 = .ok (.getfield 111, 3) := by decide +kernel
theorem dX5_step_24 : decode cX5_step 24 = .ok (.iaload, 1) := by decide +kernel
theorem dX5_step_25 : decode cX5_step 25 = .ok (.istore_n 2, 1) := by decide +kernel
theorem dX5_step_26 : decode cX5_step 26 = .ok (.iload_n 2, 1) := by decide +kernel
theorem dX5_step_27 : decode cX5_step 27 = .ok (.bipush 31, 2) := by decide +kernel
theorem dX5_step_29 : decode cX5_step 29 = .ok (.iand, 1) := by decide +kernel
theorem dX5_step_30 : decode cX5_step 30 = .ok (.istore_n 3, 1) := by decide +kernel
theorem dX5_step_31 : decode cX5_step 31 = .ok (.iload_n 2, 1) := by decide +kernel
theorem dX5_step_32 : decode cX5_step 32 = .ok (.iconst 5, 1) := by decide +kernel
theorem dX5_step_33 : decode cX5_step 33 = .ok (.ishr, 1) := by decide +kernel
theorem dX5_step_34 : decode cX5_step 34 = .ok (.istore 4, 2) := by decide +kernel
theorem dX5_step_36 : decode cX5_step 36 = .ok (.aload_n 1, 1) := by decide +kernel
theorem dX5_step_37 : decode cX5_step 37 = .ok (.dup, 1) := by decide +kernel
theorem dX5_step_38 : decode cX5_step 38 = .ok (.getfield 111, 3) := by decide +kernel
theorem dX5_step_41 : decode cX5_step 41 = .ok (.iconst 1, 1) := by decide +kernel
theorem dX5_step_42 : decode cX5_step 42 = .ok (.iadd, 1) := by decide +kernel
theorem dX5_step_43 : decode cX5_step 43 = .ok (.putfield 111, 3) := by decide +kernel
theorem dX5_step_46 : decode cX5_step 46 = .ok (.iload_n 3, 1) := by decide +kernel
theorem dX5_step_47 : decode cX5_step 47 = .ok (.bipush 16, 2) := by decide +kernel
theorem dX5_step_49 : decode cX5_step 49 = .ok (.if_icmp .ne 13, 3) := by decide +kernel
theorem dX5_step_52 : decode cX5_step 52 = .ok (.aload_n 0, 1) := by decide +kernel
theorem dX5_step_53 : decode cX5_step 53 = .ok (.aload_n 1, 1) := by decide +kernel
theorem dX5_step_54 : decode cX5_step 54 = .ok (.iload 4, 2) := by decide +kernel
theorem dX5_step_56 : decode cX5_step 56 = .ok (.invokevirtual 154, 3) := by decide +kernel
theorem dX5_step_59 : decode cX5_step 59 = .ok (.goto 43, 3) := by decide +kernel
theorem dX5_step_62 : decode cX5_step 62 = .ok (.iload_n 3, 1) := by decide +kernel
theorem dX5_step_63 : decode cX5_step 63 = .ok (.invokestatic 158, 3) := by decide +kernel
theorem dX5_step_66 : decode cX5_step 66 = .ok (.ifCond .ne 13, 3) := by decide +kernel
theorem dX5_step_69 : decode cX5_step 69 = .ok (.aload_n 1, 1) := by decide +kernel
theorem dX5_step_70 : decode cX5_step 70 = .ok (.iload_n 3, 1) := by decide +kernel
theorem dX5_step_71 : decode cX5_step 71 = .ok (.iload 4, 2) := by decide +kernel
theorem dX5_step_73 : decode cX5_step 73 = .ok (.invokestatic 161, 3) := by decide +kernel
theorem dX5_step_76 : decode cX5_step 76 = .ok (.goto 26, 3) := by decide +kernel
theorem dX5_step_79 : decode cX5_step 79 = .ok (.iload 4, 2) := by decide +kernel
theorem dX5_step_81 : decode cX5_step 81 = .ok (.invokestatic 102, 3) := by decide +kernel
theorem dX5_step_84 : decode cX5_step 84 = .ok (.ifCond .eq 13, 3) := by decide +kernel
theorem dX5_step_87 : decode cX5_step 87 = .ok (.aload_n 1, 1) := by decide +kernel
theorem dX5_step_88 : decode cX5_step 88 = .ok (.iload_n 3, 1) := by decide +kernel
theorem dX5_step_89 : decode cX5_step 89 = .ok (.iload 4, 2) := by decide +kernel
theorem dX5_step_91 : decode cX5_step 91 = .ok (.invokestatic 165, 3) := by decide +kernel
theorem dX5_step_94 : decode cX5_step 94 = .ok (.goto 8, 3) := by decide +kernel
theorem dX5_step_97 : decode cX5_step 97 = .ok (.aload_n 1, 1) := by decide +kernel
theorem dX5_step_98 : decode cX5_step 98 = .ok (.iconst 2, 1) := by decide +kernel
theorem dX5_step_99 : decode cX5_step 99 = .ok (.invokevirtual 151, 3) := by decide +kernel
theorem dX5_step_102 : decode cX5_step 102 = .ok (.return_, 1) := by decide +kernel
theorem dX5_wantsCell_0 : decode cX5_wantsCell 0 = .ok (.iload_n 0, 1) := by decide +kernel
theorem dX5_wantsCell_1 : decode cX5_wantsCell 1 = .ok (.iconst 1, 1) := by decide +kernel
theorem dX5_wantsCell_2 : decode cX5_wantsCell 2 = .ok (.if_icmp .eq 19, 3) := by decide +kernel
theorem dX5_wantsCell_5 : decode cX5_wantsCell 5 = .ok (.iload_n 0, 1) := by decide +kernel
theorem dX5_wantsCell_6 : decode cX5_wantsCell 6 = .ok (.iconst 2, 1) := by decide +kernel
theorem dX5_wantsCell_7 : decode cX5_wantsCell 7 = .ok (.if_icmp .eq 14, 3) := by decide +kernel
theorem dX5_wantsCell_10 : decode cX5_wantsCell 10 = .ok (.iload_n 0, 1) := by decide +kernel
theorem dX5_wantsCell_11 : decode cX5_wantsCell 11 = .ok (.iconst 4, 1) := by decide +kernel
theorem dX5_wantsCell_12 : decode cX5_wantsCell 12 = .ok (.if_icmp .lt 13, 3) := by decide +kernel
theorem dX5_wantsCell_15 : decode cX5_wantsCell 15 = .ok (.iload_n 0, 1) := by decide +kernel
theorem dX5_wantsCell_16 : decode cX5_wantsCell 16 = .ok (.bipush 12, 2) := by decide +kernel
theorem dX5_wantsCell_18 : decode cX5_wantsCell 18 = .ok (.if_icmp .gt 7, 3) := by decide +kernel
theorem dX5_wantsCell_21 : decode cX5_wantsCell 21 = .ok (.iconst 1, 1) := by decide +kernel
theorem dX5_wantsCell_22 : decode cX5_wantsCell 22 = .ok (.goto 4, 3) := by decide +kernel
theorem dX5_wantsCell_25 : decode cX5_wantsCell 25 = .ok (.iconst 0, 1) := by decide +kernel
theorem dX5_wantsCell_26 : decode cX5_wantsCell 26 = .ok (.ireturn, 1) := by decide +kernel
theorem dX5_plainInstruction_0 : decode cX5_plainInstruction 0 = .ok (.iload_n 1, 1) := by decide +kernel
theorem dX5_plainInstruction_1 : decode cX5_plainInstruction 1 = .ok (.lookupswitch 105 #[(0, 51), (3, 59), (13, 67), (14, 75), (15, 90)], 51) := by decide +kernel
theorem dX5_plainInstruction_52 : decode cX5_plainInstruction 52 = .ok (.aload_n 0, 1) := by decide +kernel
theorem dX5_plainInstruction_53 : decode cX5_plainInstruction 53 = .ok (.iconst 2, 1) := by decide +kernel
theorem dX5_plainInstruction_54 : decode cX5_plainInstruction 54 = .ok (.putfield 37, 3) := by decide +kernel
theorem dX5_plainInstruction_57 : decode cX5_plainInstruction 57 = .ok (.goto 54, 3) := by decide +kernel
theorem dX5_plainInstruction_60 : decode cX5_plainInstruction 60 = .ok (.aload_n 0, 1) := by decide +kernel
theorem dX5_plainInstruction_61 : decode cX5_plainInstruction 61 = .ok (.iload_n 2, 1) := by decide +kernel
theorem dX5_plainInstruction_62 : decode cX5_plainInstruction 62 = .ok (.putfield 108, 3) := by decide +kernel
theorem dX5_plainInstruction_65 : decode cX5_plainInstruction 65 = .ok (.goto 46, 3) := by decide +kernel
theorem dX5_plainInstruction_68 : decode cX5_plainInstruction 68 = .ok (.aload_n 0, 1) := by decide +kernel
theorem dX5_plainInstruction_69 : decode cX5_plainInstruction 69 = .ok (.iload_n 2, 1) := by decide +kernel
theorem dX5_plainInstruction_70 : decode cX5_plainInstruction 70 = .ok (.putfield 111, 3) := by decide +kernel
theorem dX5_plainInstruction_73 : decode cX5_plainInstruction 73 = .ok (.goto 38, 3) := by decide +kernel
theorem dX5_plainInstruction_76 : decode cX5_plainInstruction 76 = .ok (.aload_n 0, 1) := by decide +kernel
theorem dX5_plainInstruction_77 : decode cX5_plainInstruction 77 = .ok (.getfield 108, 3) := by decide +kernel
theorem dX5_plainInstruction_80 : decode cX5_plainInstruction 80 = .ok (.ifCond .ne 31, 3) := by decide +kernel
theorem dX5_plainInstruction_83 : decode cX5_plainInstruction 83 = .ok (.aload_n 0, 1) := by decide +kernel
theorem dX5_plainInstruction_84 : decode cX5_plainInstruction 84 = .ok (.iload_n 2, 1) := by decide +kernel
theorem dX5_plainInstruction_85 : decode cX5_plainInstruction 85 = .ok (.putfield 111, 3) := by decide +kernel
theorem dX5_plainInstruction_88 : decode cX5_plainInstruction 88 = .ok (.goto 23, 3) := by decide +kernel
theorem dX5_plainInstruction_91 : decode cX5_plainInstruction 91 = .ok (.aload_n 0, 1) := by decide +kernel
theorem dX5_plainInstruction_92 : decode cX5_plainInstruction 92 = .ok (.getfield 108, 3) := by decide +kernel
theorem dX5_plainInstruction_95 : decode cX5_plainInstruction 95 = .ok (.ifCond .ge 16, 3) := by decide +kernel
theorem dX5_plainInstruction_98 : decode cX5_plainInstruction 98 = .ok (.aload_n 0, 1) := by decide +kernel
theorem dX5_plainInstruction_99 : decode cX5_plainInstruction 99 = .ok (.iload_n 2, 1) := by decide +kernel
theorem dX5_plainInstruction_100 : decode cX5_plainInstruction 100 = .ok (.putfield 111, 3) := by decide +kernel
theorem dX5_plainInstruction_103 : decode cX5_plainInstruction 103 = .ok (.goto 8, 3) := by decide +kernel
theorem dX5_plainInstruction_106 : decode cX5_plainInstruction 106 = .ok (.aload_n 0, 1) := by decide +kernel
theorem dX5_plainInstruction_107 : decode cX5_plainInstruction 107 = .ok (.iconst 1, 1) := by decide +kernel
theorem dX5_plainInstruction_108 : decode cX5_plainInstruction 108 = .ok (.invokevirtual 151, 3) := by decide +kernel
theorem dX5_plainInstruction_111 : decode cX5_plainInstruction 111 = .ok (.return_, 1) := by decide +kernel
theorem dX5_cellInstruction_0 : decode cX5_cellInstruction 0 = .ok (.aload_n 0, 1) := by decide +kernel
theorem dX5_cellInstruction_1 : decode cX5_cellInstruction 1 = .ok (.getfield 33, 3) := by decide +kernel
theorem dX5_cellInstruction_4 : decode cX5_cellInstruction 4 = .ok (.iload_n 2, 1) := by decide +kernel
theorem dX5_cellInstruction_5 : decode cX5_cellInstruction 5 = .ok (.iaload, 1) := by decide +kernel
theorem dX5_cellInstruction_6 : decode cX5_cellInstruction 6 = .ok (.istore_n 3, 1) := by decide +kernel
theorem dX5_cellInstruction_7 : decode cX5_cellInstruction 7 = .ok (.iload_n 1, 1) := by decide +kernel
theorem dX5_cellInstruction_8 : decode cX5_cellInstruction 8 = .ok (.tableswitch 168 1 12 #[64, 72, 168, 85, 85, 94, 107, 120, 133, 133, 142, 155], 64) := by decide +kernel
theorem dX5_cellInstruction_72 : decode cX5_cellInstruction 72 = .ok (.aload_n 0, 1) := by decide +kernel
theorem dX5_cellInstruction_73 : decode cX5_cellInstruction 73 = .ok (.iload_n 3, 1) := by decide +kernel
theorem dX5_cellInstruction_74 : decode cX5_cellInstruction 74 = .ok (.putfield 108, 3) := by decide +kernel
theorem dX5_cellInstruction_77 : decode cX5_cellInstruction 77 = .ok (.goto 104, 3) := by decide +kernel
theorem dX5_cellInstruction_80 : decode cX5_cellInstruction 80 = .ok (.aload_n 0, 1) := by decide +kernel
theorem dX5_cellInstruction_81 : decode cX5_cellInstruction 81 = .ok (.getfield 33, 3) := by decide +kernel
theorem dX5_cellInstruction_84 : decode cX5_cellInstruction 84 = .ok (.iload_n 2, 1) := by decide +kernel
theorem dX5_cellInstruction_85 : decode cX5_cellInstruction 85 = .ok (.aload_n 0, 1) := by decide +kernel
theorem dX5_cellInstruction_86 : decode cX5_cellInstruction 86 = .ok (.getfield 108, 3) := by decide +kernel
theorem dX5_cellInstruction_89 : decode cX5_cellInstruction 89 = .ok (.iastore, 1) := by decide +kernel
theorem dX5_cellInstruction_90 : decode cX5_cellInstruction 90 = .ok (.goto 91, 3) := by decide +kernel
theorem dX5_cellInstruction_93 : decode cX5_cellInstruction 93 = .ok (.aload_n 0, 1) := by decide +kernel
theorem dX5_cellInstruction_94 : decode cX5_cellInstruction 94 = .ok (.iload_n 1, 1) := by decide +kernel
theorem dX5_cellInstruction_95 : decode cX5_cellInstruction 95 = .ok (.iload_n 3, 1) := by decide +kernel
theorem dX5_cellInstruction_96 : decode cX5_cellInstruction 96 = .ok (.invokestatic 168, 3) := by decide +kernel
theorem dX5_cellInstruction_99 : decode cX5_cellInstruction 99 = .ok (.goto 82, 3) := by decide +kernel
theorem dX5_cellInstruction_102 : decode cX5_cellInstruction 102 = .ok (.aload_n 0, 1) := by decide +kernel
theorem dX5_cellInstruction_103 : decode cX5_cellInstruction 103 = .ok (.aload_n 0, 1) := by decide +kernel
theorem dX5_cellInstruction_104 : decode cX5_cellInstruction 104 = .ok (.getfield 108, 3) := by decide +kernel
theorem dX5_cellInstruction_107 : decode cX5_cellInstruction 107 = .ok (.iload_n 3, 1) := by decide +kernel
theorem dX5_cellInstruction_108 : decode cX5_cellInstruction 108 = .ok (.iadd, 1) := by decide +kernel
theorem dX5_cellInstruction_109 : decode cX5_cellInstruction 109 = .ok (.putfield 108, 3) := by decide +kernel
theorem dX5_cellInstruction_112 : decode cX5_cellInstruction 112 = .ok (.goto 69, 3) := by decide +kernel
theorem dX5_cellInstruction_115 : decode cX5_cellInstruction 115 = .ok (.aload_n 0, 1) := by decide +kernel
theorem dX5_cellInstruction_116 : decode cX5_cellInstruction 116 = .ok (.aload_n 0, 1) := by decide +kernel
theorem dX5_cellInstruction_117 : decode cX5_cellInstruction 117 = .ok (.getfield 108, 3) := by decide +kernel
theorem dX5_cellInstruction_120 : decode cX5_cellInstruction 120 = .ok (.iload_n 3, 1) := by decide +kernel
theorem dX5_cellInstruction_121 : decode cX5_cellInstruction 121 = .ok (.isub, 1) := by decide +kernel
theorem dX5_cellInstruction_122 : decode cX5_cellInstruction 122 = .ok (.putfield 108, 3) := by decide +kernel
theorem dX5_cellInstruction_125 : decode cX5_cellInstruction 125 = .ok (.goto 56, 3) := by decide +kernel
theorem dX5_cellInstruction_128 : decode cX5_cellInstruction 128 = .ok (.aload_n 0, 1) := by decide +kernel
theorem dX5_cellInstruction_129 : decode cX5_cellInstruction 129 = .ok (.aload_n 0, 1) := by decide +kernel
theorem dX5_cellInstruction_130 : decode cX5_cellInstruction 130 = .ok (.getfield 108, 3) := by decide +kernel
theorem dX5_cellInstruction_133 : decode cX5_cellInstruction 133 = .ok (.iload_n 3, 1) := by decide +kernel
theorem dX5_cellInstruction_134 : decode cX5_cellInstruction 134 = .ok (.imul, 1) := by decide +kernel
theorem dX5_cellInstruction_135 : decode cX5_cellInstruction 135 = .ok (.putfield 108, 3) := by decide +kernel
theorem dX5_cellInstruction_138 : decode cX5_cellInstruction 138 = .ok (.goto 43, 3) := by decide +kernel
theorem dX5_cellInstruction_141 : decode cX5_cellInstruction 141 = .ok (.aload_n 0, 1) := by decide +kernel
theorem dX5_cellInstruction_142 : decode cX5_cellInstruction 142 = .ok (.iload_n 1, 1) := by decide +kernel
theorem dX5_cellInstruction_143 : decode cX5_cellInstruction 143 = .ok (.iload_n 3, 1) := by decide +kernel
theorem dX5_cellInstruction_144 : decode cX5_cellInstruction 144 = .ok (.invokestatic 171, 3) := by decide +kernel
theorem dX5_cellInstruction_147 : decode cX5_cellInstruction 147 = .ok (.goto 34, 3) := by decide +kernel
theorem dX5_cellInstruction_150 : decode cX5_cellInstruction 150 = .ok (.aload_n 0, 1) := by decide +kernel
theorem dX5_cellInstruction_151 : decode cX5_cellInstruction 151 = .ok (.aload_n 0, 1) := by decide +kernel
theorem dX5_cellInstruction_152 : decode cX5_cellInstruction 152 = .ok (.getfield 108, 3) := by decide +kernel
theorem dX5_cellInstruction_155 : decode cX5_cellInstruction 155 = .ok (.iload_n 3, 1) := by decide +kernel
theorem dX5_cellInstruction_156 : decode cX5_cellInstruction 156 = .ok (.iand, 1) := by decide +kernel
theorem dX5_cellInstruction_157 : decode cX5_cellInstruction 157 = .ok (.putfield 108, 3) := by decide +kernel
theorem dX5_cellInstruction_160 : decode cX5_cellInstruction 160 = .ok (.goto 21, 3) := by decide +kernel
theorem dX5_cellInstruction_163 : decode cX5_cellInstruction 163 = .ok (.aload_n 0, 1) := by decide +kernel
theorem dX5_cellInstruction_164 : decode cX5_cellInstruction 164 = .ok (.aload_n 0, 1) := by decide +kernel
theorem dX5_cellInstruction_165 : decode cX5_cellInstruction 165 = .ok (.getfield 108, 3) := by decide +kernel
theorem dX5_cellInstruction_168 : decode cX5_cellInstruction 168 = .ok (.iload_n 3, 1) := by decide +kernel
theorem dX5_cellInstruction_169 : decode cX5_cellInstruction 169 = .ok (.ixor, 1) := by decide +kernel
theorem dX5_cellInstruction_170 : decode cX5_cellInstruction 170 = .ok (.putfield 108, 3) := by decide +kernel
theorem dX5_cellInstruction_173 : decode cX5_cellInstruction 173 = .ok (.goto 8, 3) := by decide +kernel
theorem dX5_cellInstruction_176 : decode cX5_cellInstruction 176 = .ok (.aload_n 0, 1) := by decide +kernel
theorem dX5_cellInstruction_177 : decode cX5_cellInstruction 177 = .ok (.iconst 1, 1) := by decide +kernel
theorem dX5_cellInstruction_178 : decode cX5_cellInstruction 178 = .ok (.invokevirtual 151, 3) := by decide +kernel
theorem dX5_cellInstruction_181 : decode cX5_cellInstruction 181 = .ok (.return_, 1) := by decide +kernel
theorem dX5_indirectInstruction_0 : decode cX5_indirectInstruction 0 = .ok (.iload_n 2, 1) := by decide +kernel
theorem dX5_indirectInstruction_1 : decode cX5_indirectInstruction 1 = .ok (.invokestatic 102, 3) := by decide +kernel
theorem dX5_indirectInstruction_4 : decode cX5_indirectInstruction 4 = .ok (.ifCond .ne 11, 3) := by decide +kernel
theorem dX5_indirectInstruction_7 : decode cX5_indirectInstruction 7 = .ok (.aload_n 0, 1) := by decide +kernel
theorem dX5_indirectInstruction_8 : decode cX5_indirectInstruction 8 = .ok (.iconst 2, 1) := by decide +kernel
theorem dX5_indirectInstruction_9 : decode cX5_indirectInstruction 9 = .ok (.invokevirtual 151, 3) := by decide +kernel
theorem dX5_indirectInstruction_12 : decode cX5_indirectInstruction 12 = .ok (.goto 31, 3) := by decide +kernel
theorem dX5_indirectInstruction_15 : decode cX5_indirectInstruction 15 = .ok (.iload_n 1, 1) := by decide +kernel
theorem dX5_indirectInstruction_16 : decode cX5_indirectInstruction 16 = .ok (.iconst 4, 1) := by decide +kernel
theorem dX5_indirectInstruction_17 : decode cX5_indirectInstruction 17 = .ok (.if_icmp .ne 16, 3) := by decide +kernel
theorem dX5_indirectInstruction_20 : decode cX5_indirectInstruction 20 = .ok (.aload_n 0, 1) := by decide +kernel
theorem dX5_indirectInstruction_21 : decode cX5_indirectInstruction 21 = .ok (.aload_n 0, 1) := by decide +kernel
theorem dX5_indirectInstruction_22 : decode cX5_indirectInstruction 22 = .ok (.getfield 33, 3) := by decide +kernel
theorem dX5_indirectInstruction_25 : decode cX5_indirectInstruction 25 = .ok (.iload_n 2, 1) := by decide +kernel
theorem dX5_indirectInstruction_26 : decode cX5_indirectInstruction 26 = .ok (.iaload, 1) := by decide +kernel
theorem dX5_indirectInstruction_27 : decode cX5_indirectInstruction 27 = .ok (.putfield 108, 3) := by decide +kernel
theorem dX5_indirectInstruction_30 : decode cX5_indirectInstruction 30 = .ok (.goto 13, 3) := by decide +kernel
theorem dX5_indirectInstruction_33 : decode cX5_indirectInstruction 33 = .ok (.aload_n 0, 1) := by decide +kernel
theorem dX5_indirectInstruction_34 : decode cX5_indirectInstruction 34 = .ok (.getfield 33, 3) := by decide +kernel
theorem dX5_indirectInstruction_37 : decode cX5_indirectInstruction 37 = .ok (.iload_n 2, 1) := by decide +kernel
theorem dX5_indirectInstruction_38 : decode cX5_indirectInstruction 38 = .ok (.aload_n 0, 1) := by decide +kernel
theorem dX5_indirectInstruction_39 : decode cX5_indirectInstruction 39 = .ok (.getfield 108, 3) := by decide +kernel
theorem dX5_indirectInstruction_42 : decode cX5_indirectInstruction 42 = .ok (.iastore, 1) := by decide +kernel
theorem dX5_indirectInstruction_43 : decode cX5_indirectInstruction 43 = .ok (.return_, 1) := by decide +kernel
theorem dX5_divideInstruction_0 : decode cX5_divideInstruction 0 = .ok (.iload_n 2, 1) := by decide +kernel
theorem dX5_divideInstruction_1 : decode cX5_divideInstruction 1 = .ok (.ifCond .ne 11, 3) := by decide +kernel
theorem dX5_divideInstruction_4 : decode cX5_divideInstruction 4 = .ok (.aload_n 0, 1) := by decide +kernel
theorem dX5_divideInstruction_5 : decode cX5_divideInstruction 5 = .ok (.iconst 3, 1) := by decide +kernel
theorem dX5_divideInstruction_6 : decode cX5_divideInstruction 6 = .ok (.invokevirtual 151, 3) := by decide +kernel
theorem dX5_divideInstruction_9 : decode cX5_divideInstruction 9 = .ok (.goto 32, 3) := by decide +kernel
theorem dX5_divideInstruction_12 : decode cX5_divideInstruction 12 = .ok (.iload_n 1, 1) := by decide +kernel
theorem dX5_divideInstruction_13 : decode cX5_divideInstruction 13 = .ok (.bipush 9, 2) := by decide +kernel
theorem dX5_divideInstruction_15 : decode cX5_divideInstruction 15 = .ok (.if_icmp .ne 16, 3) := by decide +kernel
theorem dX5_divideInstruction_18 : decode cX5_divideInstruction 18 = .ok (.aload_n 0, 1) := by decide +kernel
theorem dX5_divideInstruction_19 : decode cX5_divideInstruction 19 = .ok (.aload_n 0, 1) := by decide +kernel
theorem dX5_divideInstruction_20 : decode cX5_divideInstruction 20 = .ok (.getfield 108, 3) := by decide +kernel
theorem dX5_divideInstruction_23 : decode cX5_divideInstruction 23 = .ok (.iload_n 2, 1) := by decide +kernel
theorem dX5_divideInstruction_24 : decode cX5_divideInstruction 24 = .ok (.idiv, 1) := by decide +kernel
theorem dX5_divideInstruction_25 : decode cX5_divideInstruction 25 = .ok (.putfield 108, 3) := by decide +kernel
theorem dX5_divideInstruction_28 : decode cX5_divideInstruction 28 = .ok (.goto 13, 3) := by decide +kernel
theorem dX5_divideInstruction_31 : decode cX5_divideInstruction 31 = .ok (.aload_n 0, 1) := by decide +kernel
theorem dX5_divideInstruction_32 : decode cX5_divideInstruction 32 = .ok (.aload_n 0, 1) := by decide +kernel
theorem dX5_divideInstruction_33 : decode cX5_divideInstruction 33 = .ok (.getfield 108, 3) := by decide +kernel
theorem dX5_divideInstruction_36 : decode cX5_divideInstruction 36 = .ok (.iload_n 2, 1) := by decide +kernel
theorem dX5_divideInstruction_37 : decode cX5_divideInstruction 37 = .ok (.irem, 1) := by decide +kernel
theorem dX5_divideInstruction_38 : decode cX5_divideInstruction 38 = .ok (.putfield 108, 3) := by decide +kernel
theorem dX5_divideInstruction_41 : decode cX5_divideInstruction 41 = .ok (.return_, 1) := by decide +kernel
theorem dX5_systemCall_0 : decode cX5_systemCall 0 = .ok (.aload_n 1, 1) := by decide +kernel
theorem dX5_systemCall_1 : decode cX5_systemCall 1 = .ok (.getfield 33, 3) := by decide +kernel
theorem dX5_systemCall_4 : decode cX5_systemCall 4 = .ok (.bipush 120, 2) := by decide +kernel
theorem dX5_systemCall_6 : decode cX5_systemCall 6 = .ok (.iaload, 1) := by decide +kernel
theorem dX5_systemCall_7 : decode cX5_systemCall 7 = .ok (.istore_n 3, 1) := by decide +kernel
theorem dX5_systemCall_8 : decode cX5_systemCall 8 = .ok (.aload_n 1, 1) := by decide +kernel
theorem dX5_systemCall_9 : decode cX5_systemCall 9 = .ok (.getfield 33, 3) := by decide +kernel
theorem dX5_systemCall_12 : decode cX5_systemCall 12 = .ok (.bipush 121, 2) := by decide +kernel
theorem dX5_systemCall_14 : decode cX5_systemCall 14 = .ok (.iaload, 1) := by decide +kernel
theorem dX5_systemCall_15 : decode cX5_systemCall 15 = .ok (.istore 4, 2) := by decide +kernel
theorem dX5_systemCall_17 : decode cX5_systemCall 17 = .ok (.aload_n 1, 1) := by decide +kernel
theorem dX5_systemCall_18 : decode cX5_systemCall 18 = .ok (.getfield 33, 3) := by decide +kernel
theorem dX5_systemCall_21 : decode cX5_systemCall 21 = .ok (.bipush 122, 2) := by decide +kernel
theorem dX5_systemCall_23 : decode cX5_systemCall 23 = .ok (.iaload, 1) := by decide +kernel
theorem dX5_systemCall_24 : decode cX5_systemCall 24 = .ok (.istore 5, 2) := by decide +kernel
theorem dX5_systemCall_26 : decode cX5_systemCall 26 = .ok (.iload_n 2, 1) := by decide +kernel
theorem dX5_systemCall_27 : decode cX5_systemCall 27 = .ok (.iconst 1, 1) := by decide +kernel
theorem dX5_systemCall_28 : decode cX5_systemCall 28 = .ok (.if_icmp .eq 9, 3) := by decide +kernel
theorem dX5_systemCall_31 : decode cX5_systemCall 31 = .ok (.iload_n 2, 1) := by decide +kernel
theorem dX5_systemCall_32 : decode cX5_systemCall 32 = .ok (.bipush 6, 2) := by decide +kernel
theorem dX5_systemCall_34 : decode cX5_systemCall 34 = .ok (.if_icmp .ne 18, 3) := by decide +kernel
theorem dX5_systemCall_37 : decode cX5_systemCall 37 = .ok (.aload_n 0, 1) := by decide +kernel
theorem dX5_systemCall_38 : decode cX5_systemCall 38 = .ok (.aload_n 1, 1) := by decide +kernel
theorem dX5_systemCall_39 : decode cX5_systemCall 39 = .ok (.iload_n 3, 1) := by decide +kernel
theorem dX5_systemCall_40 : decode cX5_systemCall 40 = .ok (.invokevirtual 174, 3) := by decide +kernel
theorem dX5_systemCall_43 : decode cX5_systemCall 43 = .ok (.ifCond .ne 9, 3) := by decide +kernel
theorem dX5_systemCall_46 : decode cX5_systemCall 46 = .ok (.aload_n 1, 1) := by decide +kernel
theorem dX5_systemCall_47 : decode cX5_systemCall 47 = .ok (.iconst 2, 1) := by decide +kernel
theorem dX5_systemCall_48 : decode cX5_systemCall 48 = .ok (.invokevirtual 151, 3) := by decide +kernel
theorem dX5_systemCall_51 : decode cX5_systemCall 51 = .ok (.return_, 1) := by decide +kernel
theorem dX5_systemCall_52 : decode cX5_systemCall 52 = .ok (.iload_n 2, 1) := by decide +kernel
theorem dX5_systemCall_53 : decode cX5_systemCall 53 = .ok (.tableswitch 237 0 11 #[63, 74, 89, 103, 119, 136, 147, 162, 177, 194, 211, 223], 63) := by decide +kernel
theorem dX5_systemCall_116 : decode cX5_systemCall 116 = .ok (.aload_n 1, 1) := by decide +kernel
theorem dX5_systemCall_117 : decode cX5_systemCall 117 = .ok (.aload_n 1, 1) := by decide +kernel
theorem dX5_systemCall_118 : decode cX5_systemCall 118 = .ok (.invokevirtual 178, 3) := by decide +kernel
theorem dX5_systemCall_121 : decode cX5_systemCall 121 = .ok (.putfield 108, 3) := by decide +kernel
theorem dX5_systemCall_124 : decode cX5_systemCall 124 = .ok (.goto 171, 3) := by decide +kernel
theorem dX5_systemCall_127 : decode cX5_systemCall 127 = .ok (.aload_n 1, 1) := by decide +kernel
theorem dX5_systemCall_128 : decode cX5_systemCall 128 = .ok (.aload_n 1, 1) := by decide +kernel
theorem dX5_systemCall_129 : decode cX5_systemCall 129 = .ok (.aload_n 0, 1) := by decide +kernel
theorem dX5_systemCall_130 : decode cX5_systemCall 130 = .ok (.getfield 21, 3) := by decide +kernel
theorem dX5_systemCall_133 : decode cX5_systemCall 133 = .ok (.invokevirtual 181, 3) := by decide +kernel
theorem dX5_systemCall_136 : decode cX5_systemCall 136 = .ok (.putfield 108, 3) := by decide +kernel
theorem dX5_systemCall_139 : decode cX5_systemCall 139 = .ok (.goto 156, 3) := by decide +kernel
theorem dX5_systemCall_142 : decode cX5_systemCall 142 = .ok (.aload_n 1, 1) := by decide +kernel
theorem dX5_systemCall_143 : decode cX5_systemCall 143 = .ok (.aload_n 1, 1) := by decide +kernel
theorem dX5_systemCall_144 : decode cX5_systemCall 144 = .ok (.iload 4, 2) := by decide +kernel
theorem dX5_systemCall_146 : decode cX5_systemCall 146 = .ok (.iload_n 3, 1) := by decide +kernel
theorem dX5_systemCall_147 : decode cX5_systemCall 147 = .ok (.invokevirtual 185, 3) := by decide +kernel
theorem dX5_systemCall_150 : decode cX5_systemCall 150 = .ok (.putfield 108, 3) := by decide +kernel
theorem dX5_systemCall_153 : decode cX5_systemCall 153 = .ok (.goto 142, 3) := by decide +kernel
theorem dX5_systemCall_156 : decode cX5_systemCall 156 = .ok (.aload_n 1, 1) := by decide +kernel
theorem dX5_systemCall_157 : decode cX5_systemCall 157 = .ok (.aload_n 0, 1) := by decide +kernel
theorem dX5_systemCall_158 : decode cX5_systemCall 158 = .ok (.aload_n 1, 1) := by decide +kernel
theorem dX5_systemCall_159 : decode cX5_systemCall 159 = .ok (.iload_n 3, 1) := by decide +kernel
theorem dX5_systemCall_160 : decode cX5_systemCall 160 = .ok (.iload 4, 2) := by decide +kernel
theorem dX5_systemCall_162 : decode cX5_systemCall 162 = .ok (.iconst (-1), 1) := by decide +kernel
theorem dX5_systemCall_163 : decode cX5_systemCall 163 = .ok (.invokevirtual 188, 3) := by decide +kernel
theorem dX5_systemCall_166 : decode cX5_systemCall 166 = .ok (.putfield 108, 3) := by decide +kernel
theorem dX5_systemCall_169 : decode cX5_systemCall 169 = .ok (.goto 126, 3) := by decide +kernel
theorem dX5_systemCall_172 : decode cX5_systemCall 172 = .ok (.aload_n 1, 1) := by decide +kernel
theorem dX5_systemCall_173 : decode cX5_systemCall 173 = .ok (.aload_n 0, 1) := by decide +kernel
theorem dX5_systemCall_174 : decode cX5_systemCall 174 = .ok (.aload_n 1, 1) := by decide +kernel
theorem dX5_systemCall_175 : decode cX5_systemCall 175 = .ok (.iload_n 3, 1) := by decide +kernel
theorem dX5_systemCall_176 : decode cX5_systemCall 176 = .ok (.iload 4, 2) := by decide +kernel
theorem dX5_systemCall_178 : decode cX5_systemCall 178 = .ok (.iload 5, 2) := by decide +kernel
theorem dX5_systemCall_180 : decode cX5_systemCall 180 = .ok (.invokevirtual 192, 3) := by decide +kernel
theorem dX5_systemCall_183 : decode cX5_systemCall 183 = .ok (.putfield 108, 3) := by decide +kernel
theorem dX5_systemCall_186 : decode cX5_systemCall 186 = .ok (.goto 109, 3) := by decide +kernel
theorem dX5_systemCall_189 : decode cX5_systemCall 189 = .ok (.aload_n 1, 1) := by decide +kernel
theorem dX5_systemCall_190 : decode cX5_systemCall 190 = .ok (.aload_n 1, 1) := by decide +kernel
theorem dX5_systemCall_191 : decode cX5_systemCall 191 = .ok (.invokevirtual 195, 3) := by decide +kernel
theorem dX5_systemCall_194 : decode cX5_systemCall 194 = .ok (.putfield 108, 3) := by decide +kernel
theorem dX5_systemCall_197 : decode cX5_systemCall 197 = .ok (.goto 98, 3) := by decide +kernel
theorem dX5_systemCall_200 : decode cX5_systemCall 200 = .ok (.aload_n 1, 1) := by decide +kernel
theorem dX5_systemCall_201 : decode cX5_systemCall 201 = .ok (.aload_n 1, 1) := by decide +kernel
theorem dX5_systemCall_202 : decode cX5_systemCall 202 = .ok (.aload_n 0, 1) := by decide +kernel
theorem dX5_systemCall_203 : decode cX5_systemCall 203 = .ok (.getfield 21, 3) := by decide +kernel
theorem dX5_systemCall_206 : decode cX5_systemCall 206 = .ok (.invokevirtual 198, 3) := by decide +kernel
theorem dX5_systemCall_209 : decode cX5_systemCall 209 = .ok (.putfield 108, 3) := by decide +kernel
theorem dX5_systemCall_212 : decode cX5_systemCall 212 = .ok (.goto 83, 3) := by decide +kernel
theorem dX5_systemCall_215 : decode cX5_systemCall 215 = .ok (.aload_n 1, 1) := by decide +kernel
theorem dX5_systemCall_216 : decode cX5_systemCall 216 = .ok (.aload_n 0, 1) := by decide +kernel
theorem dX5_systemCall_217 : decode cX5_systemCall 217 = .ok (.aload_n 1, 1) := by decide +kernel
theorem dX5_systemCall_218 : decode cX5_systemCall 218 = .ok (.iload_n 3, 1) := by decide +kernel
theorem dX5_systemCall_219 : decode cX5_systemCall 219 = .ok (.iload 4, 2) := by decide +kernel
theorem dX5_systemCall_221 : decode cX5_systemCall 221 = .ok (.invokevirtual 201, 3) := by decide +kernel
theorem dX5_systemCall_224 : decode cX5_systemCall 224 = .ok (.putfield 108, 3) := by decide +kernel
theorem dX5_systemCall_227 : decode cX5_systemCall 227 = .ok (.goto 68, 3) := by decide +kernel
theorem dX5_systemCall_230 : decode cX5_systemCall 230 = .ok (.aload_n 1, 1) := by decide +kernel
theorem dX5_systemCall_231 : decode cX5_systemCall 231 = .ok (.aload_n 0, 1) := by decide +kernel
theorem dX5_systemCall_232 : decode cX5_systemCall 232 = .ok (.aload_n 1, 1) := by decide +kernel
theorem dX5_systemCall_233 : decode cX5_systemCall 233 = .ok (.iload_n 3, 1) := by decide +kernel
theorem dX5_systemCall_234 : decode cX5_systemCall 234 = .ok (.iload 4, 2) := by decide +kernel
theorem dX5_systemCall_236 : decode cX5_systemCall 236 = .ok (.iload 5, 2) := by decide +kernel
theorem dX5_systemCall_238 : decode cX5_systemCall 238 = .ok (.invokevirtual 205, 3) := by decide +kernel
theorem dX5_systemCall_241 : decode cX5_systemCall 241 = .ok (.putfield 108, 3) := by decide +kernel
theorem dX5_systemCall_244 : decode cX5_systemCall 244 = .ok (.goto 51, 3) := by decide +kernel
theorem dX5_systemCall_247 : decode cX5_systemCall 247 = .ok (.aload_n 1, 1) := by decide +kernel
theorem dX5_systemCall_248 : decode cX5_systemCall 248 = .ok (.aload_n 0, 1) := by decide +kernel
theorem dX5_systemCall_249 : decode cX5_systemCall 249 = .ok (.aload_n 1, 1) := by decide +kernel
theorem dX5_systemCall_250 : decode cX5_systemCall 250 = .ok (.iload_n 3, 1) := by decide +kernel
theorem dX5_systemCall_251 : decode cX5_systemCall 251 = .ok (.iload 4, 2) := by decide +kernel
theorem dX5_systemCall_253 : decode cX5_systemCall 253 = .ok (.iload 5, 2) := by decide +kernel
theorem dX5_systemCall_255 : decode cX5_systemCall 255 = .ok (.invokevirtual 208, 3) := by decide +kernel
theorem dX5_systemCall_258 : decode cX5_systemCall 258 = .ok (.putfield 108, 3) := by decide +kernel
theorem dX5_systemCall_261 : decode cX5_systemCall 261 = .ok (.goto 34, 3) := by decide +kernel
theorem dX5_systemCall_264 : decode cX5_systemCall 264 = .ok (.aload_n 1, 1) := by decide +kernel
theorem dX5_systemCall_265 : decode cX5_systemCall 265 = .ok (.aload_n 1, 1) := by decide +kernel
theorem dX5_systemCall_266 : decode cX5_systemCall 266 = .ok (.iload_n 3, 1) := by decide +kernel
theorem dX5_systemCall_267 : decode cX5_systemCall 267 = .ok (.invokevirtual 211, 3) := by decide +kernel
theorem dX5_systemCall_270 : decode cX5_systemCall 270 = .ok (.putfield 108, 3) := by decide +kernel
theorem dX5_systemCall_273 : decode cX5_systemCall 273 = .ok (.goto 22, 3) := by decide +kernel
theorem dX5_systemCall_276 : decode cX5_systemCall 276 = .ok (.aload_n 1, 1) := by decide +kernel
theorem dX5_systemCall_277 : decode cX5_systemCall 277 = .ok (.aload_n 1, 1) := by decide +kernel
theorem dX5_systemCall_278 : decode cX5_systemCall 278 = .ok (.getfield 46, 3) := by decide +kernel
theorem dX5_systemCall_281 : decode cX5_systemCall 281 = .ok (.getfield 71, 3) := by decide +kernel
theorem dX5_systemCall_284 : decode cX5_systemCall 284 = .ok (.putfield 108, 3) := by decide +kernel
theorem dX5_systemCall_287 : decode cX5_systemCall 287 = .ok (.goto 8, 3) := by decide +kernel
theorem dX5_systemCall_290 : decode cX5_systemCall 290 = .ok (.aload_n 1, 1) := by decide +kernel
theorem dX5_systemCall_291 : decode cX5_systemCall 291 = .ok (.iconst 1, 1) := by decide +kernel
theorem dX5_systemCall_292 : decode cX5_systemCall 292 = .ok (.invokevirtual 151, 3) := by decide +kernel
theorem dX5_systemCall_295 : decode cX5_systemCall 295 = .ok (.return_, 1) := by decide +kernel
theorem dX5_readList_0 : decode cX5_readList 0 = .ok (.iload_n 2, 1) := by decide +kernel
theorem dX5_readList_1 : decode cX5_readList 1 = .ok (.invokestatic 102, 3) := by decide +kernel
theorem dX5_readList_4 : decode cX5_readList 4 = .ok (.ifCond .ne 5, 3) := by decide +kernel
theorem dX5_readList_7 : decode cX5_readList 7 = .ok (.iconst 0, 1) := by decide +kernel
theorem dX5_readList_8 : decode cX5_readList 8 = .ok (.ireturn, 1) := by decide +kernel
theorem dX5_readList_9 : decode cX5_readList 9 = .ok (.aload_n 1, 1) := by decide +kernel
theorem dX5_readList_10 : decode cX5_readList 10 = .ok (.getfield 33, 3) := by decide +kernel
theorem dX5_readList_13 : decode cX5_readList 13 = .ok (.iload_n 2, 1) := by decide +kernel
theorem dX5_readList_14 : decode cX5_readList 14 = .ok (.iaload, 1) := by decide +kernel
theorem dX5_readList_15 : decode cX5_readList 15 = .ok (.istore_n 3, 1) := by decide +kernel
theorem dX5_readList_16 : decode cX5_readList 16 = .ok (.iload_n 3, 1) := by decide +kernel
theorem dX5_readList_17 : decode cX5_readList 17 = .ok (.ifCond .lt 18, 3) := by decide +kernel
theorem dX5_readList_20 : decode cX5_readList 20 = .ok (.iload_n 3, 1) := by decide +kernel
theorem dX5_readList_21 : decode cX5_readList 21 = .ok (.bipush 16, 2) := by decide +kernel
theorem dX5_readList_23 : decode cX5_readList 23 = .ok (.if_icmp .gt 12, 3) := by decide +kernel
theorem dX5_readList_26 : decode cX5_readList 26 = .ok (.iload_n 2, 1) := by decide +kernel
theorem dX5_readList_27 : decode cX5_readList 27 = .ok (.iload_n 3, 1) := by decide +kernel
theorem dX5_readList_28 : decode cX5_readList 28 = .ok (.iadd, 1) := by decide +kernel
theorem dX5_readList_29 : decode cX5_readList 29 = .ok (.sipush 128, 3) := by decide +kernel
theorem dX5_readList_32 : decode cX5_readList 32 = .ok (.if_icmp .lt 5, 3) := by decide +kernel
theorem dX5_readList_35 : decode cX5_readList 35 = .ok (.iconst 0, 1) := by decide +kernel
theorem dX5_readList_36 : decode cX5_readList 36 = .ok (.ireturn, 1) := by decide +kernel
theorem dX5_readList_37 : decode cX5_readList 37 = .ok (.aload_n 0, 1) := by decide +kernel
theorem dX5_readList_38 : decode cX5_readList 38 = .ok (.getfield 21, 3) := by decide +kernel
theorem dX5_readList_41 : decode cX5_readList 41 = .ok (.invokevirtual 214, 3) := by decide +kernel
theorem dX5_readList_44 : decode cX5_readList 44 = .ok (.iconst 1, 1) := by decide +kernel
theorem dX5_readList_45 : decode cX5_readList 45 = .ok (.istore 4, 2) := by decide +kernel
theorem dX5_readList_47 : decode cX5_readList 47 = .ok (.iload 4, 2) := by decide +kernel
theorem dX5_readList_49 : decode cX5_readList 49 = .ok (.iload_n 3, 1) := by decide +kernel
theorem dX5_readList_50 : decode cX5_readList 50 = .ok (.if_icmp .gt 25, 3) := by decide +kernel
theorem dX5_readList_53 : decode cX5_readList 53 = .ok (.aload_n 0, 1) := by decide +kernel
theorem dX5_readList_54 : decode cX5_readList 54 = .ok (.getfield 21, 3) := by decide +kernel
theorem dX5_readList_57 : decode cX5_readList 57 = .ok (.aload_n 1, 1) := by decide +kernel
theorem dX5_readList_58 : decode cX5_readList 58 = .ok (.getfield 33, 3) := by decide +kernel
theorem dX5_readList_61 : decode cX5_readList 61 = .ok (.iload_n 2, 1) := by decide +kernel
theorem dX5_readList_62 : decode cX5_readList 62 = .ok (.iload 4, 2) := by decide +kernel
theorem dX5_readList_64 : decode cX5_readList 64 = .ok (.iadd, 1) := by decide +kernel
theorem dX5_readList_65 : decode cX5_readList 65 = .ok (.iaload, 1) := by decide +kernel
theorem dX5_readList_66 : decode cX5_readList 66 = .ok (.invokevirtual 217, 3) := by decide +kernel
theorem dX5_readList_69 : decode cX5_readList 69 = .ok (.iinc 4 1, 3) := by decide +kernel
theorem dX5_readList_72 : decode cX5_readList 72 = .ok (.goto (-25), 3) := by decide +kernel
theorem dX5_readList_75 : decode cX5_readList 75 = .ok (.iconst 1, 1) := by decide +kernel
theorem dX5_readList_76 : decode cX5_readList 76 = .ok (.ireturn, 1) := by decide +kernel
theorem dX5_send_0 : decode cX5_send 0 = .ok (.iload_n 2, 1) := by decide +kernel
theorem dX5_send_1 : decode cX5_send 1 = .ok (.invokestatic 29, 3) := by decide +kernel
theorem dX5_send_4 : decode cX5_send 4 = .ok (.ifCond .eq 39, 3) := by decide +kernel
theorem dX5_send_7 : decode cX5_send 7 = .ok (.aload_n 1, 1) := by decide +kernel
theorem dX5_send_8 : decode cX5_send 8 = .ok (.getfield 46, 3) := by decide +kernel
theorem dX5_send_11 : decode cX5_send 11 = .ok (.aload_n 0, 1) := by decide +kernel
theorem dX5_send_12 : decode cX5_send 12 = .ok (.getfield 11, 3) := by decide +kernel
theorem dX5_send_15 : decode cX5_send 15 = .ok (.iload_n 2, 1) := by decide +kernel
theorem dX5_send_16 : decode cX5_send 16 = .ok (.aaload, 1) := by decide +kernel
theorem dX5_send_17 : decode cX5_send 17 = .ok (.getfield 46, 3) := by decide +kernel
theorem dX5_send_20 : decode cX5_send 20 = .ok (.invokevirtual 140, 3) := by decide +kernel
theorem dX5_send_23 : decode cX5_send 23 = .ok (.ifCond .eq 20, 3) := by decide +kernel
theorem dX5_send_26 : decode cX5_send 26 = .ok (.aload_n 0, 1) := by decide +kernel
theorem dX5_send_27 : decode cX5_send 27 = .ok (.getfield 11, 3) := by decide +kernel
theorem dX5_send_30 : decode cX5_send 30 = .ok (.iload_n 2, 1) := by decide +kernel
theorem dX5_send_31 : decode cX5_send 31 = .ok (.aaload, 1) := by decide +kernel
theorem dX5_send_32 : decode cX5_send 32 = .ok (.getfield 81, 3) := by decide +kernel
theorem dX5_send_35 : decode cX5_send 35 = .ok (.aload_n 1, 1) := by decide +kernel
theorem dX5_send_36 : decode cX5_send 36 = .ok (.iload_n 3, 1) := by decide +kernel
theorem dX5_send_37 : decode cX5_send 37 = .ok (.iload 4, 2) := by decide +kernel
theorem dX5_send_39 : decode cX5_send 39 = .ok (.invokevirtual 85, 3) := by decide +kernel
theorem dX5_send_42 : decode cX5_send 42 = .ok (.pop, 1) := by decide +kernel
theorem dX5_send_43 : decode cX5_send 43 = .ok (.iconst 1, 1) := by decide +kernel
theorem dX5_send_44 : decode cX5_send 44 = .ok (.ireturn, 1) := by decide +kernel
theorem dX5_pass_0 : decode cX5_pass 0 = .ok (.iload 4, 2) := by decide +kernel
theorem dX5_pass_2 : decode cX5_pass 2 = .ok (.invokestatic 220, 3) := by decide +kernel
theorem dX5_pass_5 : decode cX5_pass 5 = .ok (.istore 5, 2) := by decide +kernel
theorem dX5_pass_7 : decode cX5_pass 7 = .ok (.aload_n 1, 1) := by decide +kernel
theorem dX5_pass_8 : decode cX5_pass 8 = .ok (.iload 5, 2) := by decide +kernel
theorem dX5_pass_10 : decode cX5_pass 10 = .ok (.invokevirtual 53, 3) := by decide +kernel
theorem dX5_pass_13 : decode cX5_pass 13 = .ok (.iload_n 3, 1) := by decide +kernel
theorem dX5_pass_14 : decode cX5_pass 14 = .ok (.invokevirtual 223, 3) := by decide +kernel
theorem dX5_pass_17 : decode cX5_pass 17 = .ok (.ifCond .ne 5, 3) := by decide +kernel
theorem dX5_pass_20 : decode cX5_pass 20 = .ok (.iconst 0, 1) := by decide +kernel
theorem dX5_pass_21 : decode cX5_pass 21 = .ok (.ireturn, 1) := by decide +kernel
theorem dX5_pass_22 : decode cX5_pass 22 = .ok (.aload_n 0, 1) := by decide +kernel
theorem dX5_pass_23 : decode cX5_pass 23 = .ok (.aload_n 1, 1) := by decide +kernel
theorem dX5_pass_24 : decode cX5_pass 24 = .ok (.iload_n 2, 1) := by decide +kernel
theorem dX5_pass_25 : decode cX5_pass 25 = .ok (.iload_n 3, 1) := by decide +kernel
theorem dX5_pass_26 : decode cX5_pass 26 = .ok (.iload 5, 2) := by decide +kernel
theorem dX5_pass_28 : decode cX5_pass 28 = .ok (.invokevirtual 188, 3) := by decide +kernel
theorem dX5_pass_31 : decode cX5_pass 31 = .ok (.ireturn, 1) := by decide +kernel
theorem dX5_kindOf_0 : decode cX5_kindOf 0 = .ok (.iload_n 0, 1) := by decide +kernel
theorem dX5_kindOf_1 : decode cX5_kindOf 1 = .ok (.ifCond .ne 7, 3) := by decide +kernel
theorem dX5_kindOf_4 : decode cX5_kindOf 4 = .ok (.iconst 0, 1) := by decide +kernel
theorem dX5_kindOf_5 : decode cX5_kindOf 5 = .ok (.goto 4, 3) := by decide +kernel
theorem dX5_kindOf_8 : decode cX5_kindOf 8 = .ok (.iconst 1, 1) := by decide +kernel
theorem dX5_kindOf_9 : decode cX5_kindOf 9 = .ok (.ireturn, 1) := by decide +kernel
theorem dX5_read_0 : decode cX5_read 0 = .ok (.aload_n 0, 1) := by decide +kernel
theorem dX5_read_1 : decode cX5_read 1 = .ok (.iload_n 2, 1) := by decide +kernel
theorem dX5_read_2 : decode cX5_read 2 = .ok (.iload_n 3, 1) := by decide +kernel
theorem dX5_read_3 : decode cX5_read 3 = .ok (.invokevirtual 74, 3) := by decide +kernel
theorem dX5_read_6 : decode cX5_read 6 = .ok (.ifCond .eq 21, 3) := by decide +kernel
theorem dX5_read_9 : decode cX5_read 9 = .ok (.aload_n 0, 1) := by decide +kernel
theorem dX5_read_10 : decode cX5_read 10 = .ok (.iload_n 2, 1) := by decide +kernel
theorem dX5_read_11 : decode cX5_read 11 = .ok (.invokevirtual 60, 3) := by decide +kernel
theorem dX5_read_14 : decode cX5_read 14 = .ok (.getfield 70, 3) := by decide +kernel
theorem dX5_read_17 : decode cX5_read 17 = .ok (.aload_n 1, 1) := by decide +kernel
theorem dX5_read_18 : decode cX5_read 18 = .ok (.getfield 46, 3) := by decide +kernel
theorem dX5_read_21 : decode cX5_read 21 = .ok (.invokevirtual 140, 3) := by decide +kernel
theorem dX5_read_24 : decode cX5_read 24 = .ok (.ifCond .ne 5, 3) := by decide +kernel
theorem dX5_read_27 : decode cX5_read 27 = .ok (.iconst 0, 1) := by decide +kernel
theorem dX5_read_28 : decode cX5_read 28 = .ok (.ireturn, 1) := by decide +kernel
theorem dX5_read_29 : decode cX5_read 29 = .ok (.aload_n 1, 1) := by decide +kernel
theorem dX5_read_30 : decode cX5_read 30 = .ok (.getfield 33, 3) := by decide +kernel
theorem dX5_read_33 : decode cX5_read 33 = .ok (.bipush 120, 2) := by decide +kernel
theorem dX5_read_35 : decode cX5_read 35 = .ok (.aload_n 0, 1) := by decide +kernel
theorem dX5_read_36 : decode cX5_read 36 = .ok (.iload_n 2, 1) := by decide +kernel
theorem dX5_read_37 : decode cX5_read 37 = .ok (.invokevirtual 60, 3) := by decide +kernel
theorem dX5_read_40 : decode cX5_read 40 = .ok (.getfield 78, 3) := by decide +kernel
theorem dX5_read_43 : decode cX5_read 43 = .ok (.iload_n 3, 1) := by decide +kernel
theorem dX5_read_44 : decode cX5_read 44 = .ok (.iaload, 1) := by decide +kernel
theorem dX5_read_45 : decode cX5_read 45 = .ok (.iastore, 1) := by decide +kernel
theorem dX5_read_46 : decode cX5_read 46 = .ok (.iconst 1, 1) := by decide +kernel
theorem dX5_read_47 : decode cX5_read 47 = .ok (.ireturn, 1) := by decide +kernel
theorem dX5_write_0 : decode cX5_write 0 = .ok (.aload_n 0, 1) := by decide +kernel
theorem dX5_write_1 : decode cX5_write 1 = .ok (.iload_n 2, 1) := by decide +kernel
theorem dX5_write_2 : decode cX5_write 2 = .ok (.iload_n 3, 1) := by decide +kernel
theorem dX5_write_3 : decode cX5_write 3 = .ok (.invokevirtual 74, 3) := by decide +kernel
theorem dX5_write_6 : decode cX5_write 6 = .ok (.ifCond .eq 33, 3) := by decide +kernel
theorem dX5_write_9 : decode cX5_write 9 = .ok (.aload_n 1, 1) := by decide +kernel
theorem dX5_write_10 : decode cX5_write 10 = .ok (.getfield 46, 3) := by decide +kernel
theorem dX5_write_13 : decode cX5_write 13 = .ok (.aload_n 0, 1) := by decide +kernel
theorem dX5_write_14 : decode cX5_write 14 = .ok (.iload_n 2, 1) := by decide +kernel
theorem dX5_write_15 : decode cX5_write 15 = .ok (.invokevirtual 60, 3) := by decide +kernel
theorem dX5_write_18 : decode cX5_write 18 = .ok (.getfield 70, 3) := by decide +kernel
theorem dX5_write_21 : decode cX5_write 21 = .ok (.invokevirtual 140, 3) := by decide +kernel
theorem dX5_write_24 : decode cX5_write 24 = .ok (.ifCond .eq 15, 3) := by decide +kernel
theorem dX5_write_27 : decode cX5_write 27 = .ok (.aload_n 0, 1) := by decide +kernel
theorem dX5_write_28 : decode cX5_write 28 = .ok (.iload_n 2, 1) := by decide +kernel
theorem dX5_write_29 : decode cX5_write 29 = .ok (.invokevirtual 60, 3) := by decide +kernel
theorem dX5_write_32 : decode cX5_write 32 = .ok (.getfield 78, 3) := by decide +kernel
theorem dX5_write_35 : decode cX5_write 35 = .ok (.iload_n 3, 1) := by decide +kernel
theorem dX5_write_36 : decode cX5_write 36 = .ok (.iload 4, 2) := by decide +kernel
theorem dX5_write_38 : decode cX5_write 38 = .ok (.iastore, 1) := by decide +kernel
theorem dX5_write_39 : decode cX5_write 39 = .ok (.iconst 1, 1) := by decide +kernel
theorem dX5_write_40 : decode cX5_write 40 = .ok (.ireturn, 1) := by decide +kernel
theorem dX5_spawn_0 : decode cX5_spawn 0 = .ok (.iload_n 2, 1) := by decide +kernel
theorem dX5_spawn_1 : decode cX5_spawn 1 = .ok (.invokestatic 29, 3) := by decide +kernel
theorem dX5_spawn_4 : decode cX5_spawn 4 = .ok (.ifCond .eq 19, 3) := by decide +kernel
theorem dX5_spawn_7 : decode cX5_spawn 7 = .ok (.iload_n 2, 1) := by decide +kernel
theorem dX5_spawn_8 : decode cX5_spawn 8 = .ok (.ifCond .eq 15, 3) := by decide +kernel
theorem dX5_spawn_11 : decode cX5_spawn 11 = .ok (.iload_n 2, 1) := by decide +kernel
theorem dX5_spawn_12 : decode cX5_spawn 12 = .ok (.iconst 1, 1) := by decide +kernel
theorem dX5_spawn_13 : decode cX5_spawn 13 = .ok (.isub, 1) := by decide +kernel
theorem dX5_spawn_14 : decode cX5_spawn 14 = .ok (.iconst 2, 1) := by decide +kernel
theorem dX5_spawn_15 : decode cX5_spawn 15 = .ok (.idiv, 1) := by decide +kernel
theorem dX5_spawn_16 : decode cX5_spawn 16 = .ok (.aload_n 1, 1) := by decide +kernel
theorem dX5_spawn_17 : decode cX5_spawn 17 = .ok (.getfield 226, 3) := by decide +kernel
theorem dX5_spawn_20 : decode cX5_spawn 20 = .ok (.if_icmp .eq 5, 3) := by decide +kernel
theorem dX5_spawn_23 : decode cX5_spawn 23 = .ok (.iconst 0, 1) := by decide +kernel
theorem dX5_spawn_24 : decode cX5_spawn 24 = .ok (.ireturn, 1) := by decide +kernel
theorem dX5_spawn_25 : decode cX5_spawn 25 = .ok (.iload 4, 2) := by decide +kernel
theorem dX5_spawn_27 : decode cX5_spawn 27 = .ok (.iconst 1, 1) := by decide +kernel
theorem dX5_spawn_28 : decode cX5_spawn 28 = .ok (.if_icmp .lt 25, 3) := by decide +kernel
theorem dX5_spawn_31 : decode cX5_spawn 31 = .ok (.iload 4, 2) := by decide +kernel
theorem dX5_spawn_33 : decode cX5_spawn 33 = .ok (.sipush 128, 3) := by decide +kernel
theorem dX5_spawn_36 : decode cX5_spawn 36 = .ok (.if_icmp .gt 17, 3) := by decide +kernel
theorem dX5_spawn_39 : decode cX5_spawn 39 = .ok (.iload_n 3, 1) := by decide +kernel
theorem dX5_spawn_40 : decode cX5_spawn 40 = .ok (.ifCond .lt 13, 3) := by decide +kernel
theorem dX5_spawn_43 : decode cX5_spawn 43 = .ok (.iload_n 3, 1) := by decide +kernel
theorem dX5_spawn_44 : decode cX5_spawn 44 = .ok (.sipush 128, 3) := by decide +kernel
theorem dX5_spawn_47 : decode cX5_spawn 47 = .ok (.iload 4, 2) := by decide +kernel
theorem dX5_spawn_49 : decode cX5_spawn 49 = .ok (.isub, 1) := by decide +kernel
theorem dX5_spawn_50 : decode cX5_spawn 50 = .ok (.if_icmp .le 5, 3) := by decide +kernel
theorem dX5_spawn_53 : decode cX5_spawn 53 = .ok (.iconst 0, 1) := by decide +kernel
theorem dX5_spawn_54 : decode cX5_spawn 54 = .ok (.ireturn, 1) := by decide +kernel
theorem dX5_spawn_55 : decode cX5_spawn 55 = .ok (.aload_n 0, 1) := by decide +kernel
theorem dX5_spawn_56 : decode cX5_spawn 56 = .ok (.getfield 11, 3) := by decide +kernel
theorem dX5_spawn_59 : decode cX5_spawn 59 = .ok (.iload_n 2, 1) := by decide +kernel
theorem dX5_spawn_60 : decode cX5_spawn 60 = .ok (.aaload, 1) := by decide +kernel
theorem dX5_spawn_61 : decode cX5_spawn 61 = .ok (.astore 5, 2) := by decide +kernel
theorem dX5_spawn_63 : decode cX5_spawn 63 = .ok (.aload 5, 2) := by decide +kernel
theorem dX5_spawn_65 : decode cX5_spawn 65 = .ok (.getfield 37, 3) := by decide +kernel
theorem dX5_spawn_68 : decode cX5_spawn 68 = .ok (.ifCond .ne 18, 3) := by decide +kernel
theorem dX5_spawn_71 : decode cX5_spawn 71 = .ok (.aload 5, 2) := by decide +kernel
theorem dX5_spawn_73 : decode cX5_spawn 73 = .ok (.getfield 46, 3) := by decide +kernel
theorem dX5_spawn_76 : decode cX5_spawn 76 = .ok (.aload_n 1, 1) := by decide +kernel
theorem dX5_spawn_77 : decode cX5_spawn 77 = .ok (.getfield 46, 3) := by decide +kernel
theorem dX5_spawn_80 : decode cX5_spawn 80 = .ok (.invokevirtual 140, 3) := by decide +kernel
theorem dX5_spawn_83 : decode cX5_spawn 83 = .ok (.ifCond .ne 5, 3) := by decide +kernel
theorem dX5_spawn_86 : decode cX5_spawn 86 = .ok (.iconst 0, 1) := by decide +kernel
theorem dX5_spawn_87 : decode cX5_spawn 87 = .ok (.ireturn, 1) := by decide +kernel
theorem dX5_spawn_88 : decode cX5_spawn 88 = .ok (.iconst 0, 1) := by decide +kernel
theorem dX5_spawn_89 : decode cX5_spawn 89 = .ok (.istore 6, 2) := by decide +kernel
theorem dX5_spawn_91 : decode cX5_spawn 91 = .ok (.iload 6, 2) := by decide +kernel
theorem dX5_spawn_93 : decode cX5_spawn 93 = .ok (.iload 4, 2) := by decide +kernel
theorem dX5_spawn_95 : decode cX5_spawn 95 = .ok (.if_icmp .ge 26, 3) := by decide +kernel
theorem dX5_spawn_98 : decode cX5_spawn 98 = .ok (.aload 5, 2) := by decide +kernel
theorem dX5_spawn_100 : decode cX5_spawn 100 = .ok (.getfield 33, 3) := by decide +kernel
theorem dX5_spawn_103 : decode cX5_spawn 103 = .ok (.iload 6, 2) := by decide +kernel
theorem dX5_spawn_105 : decode cX5_spawn 105 = .ok (.aload_n 1, 1) := by decide +kernel
theorem dX5_spawn_106 : decode cX5_spawn 106 = .ok (.getfield 33, 3) := by decide +kernel
theorem dX5_spawn_109 : decode cX5_spawn 109 = .ok (.iload_n 3, 1) := by decide +kernel
theorem dX5_spawn_110 : decode cX5_spawn 110 = .ok (.iload 6, 2) := by decide +kernel
theorem dX5_spawn_112 : decode cX5_spawn 112 = .ok (.iadd, 1) := by decide +kernel
theorem dX5_spawn_113 : decode cX5_spawn 113 = .ok (.iaload, 1) := by decide +kernel
theorem dX5_spawn_114 : decode cX5_spawn 114 = .ok (.iastore, 1) := by decide +kernel
theorem dX5_spawn_115 : decode cX5_spawn 115 = .ok (.iinc 6 1, 3) := by decide +kernel
theorem dX5_spawn_118 : decode cX5_spawn 118 = .ok (.goto (-27), 3) := by decide +kernel
theorem dX5_spawn_121 : decode cX5_spawn 121 = .ok (.aload 5, 2) := by decide +kernel
theorem dX5_spawn_123 : decode cX5_spawn 123 = .ok (.getfield 46, 3) := by decide +kernel
theorem dX5_spawn_126 : decode cX5_spawn 126 = .ok (.aload_n 1, 1) := by decide +kernel
theorem dX5_spawn_127 : decode cX5_spawn 127 = .ok (.getfield 46, 3) := by decide +kernel
theorem dX5_spawn_130 : decode cX5_spawn 130 = .ok (.invokevirtual 229, 3) := by decide +kernel
theorem dX5_spawn_133 : decode cX5_spawn 133 = .ok (.aload 5, 2) := by decide +kernel
theorem dX5_spawn_135 : decode cX5_spawn 135 = .ok (.iconst 1, 1) := by decide +kernel
theorem dX5_spawn_136 : decode cX5_spawn 136 = .ok (.putfield 37, 3) := by decide +kernel
theorem dX5_spawn_139 : decode cX5_spawn 139 = .ok (.iconst 1, 1) := by decide +kernel
theorem dX5_spawn_140 : decode cX5_spawn 140 = .ok (.ireturn, 1) := by decide +kernel
theorem dJ9_floorMod_7cf53_0 : decode cJ9_floorMod_7cf53 0 = .ok (.iload_n 0, 1) := by decide +kernel
theorem dJ9_floorMod_7cf53_1 : decode cJ9_floorMod_7cf53 1 = .ok (.iload_n 1, 1) := by decide +kernel
theorem dJ9_floorMod_7cf53_2 : decode cJ9_floorMod_7cf53 2 = .ok (.irem, 1) := by decide +kernel
theorem dJ9_floorMod_7cf53_3 : decode cJ9_floorMod_7cf53 3 = .ok (.istore_n 2, 1) := by decide +kernel
theorem dJ9_floorMod_7cf53_4 : decode cJ9_floorMod_7cf53 4 = .ok (.iload_n 0, 1) := by decide +kernel
theorem dJ9_floorMod_7cf53_5 : decode cJ9_floorMod_7cf53 5 = .ok (.iload_n 1, 1) := by decide +kernel
theorem dJ9_floorMod_7cf53_6 : decode cJ9_floorMod_7cf53 6 = .ok (.ixor, 1) := by decide +kernel
theorem dJ9_floorMod_7cf53_7 : decode cJ9_floorMod_7cf53 7 = .ok (.ifCond .ge 11, 3) := by decide +kernel
theorem dJ9_floorMod_7cf53_10 : decode cJ9_floorMod_7cf53 10 = .ok (.iload_n 2, 1) := by decide +kernel
theorem dJ9_floorMod_7cf53_11 : decode cJ9_floorMod_7cf53 11 = .ok (.ifCond .eq 7, 3) := by decide +kernel
theorem dJ9_floorMod_7cf53_14 : decode cJ9_floorMod_7cf53 14 = .ok (.iload_n 2, 1) := by decide +kernel
theorem dJ9_floorMod_7cf53_15 : decode cJ9_floorMod_7cf53 15 = .ok (.iload_n 1, 1) := by decide +kernel
theorem dJ9_floorMod_7cf53_16 : decode cJ9_floorMod_7cf53 16 = .ok (.iadd, 1) := by decide +kernel
theorem dJ9_floorMod_7cf53_17 : decode cJ9_floorMod_7cf53 17 = .ok (.ireturn, 1) := by decide +kernel
theorem dJ9_floorMod_7cf53_18 : decode cJ9_floorMod_7cf53 18 = .ok (.iload_n 2, 1) := by decide +kernel
theorem dJ9_floorMod_7cf53_19 : decode cJ9_floorMod_7cf53 19 = .ok (.ireturn, 1) := by decide +kernel
