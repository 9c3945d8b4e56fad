theorem dX6_init_0 : decode cX6_init 0 = .ok (.aload_n 0, 1) := by decide +kernel
theorem dX6_init_1 : decode cX6_init 1 = .ok (.invokespecial 3, 3) := by decide +kernel
theorem dX6_init_4 : decode cX6_init 4 = .ok (.aload_n 0, 1) := by decide +kernel
theorem dX6_init_5 : decode cX6_init 5 = .ok (.sipush 1024, 3) := by decide +kernel
theorem dX6_init_8 : decode cX6_init 8 = .ok (.newarray .int, 2) := by decide +kernel
theorem dX6_init_10 : decode cX6_init 10 = .ok (.putfield 9, 3) := by decide +kernel
theorem dX6_init_13 : decode cX6_init 13 = .ok (.aload_n 0, 1) := by decide +kernel
theorem dX6_init_14 : decode cX6_init 14 = .ok (.bipush 8, 2) := by decide +kernel
theorem dX6_init_16 : decode cX6_init 16 = .ok (.newarray .int, 2) := by decide +kernel
theorem dX6_init_18 : decode cX6_init 18 = .ok (.putfield 13, 3) := by decide +kernel
theorem dX6_init_21 : decode cX6_init 21 = .ok (.aload_n 0, 1) := by decide +kernel
theorem dX6_init_22 : decode cX6_init 22 = .ok (.bipush 8, 2) := by decide +kernel
theorem dX6_init_24 : decode cX6_init 24 = .ok (.newarray .int, 2) := by decide +kernel
theorem dX6_init_26 : decode cX6_init 26 = .ok (.putfield 16, 3) := by decide +kernel
theorem dX6_init_29 : decode cX6_init 29 = .ok (.aload_n 0, 1) := by decide +kernel
theorem dX6_init_30 : decode cX6_init 30 = .ok (.bipush 8, 2) := by decide +kernel
theorem dX6_init_32 : decode cX6_init 32 = .ok (.newarray .int, 2) := by decide +kernel
theorem dX6_init_34 : decode cX6_init 34 = .ok (.putfield 19, 3) := by decide +kernel
theorem dX6_init_37 : decode cX6_init 37 = .ok (.aload_n 0, 1) := by decide +kernel
theorem dX6_init_38 : decode cX6_init 38 = .ok (.bipush 8, 2) := by decide +kernel
theorem dX6_init_40 : decode cX6_init 40 = .ok (.newarray .int, 2) := by decide +kernel
theorem dX6_init_42 : decode cX6_init 42 = .ok (.putfield 22, 3) := by decide +kernel
theorem dX6_init_45 : decode cX6_init 45 = .ok (.aload_n 0, 1) := by decide +kernel
theorem dX6_init_46 : decode cX6_init 46 = .ok (.bipush 8, 2) := by decide +kernel
theorem dX6_init_48 : decode cX6_init 48 = .ok (.newarray .int, 2) := by decide +kernel
theorem dX6_init_50 : decode cX6_init 50 = .ok (.putfield 25, 3) := by decide +kernel
theorem dX6_init_53 : decode cX6_init 53 = .ok (.aload_n 0, 1) := by decide +kernel
theorem dX6_init_54 : decode cX6_init 54 = .ok (.ldc 28, 2) := by decide +kernel
theorem dX6_init_56 : decode cX6_init 56 = .ok (.newarray .boolean, 2) := by decide +kernel
theorem dX6_init_58 : decode cX6_init 58 = .ok (.putfield 29, 3) := by decide +kernel
theorem dX6_init_61 : decode cX6_init 61 = .ok (.aload_n 0, 1) := by decide +kernel
theorem dX6_init_62 : decode cX6_init 62 = .ok (.sipush 4096, 3) := by decide +kernel
theorem dX6_init_65 : decode cX6_init 65 = .ok (.newarray .boolean, 2) := by decide +kernel
theorem dX6_init_67 : decode cX6_init 67 = .ok (.putfield 33, 3) := by decide +kernel
theorem dX6_init_70 : decode cX6_init 70 = .ok (.aload_n 0, 1) := by decide +kernel
theorem dX6_init_71 : decode cX6_init 71 = .ok (.bipush 64, 2) := by decide +kernel
theorem dX6_init_73 : decode cX6_init 73 = .ok (.newarray .boolean, 2) := by decide +kernel
theorem dX6_init_75 : decode cX6_init 75 = .ok (.putfield 36, 3) := by decide +kernel
theorem dX6_init_78 : decode cX6_init 78 = .ok (.aload_n 0, 1) := by decide +kernel
theorem dX6_init_79 : decode cX6_init 79 = .ok (.sipush 512, 3) := by decide +kernel
theorem dX6_init_82 : decode cX6_init 82 = .ok (.newarray .int, 2) := by decide +kernel
theorem dX6_init_84 : decode cX6_init 84 = .ok (.putfield 39, 3) := by decide +kernel
theorem dX6_init_87 : decode cX6_init 87 = .ok (.aload_n 0, 1) := by decide +kernel
theorem dX6_init_88 : decode cX6_init 88 = .ok (.bipush 8, 2) := by decide +kernel
theorem dX6_init_90 : decode cX6_init 90 = .ok (.newarray .int, 2) := by decide +kernel
theorem dX6_init_92 : decode cX6_init 92 = .ok (.putfield 42, 3) := by decide +kernel
theorem dX6_init_95 : decode cX6_init 95 = .ok (.aload_n 0, 1) := by decide +kernel
theorem dX6_init_96 : decode cX6_init 96 = .ok (.bipush 64, 2) := by decide +kernel
theorem dX6_init_98 : decode cX6_init 98 = .ok (.newarray .int, 2) := by decide +kernel
theorem dX6_init_100 : decode cX6_init 100 = .ok (.putfield 45, 3) := by decide +kernel
theorem dX6_init_103 : decode cX6_init 103 = .ok (.aload_n 0, 1) := by decide +kernel
theorem dX6_init_104 : decode cX6_init 104 = .ok (.bipush 64, 2) := by decide +kernel
theorem dX6_init_106 : decode cX6_init 106 = .ok (.newarray .int, 2) := by decide +kernel
theorem dX6_init_108 : decode cX6_init 108 = .ok (.putfield 48, 3) := by decide +kernel
theorem dX6_init_111 : decode cX6_init 111 = .ok (.aload_n 0, 1) := by decide +kernel
theorem dX6_init_112 : decode cX6_init 112 = .ok (.bipush 64, 2) := by decide +kernel
theorem dX6_init_114 : decode cX6_init 114 = .ok (.newarray .int, 2) := by decide +kernel
theorem dX6_init_116 : decode cX6_init 116 = .ok (.putfield 51, 3) := by decide +kernel
theorem dX6_init_119 : decode cX6_init 119 = .ok (.aload_n 0, 1) := by decide +kernel
theorem dX6_init_120 : decode cX6_init 120 = .ok (.bipush 8, 2) := by decide +kernel
theorem dX6_init_122 : decode cX6_init 122 = .ok (.newarray .int, 2) := by decide +kernel
theorem dX6_init_124 : decode cX6_init 124 = .ok (.putfield 54, 3) := by decide +kernel
theorem dX6_init_127 : decode cX6_init 127 = .ok (.aload_n 0, 1) := by decide +kernel
theorem dX6_init_128 : decode cX6_init 128 = .ok (.sipush 512, 3) := by decide +kernel
theorem dX6_init_131 : decode cX6_init 131 = .ok (.newarray .int, 2) := by decide +kernel
theorem dX6_init_133 : decode cX6_init 133 = .ok (.putfield 57, 3) := by decide +kernel
theorem dX6_init_136 : decode cX6_init 136 = .ok (.aload_n 0, 1) := by decide +kernel
theorem dX6_init_137 : decode cX6_init 137 = .ok (.sipush 512, 3) := by decide +kernel
theorem dX6_init_140 : decode cX6_init 140 = .ok (.newarray .int, 2) := by decide +kernel
theorem dX6_init_142 : decode cX6_init 142 = .ok (.putfield 60, 3) := by decide +kernel
theorem dX6_init_145 : decode cX6_init 145 = .ok (.return_, 1) := by decide +kernel
theorem dX6_isIn_0 : decode cX6_isIn 0 = .ok (.iload_n 0, 1) := by decide +kernel
theorem dX6_isIn_1 : decode cX6_isIn 1 = .ok (.iload_n 1, 1) := by decide +kernel
theorem dX6_isIn_2 : decode cX6_isIn 2 = .ok (.if_icmp .lt 12, 3) := by decide +kernel
theorem dX6_isIn_5 : decode cX6_isIn 5 = .ok (.iload_n 0, 1) := by decide +kernel
theorem dX6_isIn_6 : decode cX6_isIn 6 = .ok (.iload_n 2, 1) := by decide +kernel
theorem dX6_isIn_7 : decode cX6_isIn 7 = .ok (.if_icmp .gt 7, 3) := by decide +kernel
theorem dX6_isIn_10 : decode cX6_isIn 10 = .ok (.iconst 1, 1) := by decide +kernel
theorem dX6_isIn_11 : decode cX6_isIn 11 = .ok (.goto 4, 3) := by decide +kernel
theorem dX6_isIn_14 : decode cX6_isIn 14 = .ok (.iconst 0, 1) := by decide +kernel
theorem dX6_isIn_15 : decode cX6_isIn 15 = .ok (.ireturn, 1) := by decide +kernel
theorem dX6_isSlot_0 : decode cX6_isSlot 0 = .ok (.iload_n 0, 1) := by decide +kernel
theorem dX6_isSlot_1 : decode cX6_isSlot 1 = .ok (.iconst 0, 1) := by decide +kernel
theorem dX6_isSlot_2 : decode cX6_isSlot 2 = .ok (.bipush 7, 2) := by decide +kernel
theorem dX6_isSlot_4 : decode cX6_isSlot 4 = .ok (.invokestatic 63, 3) := by decide +kernel
theorem dX6_isSlot_7 : decode cX6_isSlot 7 = .ok (.ireturn, 1) := by decide +kernel
theorem dX6_isCell_0 : decode cX6_isCell 0 = .ok (.iload_n 0, 1) := by decide +kernel
theorem dX6_isCell_1 : decode cX6_isCell 1 = .ok (.iconst 0, 1) := by decide +kernel
theorem dX6_isCell_2 : decode cX6_isCell 2 = .ok (.bipush 127, 2) := by decide +kernel
theorem dX6_isCell_4 : decode cX6_isCell 4 = .ok (.invokestatic 63, 3) := by decide +kernel
theorem dX6_isCell_7 : decode cX6_isCell 7 = .ok (.ireturn, 1) := by decide +kernel
theorem dX6_isThere_0 : decode cX6_isThere 0 = .ok (.iload_n 1, 1) := by decide +kernel
theorem dX6_isThere_1 : decode cX6_isThere 1 = .ok (.iconst 0, 1) := by decide +kernel
theorem dX6_isThere_2 : decode cX6_isThere 2 = .ok (.sipush 255, 3) := by decide +kernel
theorem dX6_isThere_5 : decode cX6_isThere 5 = .ok (.invokestatic 63, 3) := by decide +kernel
theorem dX6_isThere_8 : decode cX6_isThere 8 = .ok (.ifCond .eq 23, 3) := by decide +kernel
theorem dX6_isThere_11 : decode cX6_isThere 11 = .ok (.iload_n 1, 1) := by decide +kernel
theorem dX6_isThere_12 : decode cX6_isThere 12 = .ok (.bipush 32, 2) := by decide +kernel
theorem dX6_isThere_14 : decode cX6_isThere 14 = .ok (.irem, 1) := by decide +kernel
theorem dX6_isThere_15 : decode cX6_isThere 15 = .ok (.aload_n 0, 1) := by decide +kernel
theorem dX6_isThere_16 : decode cX6_isThere 16 = .ok (.getfield 25, 3) := by decide +kernel
theorem dX6_isThere_19 : decode cX6_isThere 19 = .ok (.iload_n 1, 1) := by decide +kernel
theorem dX6_isThere_20 : decode cX6_isThere 20 = .ok (.bipush 32, 2) := by decide +kernel
theorem dX6_isThere_22 : decode cX6_isThere 22 = .ok (.idiv, 1) := by decide +kernel
theorem dX6_isThere_23 : decode cX6_isThere 23 = .ok (.iaload, 1) := by decide +kernel
theorem dX6_isThere_24 : decode cX6_isThere 24 = .ok (.if_icmp .ge 7, 3) := by decide +kernel
theorem dX6_isThere_27 : decode cX6_isThere 27 = .ok (.iconst 1, 1) := by decide +kernel
theorem dX6_isThere_28 : decode cX6_isThere 28 = .ok (.goto 4, 3) := by decide +kernel
theorem dX6_isThere_31 : decode cX6_isThere 31 = .ok (.iconst 0, 1) := by decide +kernel
theorem dX6_isThere_32 : decode cX6_isThere 32 = .ok (.ireturn, 1) := by decide +kernel
theorem dX6_many_0 : decode cX6_many 0 = .ok (.iconst 0, 1) := by decide +kernel
theorem dX6_many_1 : decode cX6_many 1 = .ok (.istore_n 2, 1) := by decide +kernel
theorem dX6_many_2 : decode cX6_many 2 = .ok (.iconst 0, 1) := by decide +kernel
theorem dX6_many_3 : decode cX6_many 3 = .ok (.istore_n 3, 1) := by decide +kernel
theorem dX6_many_4 : decode cX6_many 4 = .ok (.iload_n 3, 1) := by decide +kernel
theorem dX6_many_5 : decode cX6_many 5 = .ok (.sipush 256, 3) := by decide +kernel
theorem dX6_many_8 : decode cX6_many 8 = .ok (.if_icmp .ge 32, 3) := by decide +kernel
theorem dX6_many_11 : decode cX6_many 11 = .ok (.iload_n 2, 1) := by decide +kernel
theorem dX6_many_12 : decode cX6_many 12 = .ok (.aload_n 0, 1) := by decide +kernel
theorem dX6_many_13 : decode cX6_many 13 = .ok (.getfield 29, 3) := by decide +kernel
theorem dX6_many_16 : decode cX6_many 16 = .ok (.sipush 256, 3) := by decide +kernel
theorem dX6_many_19 : decode cX6_many 19 = .ok (.iload_n 1, 1) := by decide +kernel
theorem dX6_many_20 : decode cX6_many 20 = .ok (.imul, 1) := by decide +kernel
theorem dX6_many_21 : decode cX6_many 21 = .ok (.iload_n 3, 1) := by decide +kernel
theorem dX6_many_22 : decode cX6_many 22 = .ok (.iadd, 1) := by decide +kernel
theorem dX6_many_23 : decode cX6_many 23 = .ok (.baload, 1) := by decide +kernel
theorem dX6_many_24 : decode cX6_many 24 = .ok (.ifCond .eq 7, 3) := by decide +kernel
theorem dX6_many_27 : decode cX6_many 27 = .ok (.iconst 1, 1) := by decide +kernel
theorem dX6_many_28 : decode cX6_many 28 = .ok (.goto 4, 3) := by decide +kernel
theorem dX6_many_31 : decode cX6_many 31 = .ok (.iconst 0, 1) := by decide +kernel
theorem dX6_many_32 : decode cX6_many 32 = .ok (.iadd, 1) := by decide +kernel
theorem dX6_many_33 : decode cX6_many 33 = .ok (.istore_n 2, 1) := by decide +kernel
theorem dX6_many_34 : decode cX6_many 34 = .ok (.iinc 3 1, 3) := by decide +kernel
theorem dX6_many_37 : decode cX6_many 37 = .ok (.goto (-33), 3) := by decide +kernel
theorem dX6_many_40 : decode cX6_many 40 = .ok (.iload_n 2, 1) := by decide +kernel
theorem dX6_many_41 : decode cX6_many 41 = .ok (.ireturn, 1) := by decide +kernel
theorem dX6_isInLabel_0 : decode cX6_isInLabel 0 = .ok (.iconst 1, 1) := by decide +kernel
theorem dX6_isInLabel_1 : decode cX6_isInLabel 1 = .ok (.istore_n 3, 1) := by decide +kernel
theorem dX6_isInLabel_2 : decode cX6_isInLabel 2 = .ok (.iconst 0, 1) := by decide +kernel
theorem dX6_isInLabel_3 : decode cX6_isInLabel 3 = .ok (.istore 4, 2) := by decide +kernel
theorem dX6_isInLabel_5 : decode cX6_isInLabel 5 = .ok (.iload 4, 2) := by decide +kernel
theorem dX6_isInLabel_7 : decode cX6_isInLabel 7 = .ok (.sipush 256, 3) := by decide +kernel
theorem dX6_isInLabel_10 : decode cX6_isInLabel 10 = .ok (.if_icmp .ge 51, 3) := by decide +kernel
theorem dX6_isInLabel_13 : decode cX6_isInLabel 13 = .ok (.iload_n 3, 1) := by decide +kernel
theorem dX6_isInLabel_14 : decode cX6_isInLabel 14 = .ok (.ifCond .eq 39, 3) := by decide +kernel
theorem dX6_isInLabel_17 : decode cX6_isInLabel 17 = .ok (.aload_n 0, 1) := by decide +kernel
theorem dX6_isInLabel_18 : decode cX6_isInLabel 18 = .ok (.getfield 29, 3) := by decide +kernel
theorem dX6_isInLabel_21 : decode cX6_isInLabel 21 = .ok (.sipush 256, 3) := by decide +kernel
theorem dX6_isInLabel_24 : decode cX6_isInLabel 24 = .ok (.iload_n 1, 1) := by decide +kernel
theorem dX6_isInLabel_25 : decode cX6_isInLabel 25 = .ok (.imul, 1) := by decide +kernel
theorem dX6_isInLabel_26 : decode cX6_isInLabel 26 = .ok (.iload 4, 2) := by decide +kernel
theorem dX6_isInLabel_28 : decode cX6_isInLabel 28 = .ok (.iadd, 1) := by decide +kernel
theorem dX6_isInLabel_29 : decode cX6_isInLabel 29 = .ok (.baload, 1) := by decide +kernel
theorem dX6_isInLabel_30 : decode cX6_isInLabel 30 = .ok (.ifCond .eq 19, 3) := by decide +kernel
theorem dX6_isInLabel_33 : decode cX6_isInLabel 33 = .ok (.aload_n 0, 1) := by decide +kernel
theorem dX6_isInLabel_34 : decode cX6_isInLabel 34 = .ok (.getfield 29, 3) := by decide +kernel
theorem dX6_isInLabel_37 : decode cX6_isInLabel 37 = .ok (.sipush 256, 3) := by decide +kernel
theorem dX6_isInLabel_40 : decode cX6_isInLabel 40 = .ok (.iload_n 2, 1) := by decide +kernel
theorem dX6_isInLabel_41 : decode cX6_isInLabel 41 = .ok (.imul, 1) := by decide +kernel
theorem dX6_isInLabel_42 : decode cX6_isInLabel 42 = .ok (.iload 4, 2) := by decide +kernel
theorem dX6_isInLabel_44 : decode cX6_isInLabel 44 = .ok (.iadd, 1) := by decide +kernel
theorem dX6_isInLabel_45 : decode cX6_isInLabel 45 = .ok (.baload, 1) := by decide +kernel
theorem dX6_isInLabel_46 : decode cX6_isInLabel 46 = .ok (.ifCond .eq 7, 3) := by decide +kernel
theorem dX6_isInLabel_49 : decode cX6_isInLabel 49 = .ok (.iconst 1, 1) := by decide +kernel
theorem dX6_isInLabel_50 : decode cX6_isInLabel 50 = .ok (.goto 4, 3) := by decide +kernel
theorem dX6_isInLabel_53 : decode cX6_isInLabel 53 = .ok (.iconst 0, 1) := by decide +kernel
theorem dX6_isInLabel_54 : decode cX6_isInLabel 54 = .ok (.istore_n 3, 1) := by decide +kernel
theorem dX6_isInLabel_55 : decode cX6_isInLabel 55 = .ok (.iinc 4 1, 3) := by decide +kernel
theorem dX6_isInLabel_58 : decode cX6_isInLabel 58 = .ok (.goto (-53), 3) := by decide +kernel
theorem dX6_isInLabel_61 : decode cX6_isInLabel 61 = .ok (.iload_n 3, 1) := by decide +kernel
theorem dX6_isInLabel_62 : decode cX6_isInLabel 62 = .ok (.ireturn, 1) := by decide +kernel
theorem dX6_copyLabel_0 : decode cX6_copyLabel 0 = .ok (.iconst 0, 1) := by decide +kernel
theorem dX6_copyLabel_1 : decode cX6_copyLabel 1 = .ok (.istore_n 3, 1) := by decide +kernel
theorem dX6_copyLabel_2 : decode cX6_copyLabel 2 = .ok (.iload_n 3, 1) := by decide +kernel
theorem dX6_copyLabel_3 : decode cX6_copyLabel 3 = .ok (.sipush 256, 3) := by decide +kernel
theorem dX6_copyLabel_6 : decode cX6_copyLabel 6 = .ok (.if_icmp .ge 33, 3) := by decide +kernel
theorem dX6_copyLabel_9 : decode cX6_copyLabel 9 = .ok (.aload_n 0, 1) := by decide +kernel
theorem dX6_copyLabel_10 : decode cX6_copyLabel 10 = .ok (.getfield 29, 3) := by decide +kernel
theorem dX6_copyLabel_13 : decode cX6_copyLabel 13 = .ok (.sipush 256, 3) := by decide +kernel
theorem dX6_copyLabel_16 : decode cX6_copyLabel 16 = .ok (.iload_n 2, 1) := by decide +kernel
theorem dX6_copyLabel_17 : decode cX6_copyLabel 17 = .ok (.imul, 1) := by decide +kernel
theorem dX6_copyLabel_18 : decode cX6_copyLabel 18 = .ok (.iload_n 3, 1) := by decide +kernel
theorem dX6_copyLabel_19 : decode cX6_copyLabel 19 = .ok (.iadd, 1) := by decide +kernel
theorem dX6_copyLabel_20 : decode cX6_copyLabel 20 = .ok (.aload_n 0, 1) := by decide +kernel
theorem dX6_copyLabel_21 : decode cX6_copyLabel 21 = .ok (.getfield 29, 3) := by decide +kernel
theorem dX6_copyLabel_24 : decode cX6_copyLabel 24 = .ok (.sipush 256, 3) := by decide +kernel
theorem dX6_copyLabel_27 : decode cX6_copyLabel 27 = .ok (.iload_n 1, 1) := by decide +kernel
theorem dX6_copyLabel_28 : decode cX6_copyLabel 28 = .ok (.imul, 1) := by decide +kernel
theorem dX6_copyLabel_29 : decode cX6_copyLabel 29 = .ok (.iload_n 3, 1) := by decide +kernel
theorem dX6_copyLabel_30 : decode cX6_copyLabel 30 = .ok (.iadd, 1) := by decide +kernel
theorem dX6_copyLabel_31 : decode cX6_copyLabel 31 = .ok (.baload, 1) := by decide +kernel
theorem dX6_copyLabel_32 : decode cX6_copyLabel 32 = .ok (.bastore, 1) := by decide +kernel
theorem dX6_copyLabel_33 : decode cX6_copyLabel 33 = .ok (.iinc 3 1, 3) := by decide +kernel
theorem dX6_copyLabel_36 : decode cX6_copyLabel 36 = .ok (.goto (-34), 3) := by decide +kernel
theorem dX6_copyLabel_39 : decode cX6_copyLabel 39 = .ok (.return_, 1) := by decide +kernel
theorem dX6_at_0 : decode cX6_at 0 = .ok (.sipush 256, 3) := by decide +kernel
theorem dX6_at_3 : decode cX6_at 3 = .ok (.bipush 8, 2) := by decide +kernel
theorem dX6_at_5 : decode cX6_at 5 = .ok (.iload_n 2, 1) := by decide +kernel
theorem dX6_at_6 : decode cX6_at 6 = .ok (.imul, 1) := by decide +kernel
theorem dX6_at_7 : decode cX6_at 7 = .ok (.iload_n 1, 1) := by decide +kernel
theorem dX6_at_8 : decode cX6_at 8 = .ok (.iadd, 1) := by decide +kernel
theorem dX6_at_9 : decode cX6_at 9 = .ok (.imul, 1) := by decide +kernel
theorem dX6_at_10 : decode cX6_at 10 = .ok (.iload_n 3, 1) := by decide +kernel
theorem dX6_at_11 : decode cX6_at 11 = .ok (.iadd, 1) := by decide +kernel
theorem dX6_at_12 : decode cX6_at 12 = .ok (.ireturn, 1) := by decide +kernel
theorem dX6_capabilities_0 : decode cX6_capabilities 0 = .ok (.iconst 0, 1) := by decide +kernel
theorem dX6_capabilities_1 : decode cX6_capabilities 1 = .ok (.istore_n 3, 1) := by decide +kernel
theorem dX6_capabilities_2 : decode cX6_capabilities 2 = .ok (.iconst 0, 1) := by decide +kernel
theorem dX6_capabilities_3 : decode cX6_capabilities 3 = .ok (.istore 4, 2) := by decide +kernel
theorem dX6_capabilities_5 : decode cX6_capabilities 5 = .ok (.iload 4, 2) := by decide +kernel
theorem dX6_capabilities_7 : decode cX6_capabilities 7 = .ok (.sipush 256, 3) := by decide +kernel
theorem dX6_capabilities_10 : decode cX6_capabilities 10 = .ok (.if_icmp .ge 33, 3) := by decide +kernel
theorem dX6_capabilities_13 : decode cX6_capabilities 13 = .ok (.iload_n 3, 1) := by decide +kernel
theorem dX6_capabilities_14 : decode cX6_capabilities 14 = .ok (.aload_n 0, 1) := by decide +kernel
theorem dX6_capabilities_15 : decode cX6_capabilities 15 = .ok (.getfield 33, 3) := by decide +kernel
theorem dX6_capabilities_18 : decode cX6_capabilities 18 = .ok (.aload_n 0, 1) := by decide +kernel
theorem dX6_capabilities_19 : decode cX6_capabilities 19 = .ok (.iload_n 1, 1) := by decide +kernel
theorem dX6_capabilities_20 : decode cX6_capabilities 20 = .ok (.iload_n 2, 1) := by decide +kernel
theorem dX6_capabilities_21 : decode cX6_capabilities 21 = .ok (.iload 4, 2) := by decide +kernel
theorem dX6_capabilities_23 : decode cX6_capabilities 23 = .ok (.invokevirtual 67, 3) := by decide +kernel
theorem dX6_capabilities_26 : decode cX6_capabilities 26 = .ok (.baload, 1) := by decide +kernel
theorem dX6_capabilities_27 : decode cX6_capabilities 27 = .ok (.ifCond .eq 7, 3) := by decide +kernel
theorem dX6_capabilities_30 : decode cX6_capabilities 30 = .ok (.iconst 1, 1) := by decide +kernel
theorem dX6_capabilities_31 : decode cX6_capabilities 31 = .ok (.goto 4, 3) := by decide +kernel
theorem dX6_capabilities_34 : decode cX6_capabilities 34 = .ok (.iconst 0, 1) := by decide +kernel
theorem dX6_capabilities_35 : decode cX6_capabilities 35 = .ok (.iadd, 1) := by decide +kernel
theorem dX6_capabilities_36 : decode cX6_capabilities 36 = .ok (.istore_n 3, 1) := by decide +kernel
theorem dX6_capabilities_37 : decode cX6_capabilities 37 = .ok (.iinc 4 1, 3) := by decide +kernel
theorem dX6_capabilities_40 : decode cX6_capabilities 40 = .ok (.goto (-35), 3) := by decide +kernel
theorem dX6_capabilities_43 : decode cX6_capabilities 43 = .ok (.iload_n 3, 1) := by decide +kernel
theorem dX6_capabilities_44 : decode cX6_capabilities 44 = .ok (.ireturn, 1) := by decide +kernel
theorem dX6_comes_0 : decode cX6_comes 0 = .ok (.bipush 8, 2) := by decide +kernel
theorem dX6_comes_2 : decode cX6_comes 2 = .ok (.iload_n 2, 1) := by decide +kernel
theorem dX6_comes_3 : decode cX6_comes 3 = .ok (.imul, 1) := by decide +kernel
theorem dX6_comes_4 : decode cX6_comes 4 = .ok (.aload_n 0, 1) := by decide +kernel
theorem dX6_comes_5 : decode cX6_comes 5 = .ok (.getfield 42, 3) := by decide +kernel
theorem dX6_comes_8 : decode cX6_comes 8 = .ok (.iload_n 2, 1) := by decide +kernel
theorem dX6_comes_9 : decode cX6_comes 9 = .ok (.iaload, 1) := by decide +kernel
theorem dX6_comes_10 : decode cX6_comes 10 = .ok (.iadd, 1) := by decide +kernel
theorem dX6_comes_11 : decode cX6_comes 11 = .ok (.istore 5, 2) := by decide +kernel
theorem dX6_comes_13 : decode cX6_comes 13 = .ok (.aload_n 0, 1) := by decide +kernel
theorem dX6_comes_14 : decode cX6_comes 14 = .ok (.iload_n 1, 1) := by decide +kernel
theorem dX6_comes_15 : decode cX6_comes 15 = .ok (.bipush 72, 2) := by decide +kernel
theorem dX6_comes_17 : decode cX6_comes 17 = .ok (.iload 5, 2) := by decide +kernel
theorem dX6_comes_19 : decode cX6_comes 19 = .ok (.iadd, 1) := by decide +kernel
theorem dX6_comes_20 : decode cX6_comes 20 = .ok (.invokevirtual 71, 3) := by decide +kernel
theorem dX6_comes_23 : decode cX6_comes 23 = .ok (.aload_n 0, 1) := by decide +kernel
theorem dX6_comes_24 : decode cX6_comes 24 = .ok (.getfield 45, 3) := by decide +kernel
theorem dX6_comes_27 : decode cX6_comes 27 = .ok (.iload 5, 2) := by decide +kernel
theorem dX6_comes_29 : decode cX6_comes 29 = .ok (.iload_n 3, 1) := by decide +kernel
theorem dX6_comes_30 : decode cX6_comes 30 = .ok (.iastore, 1) := by decide +kernel
theorem dX6_comes_31 : decode cX6_comes 31 = .ok (.aload_n 0, 1) := by decide +kernel
theorem dX6_comes_32 : decode cX6_comes 32 = .ok (.getfield 48, 3) := by decide +kernel
theorem dX6_comes_35 : decode cX6_comes 35 = .ok (.iload 5, 2) := by decide +kernel
theorem dX6_comes_37 : decode cX6_comes 37 = .ok (.iload_n 1, 1) := by decide +kernel
theorem dX6_comes_38 : decode cX6_comes 38 = .ok (.iastore, 1) := by decide +kernel
theorem dX6_comes_39 : decode cX6_comes 39 = .ok (.aload_n 0, 1) := by decide +kernel
theorem dX6_comes_40 : decode cX6_comes 40 = .ok (.getfield 51, 3) := by decide +kernel
theorem dX6_comes_43 : decode cX6_comes 43 = .ok (.iload 5, 2) := by decide +kernel
theorem dX6_comes_45 : decode cX6_comes 45 = .ok (.iload 4, 2) := by decide +kernel
theorem dX6_comes_47 : decode cX6_comes 47 = .ok (.iastore, 1) := by decide +kernel
theorem dX6_comes_48 : decode cX6_comes 48 = .ok (.aload_n 0, 1) := by decide +kernel
theorem dX6_comes_49 : decode cX6_comes 49 = .ok (.getfield 42, 3) := by decide +kernel
theorem dX6_comes_52 : decode cX6_comes 52 = .ok (.iload_n 2, 1) := by decide +kernel
theorem dX6_comes_53 : decode cX6_comes 53 = .ok (.dup2, 1) := by decide +kernel
theorem dX6_comes_54 : decode cX6_comes 54 = .ok (.iaload, 1) := by decide +kernel
theorem dX6_comes_55 : decode cX6_comes 55 = .ok (.iconst 1, 1) := by decide +kernel
theorem dX6_comes_56 : decode cX6_comes 56 = .ok (.iadd, 1) := by decide +kernel
theorem dX6_comes_57 : decode cX6_comes 57 = .ok (.iastore, 1) := by decide +kernel
theorem dX6_comes_58 : decode cX6_comes 58 = .ok (.return_, 1) := by decide +kernel
theorem dX6_sends_0 : decode cX6_sends 0 = .ok (.iload_n 2, 1) := by decide +kernel
theorem dX6_sends_1 : decode cX6_sends 1 = .ok (.invokestatic 75, 3) := by decide +kernel
theorem dX6_sends_4 : decode cX6_sends 4 = .ok (.ifCond .eq 32, 3) := by decide +kernel
theorem dX6_sends_7 : decode cX6_sends 7 = .ok (.aload_n 0, 1) := by decide +kernel
theorem dX6_sends_8 : decode cX6_sends 8 = .ok (.getfield 42, 3) := by decide +kernel
theorem dX6_sends_11 : decode cX6_sends 11 = .ok (.iload_n 2, 1) := by decide +kernel
theorem dX6_sends_12 : decode cX6_sends 12 = .ok (.iaload, 1) := by decide +kernel
theorem dX6_sends_13 : decode cX6_sends 13 = .ok (.bipush 8, 2) := by decide +kernel
theorem dX6_sends_15 : decode cX6_sends 15 = .ok (.if_icmp .ge 21, 3) := by decide +kernel
theorem dX6_sends_18 : decode cX6_sends 18 = .ok (.aload_n 0, 1) := by decide +kernel
theorem dX6_sends_19 : decode cX6_sends 19 = .ok (.iload_n 1, 1) := by decide +kernel
theorem dX6_sends_20 : decode cX6_sends 20 = .ok (.iload_n 2, 1) := by decide +kernel
theorem dX6_sends_21 : decode cX6_sends 21 = .ok (.invokevirtual 79, 3) := by decide +kernel
theorem dX6_sends_24 : decode cX6_sends 24 = .ok (.ifCond .eq 12, 3) := by decide +kernel
theorem dX6_sends_27 : decode cX6_sends 27 = .ok (.aload_n 0, 1) := by decide +kernel
theorem dX6_sends_28 : decode cX6_sends 28 = .ok (.iload_n 1, 1) := by decide +kernel
theorem dX6_sends_29 : decode cX6_sends 29 = .ok (.iload_n 2, 1) := by decide +kernel
theorem dX6_sends_30 : decode cX6_sends 30 = .ok (.iload_n 3, 1) := by decide +kernel
theorem dX6_sends_31 : decode cX6_sends 31 = .ok (.iload 4, 2) := by decide +kernel
theorem dX6_sends_33 : decode cX6_sends 33 = .ok (.invokevirtual 83, 3) := by decide +kernel
theorem dX6_sends_36 : decode cX6_sends 36 = .ok (.return_, 1) := by decide +kernel
theorem dX6_dropFirst_0 : decode cX6_dropFirst 0 = .ok (.aload_n 0, 1) := by decide +kernel
theorem dX6_dropFirst_1 : decode cX6_dropFirst 1 = .ok (.getfield 42, 3) := by decide +kernel
theorem dX6_dropFirst_4 : decode cX6_dropFirst 4 = .ok (.iload_n 1, 1) := by decide +kernel
theorem dX6_dropFirst_5 : decode cX6_dropFirst 5 = .ok (.dup2, 1) := by decide +kernel
theorem dX6_dropFirst_6 : decode cX6_dropFirst 6 = .ok (.iaload, 1) := by decide +kernel
theorem dX6_dropFirst_7 : decode cX6_dropFirst 7 = .ok (.iconst 1, 1) := by decide +kernel
theorem dX6_dropFirst_8 : decode cX6_dropFirst 8 = .ok (.isub, 1) := by decide +kernel
theorem dX6_dropFirst_9 : decode cX6_dropFirst 9 = .ok (.iastore, 1) := by decide +kernel
theorem dX6_dropFirst_10 : decode cX6_dropFirst 10 = .ok (.bipush 8, 2) := by decide +kernel
theorem dX6_dropFirst_12 : decode cX6_dropFirst 12 = .ok (.iload_n 1, 1) := by decide +kernel
theorem dX6_dropFirst_13 : decode cX6_dropFirst 13 = .ok (.imul, 1) := by decide +kernel
theorem dX6_dropFirst_14 : decode cX6_dropFirst 14 = .ok (.istore_n 2, 1) := by decide +kernel
theorem dX6_dropFirst_15 : decode cX6_dropFirst 15 = .ok (.iload_n 2, 1) := by decide +kernel
theorem dX6_dropFirst_16 : decode cX6_dropFirst 16 = .ok (.bipush 8, 2) := by decide +kernel
theorem dX6_dropFirst_18 : decode cX6_dropFirst 18 = .ok (.iload_n 1, 1) := by decide +kernel
theorem dX6_dropFirst_19 : decode cX6_dropFirst 19 = .ok (.imul, 1) := by decide +kernel
theorem dX6_dropFirst_20 : decode cX6_dropFirst 20 = .ok (.aload_n 0, 1) := by decide +kernel
theorem dX6_dropFirst_21 : decode cX6_dropFirst 21 = .ok (.getfield 42, 3) := by decide +kernel
theorem dX6_dropFirst_24 : decode cX6_dropFirst 24 = .ok (.iload_n 1, 1) := by decide +kernel
theorem dX6_dropFirst_25 : decode cX6_dropFirst 25 = .ok (.iaload, 1) := by decide +kernel
theorem dX6_dropFirst_26 : decode cX6_dropFirst 26 = .ok (.iadd, 1) := by decide +kernel
theorem dX6_dropFirst_27 : decode cX6_dropFirst 27 = .ok (.if_icmp .ge 65, 3) := by decide +kernel
theorem dX6_dropFirst_30 : decode cX6_dropFirst 30 = .ok (.aload_n 0, 1) := by decide +kernel
theorem dX6_dropFirst_31 : decode cX6_dropFirst 31 = .ok (.bipush 72, 2) := by decide +kernel
theorem dX6_dropFirst_33 : decode cX6_dropFirst 33 = .ok (.iload_n 2, 1) := by decide +kernel
theorem dX6_dropFirst_34 : decode cX6_dropFirst 34 = .ok (.iadd, 1) := by decide +kernel
theorem dX6_dropFirst_35 : decode cX6_dropFirst 35 = .ok (.iconst 1, 1) := by decide +kernel
theorem dX6_dropFirst_36 : decode cX6_dropFirst 36 = .ok (.iadd, 1) := by decide +kernel
theorem dX6_dropFirst_37 : decode cX6_dropFirst 37 = .ok (.bipush 72, 2) := by decide +kernel
theorem dX6_dropFirst_39 : decode cX6_dropFirst 39 = .ok (.iload_n 2, 1) := by decide +kernel
theorem dX6_dropFirst_40 : decode cX6_dropFirst 40 = .ok (.iadd, 1) := by decide +kernel
theorem dX6_dropFirst_41 : decode cX6_dropFirst 41 = .ok (.invokevirtual 71, 3) := by decide +kernel
theorem dX6_dropFirst_44 : decode cX6_dropFirst 44 = .ok (.aload_n 0, 1) := by decide +kernel
theorem dX6_dropFirst_45 : decode cX6_dropFirst 45 = .ok (.getfield 45, 3) := by decide +kernel
theorem dX6_dropFirst_48 : decode cX6_dropFirst 48 = .ok (.iload_n 2, 1) := by decide +kernel
theorem dX6_dropFirst_49 : decode cX6_dropFirst 49 = .ok (.aload_n 0, 1) := by decide +kernel
theorem dX6_dropFirst_50 : decode cX6_dropFirst 50 = .ok (.getfield 45, 3) := by decide +kernel
theorem dX6_dropFirst_53 : decode cX6_dropFirst 53 = .ok (.iload_n 2, 1) := by decide +kernel
theorem dX6_dropFirst_54 : decode cX6_dropFirst 54 = .ok (.iconst 1, 1) := by decide +kernel
theorem dX6_dropFirst_55 : decode cX6_dropFirst 55 = .ok (.iadd, 1) := by decide +kernel
theorem dX6_dropFirst_56 : decode cX6_dropFirst 56 = .ok (.iaload, 1) := by decide +kernel
theorem dX6_dropFirst_57 : decode cX6_dropFirst 57 = .ok (.iastore, 1) := by decide +kernel
theorem dX6_dropFirst_58 : decode cX6_dropFirst 58 = .ok (.aload_n 0, 1) := by decide +kernel
theorem dX6_dropFirst_59 : decode cX6_dropFirst 59 = .ok (.getfield 48, 3) := by decide +kernel
theorem dX6_dropFirst_62 : decode cX6_dropFirst 62 = .ok (.iload_n 2, 1) := by decide +kernel
theorem dX6_dropFirst_63 : decode cX6_dropFirst 63 = .ok (.aload_n 0, 1) := by decide +kernel
theorem dX6_dropFirst_64 : decode cX6_dropFirst 64 = .ok (.getfield 48, 3) := by decide +kernel
theorem dX6_dropFirst_67 : decode cX6_dropFirst 67 = .ok (.iload_n 2, 1) := by decide +kernel
theorem dX6_dropFirst_68 : decode cX6_dropFirst 68 = .ok (.iconst 1, 1) := by decide +kernel
theorem dX6_dropFirst_69 : decode cX6_dropFirst 69 = .ok (.iadd, 1) := by decide +kernel
theorem dX6_dropFirst_70 : decode cX6_dropFirst 70 = .ok (.iaload, 1) := by decide +kernel
theorem dX6_dropFirst_71 : decode cX6_dropFirst 71 = .ok (.iastore, 1) := by decide +kernel
theorem dX6_dropFirst_72 : decode cX6_dropFirst 72 = .ok (.aload_n 0, 1) := by decide +kernel
theorem dX6_dropFirst_73 : decode cX6_dropFirst 73 = .ok (.getfield 51, 3) := by decide +kernel
theorem dX6_dropFirst_76 : decode cX6_dropFirst 76 = .ok (.iload_n 2, 1) := by decide +kernel
theorem dX6_dropFirst_77 : decode cX6_dropFirst 77 = .ok (.aload_n 0, 1) := by decide +kernel
theorem dX6_dropFirst_78 : decode cX6_dropFirst 78 = .ok (.getfield 51, 3) := by decide +kernel
theorem dX6_dropFirst_81 : decode cX6_dropFirst 81 = .ok (.iload_n 2, 1) := by decide +kernel
theorem dX6_dropFirst_82 : decode cX6_dropFirst 82 = .ok (.iconst 1, 1) := by decide +kernel
theorem dX6_dropFirst_83 : decode cX6_dropFirst 83 = .ok (.iadd, 1) := by decide +kernel
theorem dX6_dropFirst_84 : decode cX6_dropFirst 84 = .ok (.iaload, 1) := by decide +kernel
theorem dX6_dropFirst_85 : decode cX6_dropFirst 85 = .ok (.iastore, 1) := by decide +kernel
theorem dX6_dropFirst_86 : decode cX6_dropFirst 86 = .ok (.iinc 2 1, 3) := by decide +kernel
theorem dX6_dropFirst_89 : decode cX6_dropFirst 89 = .ok (.goto (-74), 3) := by decide +kernel
theorem dX6_dropFirst_92 : decode cX6_dropFirst 92 = .ok (.return_, 1) := by decide +kernel
theorem dX6_traps_0 : decode cX6_traps 0 = .ok (.aload_n 0, 1) := by decide +kernel
theorem dX6_traps_1 : decode cX6_traps 1 = .ok (.getfield 19, 3) := by decide +kernel
theorem dX6_traps_4 : decode cX6_traps 4 = .ok (.iload_n 1, 1) := by decide +kernel
theorem dX6_traps_5 : decode cX6_traps 5 = .ok (.iconst 3, 1) := by decide +kernel
theorem dX6_traps_6 : decode cX6_traps 6 = .ok (.iastore, 1) := by decide +kernel
theorem dX6_traps_7 : decode cX6_traps 7 = .ok (.aload_n 0, 1) := by decide +kernel
theorem dX6_traps_8 : decode cX6_traps 8 = .ok (.getfield 22, 3) := by decide +kernel
theorem dX6_traps_11 : decode cX6_traps 11 = .ok (.iload_n 1, 1) := by decide +kernel
theorem dX6_traps_12 : decode cX6_traps 12 = .ok (.iload_n 2, 1) := by decide +kernel
theorem dX6_traps_13 : decode cX6_traps 13 = .ok (.iastore, 1) := by decide +kernel
theorem dX6_traps_14 : decode cX6_traps 14 = .ok (.return_, 1) := by decide +kernel
theorem dX6_turn_0 : decode cX6_turn 0 = .ok (.aload_n 0, 1) := by decide +kernel
theorem dX6_turn_1 : decode cX6_turn 1 = .ok (.getfield 19, 3) := by decide +kernel
theorem dX6_turn_4 : decode cX6_turn 4 = .ok (.iload_n 1, 1) := by decide +kernel
theorem dX6_turn_5 : decode cX6_turn 5 = .ok (.iaload, 1) := by decide +kernel
theorem dX6_turn_6 : decode cX6_turn 6 = .ok (.iconst 1, 1) := by decide +kernel
theorem dX6_turn_7 : decode cX6_turn 7 = .ok (.if_icmp .eq 4, 3) := by decide +kernel
theorem dX6_turn_10 : decode cX6_turn 10 = .ok (.return_, 1) := by decide +kernel
theorem dX6_turn_11 : decode cX6_turn 11 = .ok (.aload_n 0, 1) := by decide +kernel
theorem dX6_turn_12 : decode cX6_turn 12 = .ok (.getfield 16, 3) := by decide +kernel
theorem dX6_turn_15 : decode cX6_turn 15 = .ok (.iload_n 1, 1) := by decide +kernel
theorem dX6_turn_16 : decode cX6_turn 16 = .ok (.iaload, 1) := by decide +kernel
theorem dX6_turn_17 : decode cX6_turn 17 = .ok (.invokestatic 87, 3) := by decide +kernel
theorem dX6_turn_20 : decode cX6_turn 20 = .ok (.ifCond .ne 10, 3) := by decide +kernel
theorem dX6_turn_23 : decode cX6_turn 23 = .ok (.aload_n 0, 1) := by decide +kernel
theorem dX6_turn_24 : decode cX6_turn 24 = .ok (.iload_n 1, 1) := by decide +kernel
theorem dX6_turn_25 : decode cX6_turn 25 = .ok (.iconst 2, 1) := by decide +kernel
theorem dX6_turn_26 : decode cX6_turn 26 = .ok (.invokevirtual 90, 3) := by decide +kernel
theorem dX6_turn_29 : decode cX6_turn 29 = .ok (.return_, 1) := by decide +kernel
theorem dX6_turn_30 : decode cX6_turn 30 = .ok (.aload_n 0, 1) := by decide +kernel
theorem dX6_turn_31 : decode cX6_turn 31 = .ok (.getfield 9, 3) := by decide +kernel
theorem dX6_turn_34 : decode cX6_turn 34 = .ok (.sipush 128, 3) := by decide +kernel
theorem dX6_turn_37 : decode cX6_turn 37 = .ok (.iload_n 1, 1) := by decide +kernel
theorem dX6_turn_38 : decode cX6_turn 38 = .ok (.imul, 1) := by decide +kernel
theorem dX6_turn_39 : decode cX6_turn 39 = .ok (.aload_n 0, 1) := by decide +kernel
theorem dX6_turn_40 : decode cX6_turn 40 = .ok (.getfield 16, 3) := by decide +kernel
theorem dX6_turn_43 : decode cX6_turn 43 = .ok (.iload_n 1, 1) := by decide +kernel
theorem dX6_turn_44 : decode cX6_turn 44 = .ok (.iaload, 1) := by decide +kernel
theorem dX6_turn_45 : decode cX6_turn 45 = .ok (.iadd, 1) := by decide +kernel
theorem dX6_turn_46 : decode cX6_turn 46 = .ok (.iaload, 1) := by decide +kernel
theorem dX6_turn_47 : decode cX6_turn 47 = .ok (.istore_n 2, 1) := by decide +kernel
theorem dX6_turn_48 : decode cX6_turn 48 = .ok (.iload_n 2, 1) := by decide +kernel
theorem dX6_turn_49 : decode cX6_turn 49 = .ok (.bipush 32, 2) := by decide +kernel
theorem dX6_turn_51 : decode cX6_turn 51 = .ok (.irem, 1) := by decide +kernel
theorem dX6_turn_52 : decode cX6_turn 52 = .ok (.bipush 32, 2) := by decide +kernel
theorem dX6_turn_54 : decode cX6_turn 54 = .ok (.iadd, 1) := by decide +kernel
theorem dX6_turn_55 : decode cX6_turn 55 = .ok (.bipush 32, 2) := by decide +kernel
theorem dX6_turn_57 : decode cX6_turn 57 = .ok (.irem, 1) := by decide +kernel
theorem dX6_turn_58 : decode cX6_turn 58 = .ok (.istore_n 3, 1) := by decide +kernel
theorem dX6_turn_59 : decode cX6_turn 59 = .ok (.iload_n 2, 1) := by decide +kernel
theorem dX6_turn_60 : decode cX6_turn 60 = .ok (.iconst 5, 1) := by decide +kernel
theorem dX6_turn_61 : decode cX6_turn 61 = .ok (.ishr, 1) := by decide +kernel
theorem dX6_turn_62 : decode cX6_turn 62 = .ok (.istore 4, 2) := by decide +kernel
theorem dX6_turn_64 : decode cX6_turn 64 = .ok (.aload_n 0, 1) := by decide +kernel
theorem dX6_turn_65 : decode cX6_turn 65 = .ok (.getfield 16, 3) := by decide +kernel
theorem dX6_turn_68 : decode cX6_turn 68 = .ok (.iload_n 1, 1) := by decide +kernel
theorem dX6_turn_69 : decode cX6_turn 69 = .ok (.dup2, 1) := by decide +kernel
theorem dX6_turn_70 : decode cX6_turn 70 = .ok (.iaload, 1) := by decide +kernel
theorem dX6_turn_71 : decode cX6_turn 71 = .ok (.iconst 1, 1) := by decide +kernel
theorem dX6_turn_72 : decode cX6_turn 72 = .ok (.iadd, 1) := by decide +kernel
theorem dX6_turn_73 : decode cX6_turn 73 = .ok (.iastore, 1) := by decide +kernel
theorem dX6_turn_74 : decode cX6_turn 74 = .ok (.iload_n 3, 1) := by decide +kernel
theorem dX6_turn_75 : decode cX6_turn 75 = .ok (.ifCond .ne 13, 3) := by decide +kernel
theorem dX6_turn_78 : decode cX6_turn 78 = .ok (.aload_n 0, 1) := by decide +kernel
theorem dX6_turn_79 : decode cX6_turn 79 = .ok (.getfield 19, 3) := by decide +kernel
theorem dX6_turn_82 : decode cX6_turn 82 = .ok (.iload_n 1, 1) := by decide +kernel
theorem dX6_turn_83 : decode cX6_turn 83 = .ok (.iconst 2, 1) := by decide +kernel
theorem dX6_turn_84 : decode cX6_turn 84 = .ok (.iastore, 1) := by decide +kernel
theorem dX6_turn_85 : decode cX6_turn 85 = .ok (.goto 140, 3) := by decide +kernel
theorem dX6_turn_88 : decode cX6_turn 88 = .ok (.iload_n 3, 1) := by decide +kernel
theorem dX6_turn_89 : decode cX6_turn 89 = .ok (.iconst 3, 1) := by decide +kernel
theorem dX6_turn_90 : decode cX6_turn 90 = .ok (.if_icmp .ne 14, 3) := by decide +kernel
theorem dX6_turn_93 : decode cX6_turn 93 = .ok (.aload_n 0, 1) := by decide +kernel
theorem dX6_turn_94 : decode cX6_turn 94 = .ok (.getfield 13, 3) := by decide +kernel
theorem dX6_turn_97 : decode cX6_turn 97 = .ok (.iload_n 1, 1) := by decide +kernel
theorem dX6_turn_98 : decode cX6_turn 98 = .ok (.iload 4, 2) := by decide +kernel
theorem dX6_turn_100 : decode cX6_turn 100 = .ok (.iastore, 1) := by decide +kernel
theorem dX6_turn_101 : decode cX6_turn 101 = .ok (.goto 124, 3) := by decide +kernel
theorem dX6_turn_104 : decode cX6_turn 104 = .ok (.iload_n 3, 1) := by decide +kernel
theorem dX6_turn_105 : decode cX6_turn 105 = .ok (.bipush 13, 2) := by decide +kernel
theorem dX6_turn_107 : decode cX6_turn 107 = .ok (.if_icmp .lt 56, 3) := by decide +kernel
theorem dX6_turn_110 : decode cX6_turn 110 = .ok (.iload_n 3, 1) := by decide +kernel
theorem dX6_turn_111 : decode cX6_turn 111 = .ok (.bipush 15, 2) := by decide +kernel
theorem dX6_turn_113 : decode cX6_turn 113 = .ok (.if_icmp .gt 50, 3) := by decide +kernel
theorem dX6_turn_116 : decode cX6_turn 116 = .ok (.iload_n 3, 1) := by decide +kernel
theorem dX6_turn_117 : decode cX6_turn 117 = .ok (.bipush 13, 2) := by decide +kernel
theorem dX6_turn_119 : decode cX6_turn 119 = .ok (.if_icmp .eq 33, 3) := by decide +kernel
theorem dX6_turn_122 : decode cX6_turn 122 = .ok (.iload_n 3, 1) := by decide +kernel
theorem dX6_turn_123 : decode cX6_turn 123 = .ok (.bipush 14, 2) := by decide +kernel
theorem dX6_turn_125 : decode cX6_turn 125 = .ok (.if_icmp .ne 12, 3) := by decide +kernel
theorem dX6_turn_128 : decode cX6_turn 128 = .ok (.aload_n 0, 1) := by decide +kernel
theorem dX6_turn_129 : decode cX6_turn 129 = .ok (.getfield 13, 3) := by decide +kernel
theorem dX6_turn_132 : decode cX6_turn 132 = .ok (.iload_n 1, 1) := by decide +kernel
theorem dX6_turn_133 : decode cX6_turn 133 = .ok (.iaload, 1) := by decide +kernel
theorem dX6_turn_134 : decode cX6_turn 134 = .ok (.ifCond .eq 18, 3) := by decide +kernel
theorem dX6_turn_137 : decode cX6_turn 137 = .ok (.iload_n 3, 1) := by decide +kernel
theorem dX6_turn_138 : decode cX6_turn 138 = .ok (.bipush 15, 2) := by decide +kernel
theorem dX6_turn_140 : decode cX6_turn 140 = .ok (.if_icmp .ne 85, 3) := by decide +kernel
theorem dX6_turn_143 : decode cX6_turn 143 = .ok (.aload_n 0, 1) := by decide +kernel
theorem dX6_turn_144 : decode cX6_turn 144 = .ok (.getfield 13, 3) := by decide +kernel
theorem dX6_turn_147 : decode cX6_turn 147 = .ok (.iload_n 1, 1) := by decide +kernel
theorem dX6_turn_148 : decode cX6_turn 148 = .ok (.iaload, 1) := by decide +kernel
theorem dX6_turn_149 : decode cX6_turn 149 = .ok (.ifCond .ge 76, 3) := by decide +kernel
theorem dX6_turn_152 : decode cX6_turn 152 = .ok (.aload_n 0, 1) := by decide +kernel
theorem dX6_turn_153 : decode cX6_turn 153 = .ok (.getfield 16, 3) := by decide +kernel
theorem dX6_turn_156 : decode cX6_turn 156 = .ok (.iload_n 1, 1) := by decide +kernel
theorem dX6_turn_157 : decode cX6_turn 157 = .ok (.iload 4, 2) := by decide +kernel
theorem dX6_turn_159 : decode cX6_turn 159 = .ok (.iastore, 1) := by decide +kernel
theorem dX6_turn_160 : decode cX6_turn 160 = .ok (.goto 65, 3) := by decide +kernel
theorem dX6_turn_163 : decode cX6_turn 163 = .ok (.iload_n 3, 1) := by decide +kernel
theorem dX6_turn_164 : decode cX6_turn 164 = .ok (.bipush 16, 2) := by decide +kernel
theorem dX6_turn_166 : decode cX6_turn 166 = .ok (.if_icmp .ne 13, 3) := by decide +kernel
theorem dX6_turn_169 : decode cX6_turn 169 = .ok (.aload_n 0, 1) := by decide +kernel
theorem dX6_turn_170 : decode cX6_turn 170 = .ok (.iload_n 1, 1) := by decide +kernel
theorem dX6_turn_171 : decode cX6_turn 171 = .ok (.iload 4, 2) := by decide +kernel
theorem dX6_turn_173 : decode cX6_turn 173 = .ok (.invokevirtual 93, 3) := by decide +kernel
theorem dX6_turn_176 : decode cX6_turn 176 = .ok (.goto 49, 3) := by decide +kernel
theorem dX6_turn_179 : decode cX6_turn 179 = .ok (.iload_n 3, 1) := by decide +kernel
theorem dX6_turn_180 : decode cX6_turn 180 = .ok (.bipush 16, 2) := by decide +kernel
theorem dX6_turn_182 : decode cX6_turn 182 = .ok (.if_icmp .le 12, 3) := by decide +kernel
theorem dX6_turn_185 : decode cX6_turn 185 = .ok (.aload_n 0, 1) := by decide +kernel
theorem dX6_turn_186 : decode cX6_turn 186 = .ok (.iload_n 1, 1) := by decide +kernel
theorem dX6_turn_187 : decode cX6_turn 187 = .ok (.iconst 1, 1) := by decide +kernel
theorem dX6_turn_188 : decode cX6_turn 188 = .ok (.invokevirtual 90, 3) := by decide +kernel
theorem dX6_turn_191 : decode cX6_turn 191 = .ok (.goto 34, 3) := by decide +kernel
theorem dX6_turn_194 : decode cX6_turn 194 = .ok (.iload 4, 2) := by decide +kernel
theorem dX6_turn_196 : decode cX6_turn 196 = .ok (.invokestatic 87, 3) := by decide +kernel
theorem dX6_turn_199 : decode cX6_turn 199 = .ok (.ifCond .ne 12, 3) := by decide +kernel
theorem dX6_turn_202 : decode cX6_turn 202 = .ok (.aload_n 0, 1) := by decide +kernel
theorem dX6_turn_203 : decode cX6_turn 203 = .ok (.iload_n 1, 1) := by decide +kernel
theorem dX6_turn_204 : decode cX6_turn 204 = .ok (.iconst 2, 1) := by decide +kernel
theorem dX6_turn_205 : decode cX6_turn 205 = .ok (.invokevirtual 90, 3) := by decide +kernel
theorem dX6_turn_208 : decode cX6_turn 208 = .ok (.goto 17, 3) := by decide +kernel
theorem dX6_turn_211 : decode cX6_turn 211 = .ok (.aload_n 0, 1) := by decide +kernel
theorem dX6_turn_212 : decode cX6_turn 212 = .ok (.iload_n 1, 1) := by decide +kernel
theorem dX6_turn_213 : decode cX6_turn 213 = .ok (.iload_n 3, 1) := by decide +kernel
theorem dX6_turn_214 : decode cX6_turn 214 = .ok (.sipush 128, 3) := by decide +kernel
theorem dX6_turn_217 : decode cX6_turn 217 = .ok (.iload_n 1, 1) := by decide +kernel
theorem dX6_turn_218 : decode cX6_turn 218 = .ok (.imul, 1) := by decide +kernel
theorem dX6_turn_219 : decode cX6_turn 219 = .ok (.iload 4, 2) := by decide +kernel
theorem dX6_turn_221 : decode cX6_turn 221 = .ok (.iadd, 1) := by decide +kernel
theorem dX6_turn_222 : decode cX6_turn 222 = .ok (.invokevirtual 96, 3) := by decide +kernel
theorem dX6_turn_225 : decode cX6_turn 225 = .ok (.return_, 1) := by decide +kernel
theorem dX6_works_0 : decode cX6_works 0 = .ok (.aload_n 0, 1) := by decide +kernel
theorem dX6_works_1 : decode cX6_works 1 = .ok (.getfield 9, 3) := by decide +kernel
theorem dX6_works_4 : decode cX6_works 4 = .ok (.iload_n 3, 1) := by decide +kernel
theorem dX6_works_5 : decode cX6_works 5 = .ok (.iaload, 1) := by decide +kernel
theorem dX6_works_6 : decode cX6_works 6 = .ok (.istore 4, 2) := by decide +kernel
theorem dX6_works_8 : decode cX6_works 8 = .ok (.iload_n 2, 1) := by decide +kernel
theorem dX6_works_9 : decode cX6_works 9 = .ok (.iconst 4, 1) := by decide +kernel
theorem dX6_works_10 : decode cX6_works 10 = .ok (.if_icmp .eq 8, 3) := by decide +kernel
theorem dX6_works_13 : decode cX6_works 13 = .ok (.iload_n 2, 1) := by decide +kernel
theorem dX6_works_14 : decode cX6_works 14 = .ok (.iconst 5, 1) := by decide +kernel
theorem dX6_works_15 : decode cX6_works 15 = .ok (.if_icmp .ne 18, 3) := by decide +kernel
theorem dX6_works_18 : decode cX6_works 18 = .ok (.iload 4, 2) := by decide +kernel
theorem dX6_works_20 : decode cX6_works 20 = .ok (.invokestatic 87, 3) := by decide +kernel
theorem dX6_works_23 : decode cX6_works 23 = .ok (.ifCond .ne 10, 3) := by decide +kernel
theorem dX6_works_26 : decode cX6_works 26 = .ok (.aload_n 0, 1) := by decide +kernel
theorem dX6_works_27 : decode cX6_works 27 = .ok (.iload_n 1, 1) := by decide +kernel
theorem dX6_works_28 : decode cX6_works 28 = .ok (.iconst 2, 1) := by decide +kernel
theorem dX6_works_29 : decode cX6_works 29 = .ok (.invokevirtual 90, 3) := by decide +kernel
theorem dX6_works_32 : decode cX6_works 32 = .ok (.return_, 1) := by decide +kernel
theorem dX6_works_33 : decode cX6_works 33 = .ok (.iload_n 2, 1) := by decide +kernel
theorem dX6_works_34 : decode cX6_works 34 = .ok (.bipush 9, 2) := by decide +kernel
theorem dX6_works_36 : decode cX6_works 36 = .ok (.if_icmp .eq 9, 3) := by decide +kernel
theorem dX6_works_39 : decode cX6_works 39 = .ok (.iload_n 2, 1) := by decide +kernel
theorem dX6_works_40 : decode cX6_works 40 = .ok (.bipush 10, 2) := by decide +kernel
theorem dX6_works_42 : decode cX6_works 42 = .ok (.if_icmp .ne 15, 3) := by decide +kernel
theorem dX6_works_45 : decode cX6_works 45 = .ok (.iload 4, 2) := by decide +kernel
theorem dX6_works_47 : decode cX6_works 47 = .ok (.ifCond .ne 10, 3) := by decide +kernel
theorem dX6_works_50 : decode cX6_works 50 = .ok (.aload_n 0, 1) := by decide +kernel
theorem dX6_works_51 : decode cX6_works 51 = .ok (.iload_n 1, 1) := by decide +kernel
theorem dX6_works_52 : decode cX6_works 52 = .ok (.iconst 3, 1) := by decide +kernel
theorem dX6_works_53 : decode cX6_works 53 = .ok (.invokevirtual 90, 3) := by decide +kernel
theorem dX6_works_56 : decode cX6_works 56 = .ok (.return_, 1) := by decide +kernel
theorem dX6_works_57 : decode cX6_works 57 = .ok (.iload_n 2, 1) := by decide +kernel
theorem dX6_works_58 : decode cX6_works 58 = .ok (.tableswitch 212 1 11 #[58, 69, 212, 84, 106, 128, 142, 156, 170, 184, 198], 58) := by decide +kernel
theorem dX6_works_116 : decode cX6_works 116 = .ok (.aload_n 0, 1) := by decide +kernel
theorem dX6_works_117 : decode cX6_works 117 = .ok (.getfield 13, 3) := by decide +kernel
theorem dX6_works_120 : decode cX6_works 120 = .ok (.iload_n 1, 1) := by decide +kernel
theorem dX6_works_121 : decode cX6_works 121 = .ok (.iload 4, 2) := by decide +kernel
theorem dX6_works_123 : decode cX6_works 123 = .ok (.iastore, 1) := by decide +kernel
theorem dX6_works_124 : decode cX6_works 124 = .ok (.goto 157, 3) := by decide +kernel
theorem dX6_works_127 : decode cX6_works 127 = .ok (.aload_n 0, 1) := by decide +kernel
theorem dX6_works_128 : decode cX6_works 128 = .ok (.getfield 9, 3) := by decide +kernel
theorem dX6_works_131 : decode cX6_works 131 = .ok (.iload_n 3, 1) := by decide +kernel
theorem dX6_works_132 : decode cX6_works 132 = .ok (.aload_n 0, 1) := by decide +kernel
theorem dX6_works_133 : decode cX6_works 133 = .ok (.getfield 13, 3) := by decide +kernel
theorem dX6_works_136 : decode cX6_works 136 = .ok (.iload_n 1, 1) := by decide +kernel
theorem dX6_works_137 : decode cX6_works 137 = .ok (.iaload, 1) := by decide +kernel
theorem dX6_works_138 : decode cX6_works 138 = .ok (.iastore, 1) := by decide +kernel
theorem dX6_works_139 : decode cX6_works 139 = .ok (.goto 142, 3) := by decide +kernel
theorem dX6_works_142 : decode cX6_works 142 = .ok (.aload_n 0, 1) := by decide +kernel
theorem dX6_works_143 : decode cX6_works 143 = .ok (.getfield 13, 3) := by decide +kernel
theorem dX6_works_146 : decode cX6_works 146 = .ok (.iload_n 1, 1) := by decide +kernel
theorem dX6_works_147 : decode cX6_works 147 = .ok (.aload_n 0, 1) := by decide +kernel
theorem dX6_works_148 : decode cX6_works 148 = .ok (.getfield 9, 3) := by decide +kernel
theorem dX6_works_151 : decode cX6_works 151 = .ok (.sipush 128, 3) := by decide +kernel
theorem dX6_works_154 : decode cX6_works 154 = .ok (.iload_n 1, 1) := by decide +kernel
theorem dX6_works_155 : decode cX6_works 155 = .ok (.imul, 1) := by decide +kernel
theorem dX6_works_156 : decode cX6_works 156 = .ok (.iload 4, 2) := by decide +kernel
theorem dX6_works_158 : decode cX6_works 158 = .ok (.iadd, 1) := by decide +kernel
theorem dX6_works_159 : decode cX6_works 159 = .ok (.iaload, 1) := by decide +kernel
theorem dX6_works_160 : decode cX6_works 160 = .ok (.iastore, 1) := by decide +kernel
theorem dX6_works_161 : decode cX6_works 161 = .ok (.goto 120, 3) := by decide +kernel
theorem dX6_works_164 : decode cX6_works 164 = .ok (.aload_n 0, 1) := by decide +kernel
theorem dX6_works_165 : decode cX6_works 165 = .ok (.getfield 9, 3) := by decide +kernel
theorem dX6_works_168 : decode cX6_works 168 = .ok (.sipush 128, 3) := by decide +kernel
theorem dX6_works_171 : decode cX6_works 171 = .ok (.iload_n 1, 1) := by decide +kernel
theorem dX6_works_172 : decode cX6_works 172 = .ok (.imul, 1) := by decide +kernel
theorem dX6_works_173 : decode cX6_works 173 = .ok (.iload 4, 2) := by decide +kernel
theorem dX6_works_175 : decode cX6_works 175 = .ok (.iadd, 1) := by decide +kernel
theorem dX6_works_176 : decode cX6_works 176 = .ok (.aload_n 0, 1) := by decide +kernel
theorem dX6_works_177 : decode cX6_works 177 = .ok (.getfield 13, 3) := by decide +kernel
theorem dX6_works_180 : decode cX6_works 180 = .ok (.iload_n 1, 1) := by decide +kernel
theorem dX6_works_181 : decode cX6_works 181 = .ok (.iaload, 1) := by decide +kernel
theorem dX6_works_182 : decode cX6_works 182 = .ok (.iastore, 1) := by decide +kernel
theorem dX6_works_183 : decode cX6_works 183 = .ok (.goto 98, 3) := by decide +kernel
theorem dX6_works_186 : decode cX6_works 186 = .ok (.aload_n 0, 1) := by decide +kernel
theorem dX6_works_187 : decode cX6_works 187 = .ok (.getfield 13, 3) := by decide +kernel
theorem dX6_works_190 : decode cX6_works 190 = .ok (.iload_n 1, 1) := by decide +kernel
theorem dX6_works_191 : decode cX6_works 191 = .ok (.dup2, 1) := by decide +kernel
theorem dX6_works_192 : decode cX6_works 192 = .ok (.iaload, 1) := by decide +kernel
theorem dX6_works_193 : decode cX6_works 193 = .ok (.iload 4, 2) := by decide +kernel
theorem dX6_works_195 : decode cX6_works 195 = .ok (.iadd, 1) := by decide +kernel
theorem dX6_works_196 : decode cX6_works 196 = .ok (.iastore, 1) := by decide +kernel
theorem dX6_works_197 : decode cX6_works 197 = .ok (.goto 84, 3) := by decide +kernel
theorem dX6_works_200 : decode cX6_works 200 = .ok (.aload_n 0, 1) := by decide +kernel
theorem dX6_works_201 : decode cX6_works 201 = .ok (.getfield 13, 3) := by decide +kernel
theorem dX6_works_204 : decode cX6_works 204 = .ok (.iload_n 1, 1) := by decide +kernel
theorem dX6_works_205 : decode cX6_works 205 = .ok (.dup2, 1) := by decide +kernel
theorem dX6_works_206 : decode cX6_works 206 = .ok (.iaload, 1) := by decide +kernel
theorem dX6_works_207 : decode cX6_works 207 = .ok (.iload 4, 2) := by decide +kernel
theorem dX6_works_209 : decode cX6_works 209 = .ok (.isub, 1) := by decide +kernel
theorem dX6_works_210 : decode cX6_works 210 = .ok (.iastore, 1) := by decide +kernel
theorem dX6_works_211 : decode cX6_works 211 = .ok (.goto 70, 3) := by decide +kernel
theorem dX6_works_214 : decode cX6_works 214 = .ok (.aload_n 0, 1) := by decide +kernel
theorem dX6_works_215 : decode cX6_works 215 = .ok (.getfield 13, 3) := by decide +kernel
theorem dX6_works_218 : decode cX6_works 218 = .ok (.iload_n 1, 1) := by decide +kernel
theorem dX6_works_219 : decode cX6_works 219 = .ok (.dup2, 1) := by decide +kernel
theorem dX6_works_220 : decode cX6_works 220 = .ok (.iaload, 1) := by decide +kernel
theorem dX6_works_221 : decode cX6_works 221 = .ok (.iload 4, 2) := by decide +kernel
theorem dX6_works_223 : decode cX6_works 223 = .ok (.imul, 1) := by decide +kernel
theorem dX6_works_224 : decode cX6_works 224 = .ok (.iastore, 1) := by decide +kernel
theorem dX6_works_225 : decode cX6_works 225 = .ok (.goto 56, 3) := by decide +kernel
theorem dX6_works_228 : decode cX6_works 228 = .ok (.aload_n 0, 1) := by decide +kernel
theorem dX6_works_229 : decode cX6_works 229 = .ok (.getfield 13, 3) := by decide +kernel
theorem dX6_works_232 : decode cX6_works 232 = .ok (.iload_n 1, 1) := by decide +kernel
theorem dX6_works_233 : decode cX6_works 233 = .ok (.dup2, 1) := by decide +kernel
theorem dX6_works_234 : decode cX6_works 234 = .ok (.iaload, 1) := by decide +kernel
theorem dX6_works_235 : decode cX6_works 235 = .ok (.iload 4, 2) := by decide +kernel
theorem dX6_works_237 : decode cX6_works 237 = .ok (.idiv, 1) := by decide +kernel
theorem dX6_works_238 : decode cX6_works 238 = .ok (.iastore, 1) := by decide +kernel
theorem dX6_works_239 : decode cX6_works 239 = .ok (.goto 42, 3) := by decide +kernel
theorem dX6_works_242 : decode cX6_works 242 = .ok (.aload_n 0, 1) := by decide +kernel
theorem dX6_works_243 : decode cX6_works 243 = .ok (.getfield 13, 3) := by decide +kernel
theorem dX6_works_246 : decode cX6_works 246 = .ok (.iload_n 1, 1) := by decide +kernel
theorem dX6_works_247 : decode cX6_works 247 = .ok (.dup2, 1) := by decide +kernel
theorem dX6_works_248 : decode cX6_works 248 = .ok (.iaload, 1) := by decide +kernel
theorem dX6_works_249 : decode cX6_works 249 = .ok (.iload 4, 2) := by decide +kernel
theorem dX6_works_251 : decode cX6_works 251 = .ok (.irem, 1) := by decide +kernel
theorem dX6_works_252 : decode cX6_works 252 = .ok (.iastore, 1) := by decide +kernel
theorem dX6_works_253 : decode cX6_works 253 = .ok (.goto 28, 3) := by decide +kernel
theorem dX6_works_256 : decode cX6_works 256 = .ok (.aload_n 0, 1) := by decide +kernel
theorem dX6_works_257 : decode cX6_works 257 = .ok (.getfield 13, 3) := by decide +kernel
theorem dX6_works_260 : decode cX6_works 260 = .ok (.iload_n 1, 1) := by decide +kernel
theorem dX6_works_261 : decode cX6_works 261 = .ok (.dup2, 1) := by decide +kernel
theorem dX6_works_262 : decode cX6_works 262 = .ok (.iaload, 1) := by decide +kernel
theorem dX6_works_263 : decode cX6_works 263 = .ok (.iload 4, 2) := by decide +kernel
theorem dX6_works_265 : decode cX6_works 265 = .ok (.iand, 1) := by decide +kernel
theorem dX6_works_266 : decode cX6_works 266 = .ok (.iastore, 1) := by decide +kernel
theorem dX6_works_267 : decode cX6_works 267 = .ok (.goto 14, 3) := by decide +kernel
theorem dX6_works_270 : decode cX6_works 270 = .ok (.aload_n 0, 1) := by decide +kernel
theorem dX6_works_271 : decode cX6_works 271 = .ok (.getfield 13, 3) := by decide +kernel
theorem dX6_works_274 : decode cX6_works 274 = .ok (.iload_n 1, 1) := by decide +kernel
theorem dX6_works_275 : decode cX6_works 275 = .ok (.dup2, 1) := by decide +kernel
theorem dX6_works_276 : decode cX6_works 276 = .ok (.iaload, 1) := by decide +kernel
theorem dX6_works_277 : decode cX6_works 277 = .ok (.iload 4, 2) := by decide +kernel
theorem dX6_works_279 : decode cX6_works 279 = .ok (.ixor, 1) := by decide +kernel
theorem dX6_works_280 : decode cX6_works 280 = .ok (.iastore, 1) := by decide +kernel
theorem dX6_works_281 : decode cX6_works 281 = .ok (.return_, 1) := by decide +kernel
theorem dX6_lists_0 : decode cX6_lists 0 = .ok (.iload_n 2, 1) := by decide +kernel
theorem dX6_lists_1 : decode cX6_lists 1 = .ok (.invokestatic 87, 3) := by decide +kernel
theorem dX6_lists_4 : decode cX6_lists 4 = .ok (.ifCond .eq 18, 3) := by decide +kernel
theorem dX6_lists_7 : decode cX6_lists 7 = .ok (.aload_n 0, 1) := by decide +kernel
theorem dX6_lists_8 : decode cX6_lists 8 = .ok (.getfield 9, 3) := by decide +kernel
theorem dX6_lists_11 : decode cX6_lists 11 = .ok (.sipush 128, 3) := by decide +kernel
theorem dX6_lists_14 : decode cX6_lists 14 = .ok (.iload_n 1, 1) := by decide +kernel
theorem dX6_lists_15 : decode cX6_lists 15 = .ok (.imul, 1) := by decide +kernel
theorem dX6_lists_16 : decode cX6_lists 16 = .ok (.iload_n 2, 1) := by decide +kernel
theorem dX6_lists_17 : decode cX6_lists 17 = .ok (.iadd, 1) := by decide +kernel
theorem dX6_lists_18 : decode cX6_lists 18 = .ok (.iaload, 1) := by decide +kernel
theorem dX6_lists_19 : decode cX6_lists 19 = .ok (.goto 4, 3) := by decide +kernel
theorem dX6_lists_22 : decode cX6_lists 22 = .ok (.iconst (-1), 1) := by decide +kernel
theorem dX6_lists_23 : decode cX6_lists 23 = .ok (.istore_n 3, 1) := by decide +kernel
theorem dX6_lists_24 : decode cX6_lists 24 = .ok (.iload_n 3, 1) := by decide +kernel
theorem dX6_lists_25 : decode cX6_lists 25 = .ok (.iconst 0, 1) := by decide +kernel
theorem dX6_lists_26 : decode cX6_lists 26 = .ok (.bipush 16, 2) := by decide +kernel
theorem dX6_lists_28 : decode cX6_lists 28 = .ok (.invokestatic 63, 3) := by decide +kernel
theorem dX6_lists_31 : decode cX6_lists 31 = .ok (.ifCond .eq 16, 3) := by decide +kernel
theorem dX6_lists_34 : decode cX6_lists 34 = .ok (.iload_n 2, 1) := by decide +kernel
theorem dX6_lists_35 : decode cX6_lists 35 = .ok (.iload_n 3, 1) := by decide +kernel
theorem dX6_lists_36 : decode cX6_lists 36 = .ok (.iadd, 1) := by decide +kernel
theorem dX6_lists_37 : decode cX6_lists 37 = .ok (.invokestatic 87, 3) := by decide +kernel
theorem dX6_lists_40 : decode cX6_lists 40 = .ok (.ifCond .eq 7, 3) := by decide +kernel
theorem dX6_lists_43 : decode cX6_lists 43 = .ok (.iconst 1, 1) := by decide +kernel
theorem dX6_lists_44 : decode cX6_lists 44 = .ok (.goto 4, 3) := by decide +kernel
theorem dX6_lists_47 : decode cX6_lists 47 = .ok (.iconst 0, 1) := by decide +kernel
theorem dX6_lists_48 : decode cX6_lists 48 = .ok (.istore 4, 2) := by decide +kernel
theorem dX6_lists_50 : decode cX6_lists 50 = .ok (.iconst 0, 1) := by decide +kernel
theorem dX6_lists_51 : decode cX6_lists 51 = .ok (.istore 5, 2) := by decide +kernel
theorem dX6_lists_53 : decode cX6_lists 53 = .ok (.iload 5, 2) := by decide +kernel
theorem dX6_lists_55 : decode cX6_lists 55 = .ok (.sipush 256, 3) := by decide +kernel
theorem dX6_lists_58 : decode cX6_lists 58 = .ok (.if_icmp .ge 20, 3) := by decide +kernel
theorem dX6_lists_61 : decode cX6_lists 61 = .ok (.aload_n 0, 1) := by decide +kernel
theorem dX6_lists_62 : decode cX6_lists 62 = .ok (.getfield 29, 3) := by decide +kernel
theorem dX6_lists_65 : decode cX6_lists 65 = .ok (.ldc 100, 2) := by decide +kernel
theorem dX6_lists_67 : decode cX6_lists 67 = .ok (.iload 5, 2) := by decide +kernel
theorem dX6_lists_69 : decode cX6_lists 69 = .ok (.iadd, 1) := by decide +kernel
theorem dX6_lists_70 : decode cX6_lists 70 = .ok (.iconst 0, 1) := by decide +kernel
theorem dX6_lists_71 : decode cX6_lists 71 = .ok (.bastore, 1) := by decide +kernel
theorem dX6_lists_72 : decode cX6_lists 72 = .ok (.iinc 5 1, 3) := by decide +kernel
theorem dX6_lists_75 : decode cX6_lists 75 = .ok (.goto (-22), 3) := by decide +kernel
theorem dX6_lists_78 : decode cX6_lists 78 = .ok (.iconst 1, 1) := by decide +kernel
theorem dX6_lists_79 : decode cX6_lists 79 = .ok (.istore 5, 2) := by decide +kernel
theorem dX6_lists_81 : decode cX6_lists 81 = .ok (.iload 5, 2) := by decide +kernel
theorem dX6_lists_83 : decode cX6_lists 83 = .ok (.iload_n 3, 1) := by decide +kernel
theorem dX6_lists_84 : decode cX6_lists 84 = .ok (.if_icmp .gt 54, 3) := by decide +kernel
theorem dX6_lists_87 : decode cX6_lists 87 = .ok (.iload 4, 2) := by decide +kernel
theorem dX6_lists_89 : decode cX6_lists 89 = .ok (.ifCond .eq 49, 3) := by decide +kernel
theorem dX6_lists_92 : decode cX6_lists 92 = .ok (.aload_n 0, 1) := by decide +kernel
theorem dX6_lists_93 : decode cX6_lists 93 = .ok (.getfield 9, 3) := by decide +kernel
theorem dX6_lists_96 : decode cX6_lists 96 = .ok (.sipush 128, 3) := by decide +kernel
theorem dX6_lists_99 : decode cX6_lists 99 = .ok (.iload_n 1, 1) := by decide +kernel
theorem dX6_lists_100 : decode cX6_lists 100 = .ok (.imul, 1) := by decide +kernel
theorem dX6_lists_101 : decode cX6_lists 101 = .ok (.iload_n 2, 1) := by decide +kernel
theorem dX6_lists_102 : decode cX6_lists 102 = .ok (.iadd, 1) := by decide +kernel
theorem dX6_lists_103 : decode cX6_lists 103 = .ok (.iload 5, 2) := by decide +kernel
theorem dX6_lists_105 : decode cX6_lists 105 = .ok (.iadd, 1) := by decide +kernel
theorem dX6_lists_106 : decode cX6_lists 106 = .ok (.iaload, 1) := by decide +kernel
theorem dX6_lists_107 : decode cX6_lists 107 = .ok (.istore 6, 2) := by decide +kernel
theorem dX6_lists_109 : decode cX6_lists 109 = .ok (.iload 6, 2) := by decide +kernel
theorem dX6_lists_111 : decode cX6_lists 111 = .ok (.iconst 0, 1) := by decide +kernel
theorem dX6_lists_112 : decode cX6_lists 112 = .ok (.sipush 255, 3) := by decide +kernel
theorem dX6_lists_115 : decode cX6_lists 115 = .ok (.invokestatic 63, 3) := by decide +kernel
theorem dX6_lists_118 : decode cX6_lists 118 = .ok (.ifCond .eq 14, 3) := by decide +kernel
theorem dX6_lists_121 : decode cX6_lists 121 = .ok (.aload_n 0, 1) := by decide +kernel
theorem dX6_lists_122 : decode cX6_lists 122 = .ok (.getfield 29, 3) := by decide +kernel
theorem dX6_lists_125 : decode cX6_lists 125 = .ok (.ldc 100, 2) := by decide +kernel
theorem dX6_lists_127 : decode cX6_lists 127 = .ok (.iload 6, 2) := by decide +kernel
theorem dX6_lists_129 : decode cX6_lists 129 = .ok (.iadd, 1) := by decide +kernel
theorem dX6_lists_130 : decode cX6_lists 130 = .ok (.iconst 1, 1) := by decide +kernel
theorem dX6_lists_131 : decode cX6_lists 131 = .ok (.bastore, 1) := by decide +kernel
theorem dX6_lists_132 : decode cX6_lists 132 = .ok (.iinc 5 1, 3) := by decide +kernel
theorem dX6_lists_135 : decode cX6_lists 135 = .ok (.goto (-54), 3) := by decide +kernel
theorem dX6_lists_138 : decode cX6_lists 138 = .ok (.iload 4, 2) := by decide +kernel
theorem dX6_lists_140 : decode cX6_lists 140 = .ok (.ifCond .ne 9, 3) := by decide +kernel
theorem dX6_lists_143 : decode cX6_lists 143 = .ok (.aload_n 0, 1) := by decide +kernel
theorem dX6_lists_144 : decode cX6_lists 144 = .ok (.iload_n 1, 1) := by decide +kernel
theorem dX6_lists_145 : decode cX6_lists 145 = .ok (.iconst 2, 1) := by decide +kernel
theorem dX6_lists_146 : decode cX6_lists 146 = .ok (.invokevirtual 90, 3) := by decide +kernel
theorem dX6_lists_149 : decode cX6_lists 149 = .ok (.iload 4, 2) := by decide +kernel
theorem dX6_lists_151 : decode cX6_lists 151 = .ok (.ireturn, 1) := by decide +kernel
theorem dX6_call_0 : decode cX6_call 0 = .ok (.aload_n 0, 1) := by decide +kernel
theorem dX6_call_1 : decode cX6_call 1 = .ok (.getfield 9, 3) := by decide +kernel
theorem dX6_call_4 : decode cX6_call 4 = .ok (.sipush 128, 3) := by decide +kernel
theorem dX6_call_7 : decode cX6_call 7 = .ok (.iload_n 1, 1) := by decide +kernel
theorem dX6_call_8 : decode cX6_call 8 = .ok (.imul, 1) := by decide +kernel
theorem dX6_call_9 : decode cX6_call 9 = .ok (.bipush 120, 2) := by decide +kernel
theorem dX6_call_11 : decode cX6_call 11 = .ok (.iadd, 1) := by decide +kernel
theorem dX6_call_12 : decode cX6_call 12 = .ok (.iaload, 1) := by decide +kernel
theorem dX6_call_13 : decode cX6_call 13 = .ok (.istore_n 3, 1) := by decide +kernel
theorem dX6_call_14 : decode cX6_call 14 = .ok (.aload_n 0, 1) := by decide +kernel
theorem dX6_call_15 : decode cX6_call 15 = .ok (.getfield 9, 3) := by decide +kernel
theorem dX6_call_18 : decode cX6_call 18 = .ok (.sipush 128, 3) := by decide +kernel
theorem dX6_call_21 : decode cX6_call 21 = .ok (.iload_n 1, 1) := by decide +kernel
theorem dX6_call_22 : decode cX6_call 22 = .ok (.imul, 1) := by decide +kernel
theorem dX6_call_23 : decode cX6_call 23 = .ok (.bipush 121, 2) := by decide +kernel
theorem dX6_call_25 : decode cX6_call 25 = .ok (.iadd, 1) := by decide +kernel
theorem dX6_call_26 : decode cX6_call 26 = .ok (.iaload, 1) := by decide +kernel
theorem dX6_call_27 : decode cX6_call 27 = .ok (.istore 4, 2) := by decide +kernel
theorem dX6_call_29 : decode cX6_call 29 = .ok (.aload_n 0, 1) := by decide +kernel
theorem dX6_call_30 : decode cX6_call 30 = .ok (.getfield 9, 3) := by decide +kernel
theorem dX6_call_33 : decode cX6_call 33 = .ok (.sipush 128, 3) := by decide +kernel
theorem dX6_call_36 : decode cX6_call 36 = .ok (.iload_n 1, 1) := by decide +kernel
theorem dX6_call_37 : decode cX6_call 37 = .ok (.imul, 1) := by decide +kernel
theorem dX6_call_38 : decode cX6_call 38 = .ok (.bipush 122, 2) := by decide +kernel
theorem dX6_call_40 : decode cX6_call 40 = .ok (.iadd, 1) := by decide +kernel
theorem dX6_call_41 : decode cX6_call 41 = .ok (.iaload, 1) := by decide +kernel
theorem dX6_call_42 : decode cX6_call 42 = .ok (.istore 5, 2) := by decide +kernel
theorem dX6_call_44 : decode cX6_call 44 = .ok (.iload_n 2, 1) := by decide +kernel
theorem dX6_call_45 : decode cX6_call 45 = .ok (.tableswitch 340 0 11 #[63, 77, 100, 125, 144, 171, 185, 208, 225, 291, 310, 326], 63) := by decide +kernel
theorem dX6_call_108 : decode cX6_call 108 = .ok (.aload_n 0, 1) := by decide +kernel
theorem dX6_call_109 : decode cX6_call 109 = .ok (.getfield 13, 3) := by decide +kernel
theorem dX6_call_112 : decode cX6_call 112 = .ok (.iload_n 1, 1) := by decide +kernel
theorem dX6_call_113 : decode cX6_call 113 = .ok (.aload_n 0, 1) := by decide +kernel
theorem dX6_call_114 : decode cX6_call 114 = .ok (.iload_n 1, 1) := by decide +kernel
theorem dX6_call_115 : decode cX6_call 115 = .ok (.invokevirtual 101, 3) := by decide +kernel
theorem dX6_call_118 : decode cX6_call 118 = .ok (.iastore, 1) := by decide +kernel
theorem dX6_call_119 : decode cX6_call 119 = .ok (.goto 272, 3) := by decide +kernel
theorem dX6_call_122 : decode cX6_call 122 = .ok (.aload_n 0, 1) := by decide +kernel
theorem dX6_call_123 : decode cX6_call 123 = .ok (.iload_n 1, 1) := by decide +kernel
theorem dX6_call_124 : decode cX6_call 124 = .ok (.iload_n 3, 1) := by decide +kernel
theorem dX6_call_125 : decode cX6_call 125 = .ok (.invokevirtual 105, 3) := by decide +kernel
theorem dX6_call_128 : decode cX6_call 128 = .ok (.ifCond .eq 263, 3) := by decide +kernel
theorem dX6_call_131 : decode cX6_call 131 = .ok (.aload_n 0, 1) := by decide +kernel
theorem dX6_call_132 : decode cX6_call 132 = .ok (.getfield 13, 3) := by decide +kernel
theorem dX6_call_135 : decode cX6_call 135 = .ok (.iload_n 1, 1) := by decide +kernel
theorem dX6_call_136 : decode cX6_call 136 = .ok (.aload_n 0, 1) := by decide +kernel
theorem dX6_call_137 : decode cX6_call 137 = .ok (.iload_n 1, 1) := by decide +kernel
theorem dX6_call_138 : decode cX6_call 138 = .ok (.invokevirtual 108, 3) := by decide +kernel
theorem dX6_call_141 : decode cX6_call 141 = .ok (.iastore, 1) := by decide +kernel
theorem dX6_call_142 : decode cX6_call 142 = .ok (.goto 249, 3) := by decide +kernel
theorem dX6_call_145 : decode cX6_call 145 = .ok (.aload_n 0, 1) := by decide +kernel
theorem dX6_call_146 : decode cX6_call 146 = .ok (.getfield 13, 3) := by decide +kernel
theorem dX6_call_149 : decode cX6_call 149 = .ok (.iload_n 1, 1) := by decide +kernel
theorem dX6_call_150 : decode cX6_call 150 = .ok (.aload_n 0, 1) := by decide +kernel
theorem dX6_call_151 : decode cX6_call 151 = .ok (.iload_n 1, 1) := by decide +kernel
theorem dX6_call_152 : decode cX6_call 152 = .ok (.iload_n 3, 1) := by decide +kernel
theorem dX6_call_153 : decode cX6_call 153 = .ok (.iload 4, 2) := by decide +kernel
theorem dX6_call_155 : decode cX6_call 155 = .ok (.ifCond .ne 7, 3) := by decide +kernel
theorem dX6_call_158 : decode cX6_call 158 = .ok (.iconst 0, 1) := by decide +kernel
theorem dX6_call_159 : decode cX6_call 159 = .ok (.goto 4, 3) := by decide +kernel
theorem dX6_call_162 : decode cX6_call 162 = .ok (.iconst 1, 1) := by decide +kernel
theorem dX6_call_163 : decode cX6_call 163 = .ok (.invokevirtual 111, 3) := by decide +kernel
theorem dX6_call_166 : decode cX6_call 166 = .ok (.iastore, 1) := by decide +kernel
theorem dX6_call_167 : decode cX6_call 167 = .ok (.goto 224, 3) := by decide +kernel
theorem dX6_call_170 : decode cX6_call 170 = .ok (.aload_n 0, 1) := by decide +kernel
theorem dX6_call_171 : decode cX6_call 171 = .ok (.iload_n 1, 1) := by decide +kernel
theorem dX6_call_172 : decode cX6_call 172 = .ok (.iload_n 3, 1) := by decide +kernel
theorem dX6_call_173 : decode cX6_call 173 = .ok (.iload 4, 2) := by decide +kernel
theorem dX6_call_175 : decode cX6_call 175 = .ok (.iconst (-1), 1) := by decide +kernel
theorem dX6_call_176 : decode cX6_call 176 = .ok (.invokevirtual 114, 3) := by decide +kernel
theorem dX6_call_179 : decode cX6_call 179 = .ok (.aload_n 0, 1) := by decide +kernel
theorem dX6_call_180 : decode cX6_call 180 = .ok (.getfield 13, 3) := by decide +kernel
theorem dX6_call_183 : decode cX6_call 183 = .ok (.iload_n 1, 1) := by decide +kernel
theorem dX6_call_184 : decode cX6_call 184 = .ok (.iconst 1, 1) := by decide +kernel
theorem dX6_call_185 : decode cX6_call 185 = .ok (.iastore, 1) := by decide +kernel
theorem dX6_call_186 : decode cX6_call 186 = .ok (.goto 205, 3) := by decide +kernel
theorem dX6_call_189 : decode cX6_call 189 = .ok (.aload_n 0, 1) := by decide +kernel
theorem dX6_call_190 : decode cX6_call 190 = .ok (.getfield 13, 3) := by decide +kernel
theorem dX6_call_193 : decode cX6_call 193 = .ok (.iload_n 1, 1) := by decide +kernel
theorem dX6_call_194 : decode cX6_call 194 = .ok (.aload_n 0, 1) := by decide +kernel
theorem dX6_call_195 : decode cX6_call 195 = .ok (.iload_n 1, 1) := by decide +kernel
theorem dX6_call_196 : decode cX6_call 196 = .ok (.iload_n 3, 1) := by decide +kernel
theorem dX6_call_197 : decode cX6_call 197 = .ok (.iload 4, 2) := by decide +kernel
theorem dX6_call_199 : decode cX6_call 199 = .ok (.iload 5, 2) := by decide +kernel
theorem dX6_call_201 : decode cX6_call 201 = .ok (.ifCond .ne 7, 3) := by decide +kernel
theorem dX6_call_204 : decode cX6_call 204 = .ok (.iconst 0, 1) := by decide +kernel
theorem dX6_call_205 : decode cX6_call 205 = .ok (.goto 4, 3) := by decide +kernel
theorem dX6_call_208 : decode cX6_call 208 = .ok (.iconst 1, 1) := by decide +kernel
theorem dX6_call_209 : decode cX6_call 209 = .ok (.invokevirtual 117, 3) := by decide +kernel
theorem dX6_call_212 : decode cX6_call 212 = .ok (.iastore, 1) := by decide +kernel
theorem dX6_call_213 : decode cX6_call 213 = .ok (.goto 178, 3) := by decide +kernel
theorem dX6_call_216 : decode cX6_call 216 = .ok (.aload_n 0, 1) := by decide +kernel
theorem dX6_call_217 : decode cX6_call 217 = .ok (.getfield 13, 3) := by decide +kernel
theorem dX6_call_220 : decode cX6_call 220 = .ok (.iload_n 1, 1) := by decide +kernel
theorem dX6_call_221 : decode cX6_call 221 = .ok (.aload_n 0, 1) := by decide +kernel
theorem dX6_call_222 : decode cX6_call 222 = .ok (.iload_n 1, 1) := by decide +kernel
theorem dX6_call_223 : decode cX6_call 223 = .ok (.invokevirtual 121, 3) := by decide +kernel
theorem dX6_call_226 : decode cX6_call 226 = .ok (.iastore, 1) := by decide +kernel
theorem dX6_call_227 : decode cX6_call 227 = .ok (.goto 164, 3) := by decide +kernel
theorem dX6_call_230 : decode cX6_call 230 = .ok (.aload_n 0, 1) := by decide +kernel
theorem dX6_call_231 : decode cX6_call 231 = .ok (.iload_n 1, 1) := by decide +kernel
theorem dX6_call_232 : decode cX6_call 232 = .ok (.iload_n 3, 1) := by decide +kernel
theorem dX6_call_233 : decode cX6_call 233 = .ok (.invokevirtual 105, 3) := by decide +kernel
theorem dX6_call_236 : decode cX6_call 236 = .ok (.ifCond .eq 155, 3) := by decide +kernel
theorem dX6_call_239 : decode cX6_call 239 = .ok (.aload_n 0, 1) := by decide +kernel
theorem dX6_call_240 : decode cX6_call 240 = .ok (.getfield 13, 3) := by decide +kernel
theorem dX6_call_243 : decode cX6_call 243 = .ok (.iload_n 1, 1) := by decide +kernel
theorem dX6_call_244 : decode cX6_call 244 = .ok (.aload_n 0, 1) := by decide +kernel
theorem dX6_call_245 : decode cX6_call 245 = .ok (.iload_n 1, 1) := by decide +kernel
theorem dX6_call_246 : decode cX6_call 246 = .ok (.invokevirtual 124, 3) := by decide +kernel
theorem dX6_call_249 : decode cX6_call 249 = .ok (.iastore, 1) := by decide +kernel
theorem dX6_call_250 : decode cX6_call 250 = .ok (.goto 141, 3) := by decide +kernel
theorem dX6_call_253 : decode cX6_call 253 = .ok (.aload_n 0, 1) := by decide +kernel
theorem dX6_call_254 : decode cX6_call 254 = .ok (.getfield 13, 3) := by decide +kernel
theorem dX6_call_257 : decode cX6_call 257 = .ok (.iload_n 1, 1) := by decide +kernel
theorem dX6_call_258 : decode cX6_call 258 = .ok (.aload_n 0, 1) := by decide +kernel
theorem dX6_call_259 : decode cX6_call 259 = .ok (.iload_n 1, 1) := by decide +kernel
theorem dX6_call_260 : decode cX6_call 260 = .ok (.iload_n 3, 1) := by decide +kernel
theorem dX6_call_261 : decode cX6_call 261 = .ok (.iload 4, 2) := by decide +kernel
theorem dX6_call_263 : decode cX6_call 263 = .ok (.invokevirtual 127, 3) := by decide +kernel
theorem dX6_call_266 : decode cX6_call 266 = .ok (.iastore, 1) := by decide +kernel
theorem dX6_call_267 : decode cX6_call 267 = .ok (.goto 124, 3) := by decide +kernel
theorem dX6_call_270 : decode cX6_call 270 = .ok (.iload_n 3, 1) := by decide +kernel
theorem dX6_call_271 : decode cX6_call 271 = .ok (.iconst 0, 1) := by decide +kernel
theorem dX6_call_272 : decode cX6_call 272 = .ok (.bipush 63, 2) := by decide +kernel
theorem dX6_call_274 : decode cX6_call 274 = .ok (.invokestatic 63, 3) := by decide +kernel
theorem dX6_call_277 : decode cX6_call 277 = .ok (.ifCond .eq 49, 3) := by decide +kernel
theorem dX6_call_280 : decode cX6_call 280 = .ok (.aload_n 0, 1) := by decide +kernel
theorem dX6_call_281 : decode cX6_call 281 = .ok (.getfield 36, 3) := by decide +kernel
theorem dX6_call_284 : decode cX6_call 284 = .ok (.iload_n 3, 1) := by decide +kernel
theorem dX6_call_285 : decode cX6_call 285 = .ok (.baload, 1) := by decide +kernel
theorem dX6_call_286 : decode cX6_call 286 = .ok (.ifCond .eq 40, 3) := by decide +kernel
theorem dX6_call_289 : decode cX6_call 289 = .ok (.iload 4, 2) := by decide +kernel
theorem dX6_call_291 : decode cX6_call 291 = .ok (.iconst 0, 1) := by decide +kernel
theorem dX6_call_292 : decode cX6_call 292 = .ok (.bipush 7, 2) := by decide +kernel
theorem dX6_call_294 : decode cX6_call 294 = .ok (.invokestatic 63, 3) := by decide +kernel
theorem dX6_call_297 : decode cX6_call 297 = .ok (.ifCond .eq 29, 3) := by decide +kernel
theorem dX6_call_300 : decode cX6_call 300 = .ok (.aload_n 0, 1) := by decide +kernel
theorem dX6_call_301 : decode cX6_call 301 = .ok (.iload_n 1, 1) := by decide +kernel
theorem dX6_call_302 : decode cX6_call 302 = .ok (.bipush 8, 2) := by decide +kernel
theorem dX6_call_304 : decode cX6_call 304 = .ok (.iload_n 3, 1) := by decide +kernel
theorem dX6_call_305 : decode cX6_call 305 = .ok (.iadd, 1) := by decide +kernel
theorem dX6_call_306 : decode cX6_call 306 = .ok (.invokevirtual 79, 3) := by decide +kernel
theorem dX6_call_309 : decode cX6_call 309 = .ok (.ifCond .eq 17, 3) := by decide +kernel
theorem dX6_call_312 : decode cX6_call 312 = .ok (.aload_n 0, 1) := by decide +kernel
theorem dX6_call_313 : decode cX6_call 313 = .ok (.getfield 39, 3) := by decide +kernel
theorem dX6_call_316 : decode cX6_call 316 = .ok (.bipush 8, 2) := by decide +kernel
theorem dX6_call_318 : decode cX6_call 318 = .ok (.iload_n 3, 1) := by decide +kernel
theorem dX6_call_319 : decode cX6_call 319 = .ok (.imul, 1) := by decide +kernel
theorem dX6_call_320 : decode cX6_call 320 = .ok (.iload 4, 2) := by decide +kernel
theorem dX6_call_322 : decode cX6_call 322 = .ok (.iadd, 1) := by decide +kernel
theorem dX6_call_323 : decode cX6_call 323 = .ok (.iload 5, 2) := by decide +kernel
theorem dX6_call_325 : decode cX6_call 325 = .ok (.iastore, 1) := by decide +kernel
theorem dX6_call_326 : decode cX6_call 326 = .ok (.aload_n 0, 1) := by decide +kernel
theorem dX6_call_327 : decode cX6_call 327 = .ok (.getfield 13, 3) := by decide +kernel
theorem dX6_call_330 : decode cX6_call 330 = .ok (.iload_n 1, 1) := by decide +kernel
theorem dX6_call_331 : decode cX6_call 331 = .ok (.iconst 1, 1) := by decide +kernel
theorem dX6_call_332 : decode cX6_call 332 = .ok (.iastore, 1) := by decide +kernel
theorem dX6_call_333 : decode cX6_call 333 = .ok (.goto 58, 3) := by decide +kernel
theorem dX6_call_336 : decode cX6_call 336 = .ok (.aload_n 0, 1) := by decide +kernel
theorem dX6_call_337 : decode cX6_call 337 = .ok (.getfield 13, 3) := by decide +kernel
theorem dX6_call_340 : decode cX6_call 340 = .ok (.iload_n 1, 1) := by decide +kernel
theorem dX6_call_341 : decode cX6_call 341 = .ok (.aload_n 0, 1) := by decide +kernel
theorem dX6_call_342 : decode cX6_call 342 = .ok (.iload_n 1, 1) := by decide +kernel
theorem dX6_call_343 : decode cX6_call 343 = .ok (.iload_n 3, 1) := by decide +kernel
theorem dX6_call_344 : decode cX6_call 344 = .ok (.iload 4, 2) := by decide +kernel
theorem dX6_call_346 : decode cX6_call 346 = .ok (.iload 5, 2) := by decide +kernel
theorem dX6_call_348 : decode cX6_call 348 = .ok (.invokevirtual 130, 3) := by decide +kernel
theorem dX6_call_351 : decode cX6_call 351 = .ok (.iastore, 1) := by decide +kernel
theorem dX6_call_352 : decode cX6_call 352 = .ok (.goto 39, 3) := by decide +kernel
theorem dX6_call_355 : decode cX6_call 355 = .ok (.aload_n 0, 1) := by decide +kernel
theorem dX6_call_356 : decode cX6_call 356 = .ok (.iload_n 1, 1) := by decide +kernel
theorem dX6_call_357 : decode cX6_call 357 = .ok (.iload_n 3, 1) := by decide +kernel
theorem dX6_call_358 : decode cX6_call 358 = .ok (.invokevirtual 133, 3) := by decide +kernel
theorem dX6_call_361 : decode cX6_call 361 = .ok (.aload_n 0, 1) := by decide +kernel
theorem dX6_call_362 : decode cX6_call 362 = .ok (.getfield 13, 3) := by decide +kernel
theorem dX6_call_365 : decode cX6_call 365 = .ok (.iload_n 1, 1) := by decide +kernel
theorem dX6_call_366 : decode cX6_call 366 = .ok (.iconst 1, 1) := by decide +kernel
theorem dX6_call_367 : decode cX6_call 367 = .ok (.iastore, 1) := by decide +kernel
theorem dX6_call_368 : decode cX6_call 368 = .ok (.goto 23, 3) := by decide +kernel
theorem dX6_call_371 : decode cX6_call 371 = .ok (.aload_n 0, 1) := by decide +kernel
theorem dX6_call_372 : decode cX6_call 372 = .ok (.getfield 13, 3) := by decide +kernel
theorem dX6_call_375 : decode cX6_call 375 = .ok (.iload_n 1, 1) := by decide +kernel
theorem dX6_call_376 : decode cX6_call 376 = .ok (.aload_n 0, 1) := by decide +kernel
theorem dX6_call_377 : decode cX6_call 377 = .ok (.iload_n 1, 1) := by decide +kernel
theorem dX6_call_378 : decode cX6_call 378 = .ok (.invokevirtual 136, 3) := by decide +kernel
theorem dX6_call_381 : decode cX6_call 381 = .ok (.iastore, 1) := by decide +kernel
theorem dX6_call_382 : decode cX6_call 382 = .ok (.goto 9, 3) := by decide +kernel
theorem dX6_call_385 : decode cX6_call 385 = .ok (.aload_n 0, 1) := by decide +kernel
theorem dX6_call_386 : decode cX6_call 386 = .ok (.iload_n 1, 1) := by decide +kernel
theorem dX6_call_387 : decode cX6_call 387 = .ok (.iconst 1, 1) := by decide +kernel
theorem dX6_call_388 : decode cX6_call 388 = .ok (.invokevirtual 90, 3) := by decide +kernel
theorem dX6_call_391 : decode cX6_call 391 = .ok (.return_, 1) := by decide +kernel
theorem dX6_newTag_0 : decode cX6_newTag 0 = .ok (.aload_n 0, 1) := by decide +kernel
theorem dX6_newTag_1 : decode cX6_newTag 1 = .ok (.getfield 25, 3) := by decide +kernel
theorem dX6_newTag_4 : decode cX6_newTag 4 = .ok (.iload_n 1, 1) := by decide +kernel
theorem dX6_newTag_5 : decode cX6_newTag 5 = .ok (.iaload, 1) := by decide +kernel
theorem dX6_newTag_6 : decode cX6_newTag 6 = .ok (.bipush 32, 2) := by decide +kernel
theorem dX6_newTag_8 : decode cX6_newTag 8 = .ok (.if_icmp .eq 25, 3) := by decide +kernel
theorem dX6_newTag_11 : decode cX6_newTag 11 = .ok (.aload_n 0, 1) := by decide +kernel
theorem dX6_newTag_12 : decode cX6_newTag 12 = .ok (.iload_n 1, 1) := by decide +kernel
theorem dX6_newTag_13 : decode cX6_newTag 13 = .ok (.iconst 0, 1) := by decide +kernel
theorem dX6_newTag_14 : decode cX6_newTag 14 = .ok (.invokevirtual 139, 3) := by decide +kernel
theorem dX6_newTag_17 : decode cX6_newTag 17 = .ok (.bipush 40, 2) := by decide +kernel
theorem dX6_newTag_19 : decode cX6_newTag 19 = .ok (.if_icmp .ge 14, 3) := by decide +kernel
theorem dX6_newTag_22 : decode cX6_newTag 22 = .ok (.aload_n 0, 1) := by decide +kernel
theorem dX6_newTag_23 : decode cX6_newTag 23 = .ok (.iload_n 1, 1) := by decide +kernel
theorem dX6_newTag_24 : decode cX6_newTag 24 = .ok (.iconst 1, 1) := by decide +kernel
theorem dX6_newTag_25 : decode cX6_newTag 25 = .ok (.invokevirtual 139, 3) := by decide +kernel
theorem dX6_newTag_28 : decode cX6_newTag 28 = .ok (.bipush 40, 2) := by decide +kernel
theorem dX6_newTag_30 : decode cX6_newTag 30 = .ok (.if_icmp .lt 5, 3) := by decide +kernel
theorem dX6_newTag_33 : decode cX6_newTag 33 = .ok (.iconst (-1), 1) := by decide +kernel
theorem dX6_newTag_34 : decode cX6_newTag 34 = .ok (.ireturn, 1) := by decide +kernel
theorem dX6_newTag_35 : decode cX6_newTag 35 = .ok (.bipush 32, 2) := by decide +kernel
theorem dX6_newTag_37 : decode cX6_newTag 37 = .ok (.iload_n 1, 1) := by decide +kernel
theorem dX6_newTag_38 : decode cX6_newTag 38 = .ok (.imul, 1) := by decide +kernel
theorem dX6_newTag_39 : decode cX6_newTag 39 = .ok (.aload_n 0, 1) := by decide +kernel
theorem dX6_newTag_40 : decode cX6_newTag 40 = .ok (.getfield 25, 3) := by decide +kernel
theorem dX6_newTag_43 : decode cX6_newTag 43 = .ok (.iload_n 1, 1) := by decide +kernel
theorem dX6_newTag_44 : decode cX6_newTag 44 = .ok (.iaload, 1) := by decide +kernel
theorem dX6_newTag_45 : decode cX6_newTag 45 = .ok (.iadd, 1) := by decide +kernel
theorem dX6_newTag_46 : decode cX6_newTag 46 = .ok (.istore_n 2, 1) := by decide +kernel
theorem dX6_newTag_47 : decode cX6_newTag 47 = .ok (.aload_n 0, 1) := by decide +kernel
theorem dX6_newTag_48 : decode cX6_newTag 48 = .ok (.getfield 25, 3) := by decide +kernel
theorem dX6_newTag_51 : decode cX6_newTag 51 = .ok (.iload_n 1, 1) := by decide +kernel
theorem dX6_newTag_52 : decode cX6_newTag 52 = .ok (.dup2, 1) := by decide +kernel
theorem dX6_newTag_53 : decode cX6_newTag 53 = .ok (.iaload, 1) := by decide +kernel
theorem dX6_newTag_54 : decode cX6_newTag 54 = .ok (.iconst 1, 1) := by decide +kernel
theorem dX6_newTag_55 : decode cX6_newTag 55 = .ok (.iadd, 1) := by decide +kernel
theorem dX6_newTag_56 : decode cX6_newTag 56 = .ok (.iastore, 1) := by decide +kernel
theorem dX6_newTag_57 : decode cX6_newTag 57 = .ok (.aload_n 0, 1) := by decide +kernel
theorem dX6_newTag_58 : decode cX6_newTag 58 = .ok (.getfield 33, 3) := by decide +kernel
theorem dX6_newTag_61 : decode cX6_newTag 61 = .ok (.aload_n 0, 1) := by decide +kernel
theorem dX6_newTag_62 : decode cX6_newTag 62 = .ok (.iload_n 1, 1) := by decide +kernel
theorem dX6_newTag_63 : decode cX6_newTag 63 = .ok (.iconst 0, 1) := by decide +kernel
theorem dX6_newTag_64 : decode cX6_newTag 64 = .ok (.iload_n 2, 1) := by decide +kernel
theorem dX6_newTag_65 : decode cX6_newTag 65 = .ok (.invokevirtual 67, 3) := by decide +kernel
theorem dX6_newTag_68 : decode cX6_newTag 68 = .ok (.iconst 1, 1) := by decide +kernel
theorem dX6_newTag_69 : decode cX6_newTag 69 = .ok (.bastore, 1) := by decide +kernel
theorem dX6_newTag_70 : decode cX6_newTag 70 = .ok (.aload_n 0, 1) := by decide +kernel
theorem dX6_newTag_71 : decode cX6_newTag 71 = .ok (.getfield 33, 3) := by decide +kernel
theorem dX6_newTag_74 : decode cX6_newTag 74 = .ok (.aload_n 0, 1) := by decide +kernel
theorem dX6_newTag_75 : decode cX6_newTag 75 = .ok (.iload_n 1, 1) := by decide +kernel
theorem dX6_newTag_76 : decode cX6_newTag 76 = .ok (.iconst 1, 1) := by decide +kernel
theorem dX6_newTag_77 : decode cX6_newTag 77 = .ok (.iload_n 2, 1) := by decide +kernel
theorem dX6_newTag_78 : decode cX6_newTag 78 = .ok (.invokevirtual 67, 3) := by decide +kernel
theorem dX6_newTag_81 : decode cX6_newTag 81 = .ok (.iconst 1, 1) := by decide +kernel
theorem dX6_newTag_82 : decode cX6_newTag 82 = .ok (.bastore, 1) := by decide +kernel
theorem dX6_newTag_83 : decode cX6_newTag 83 = .ok (.iload_n 2, 1) := by decide +kernel
theorem dX6_newTag_84 : decode cX6_newTag 84 = .ok (.ireturn, 1) := by decide +kernel
theorem dX6_changes_0 : decode cX6_changes 0 = .ok (.iconst 0, 1) := by decide +kernel
theorem dX6_changes_1 : decode cX6_changes 1 = .ok (.istore_n 2, 1) := by decide +kernel
theorem dX6_changes_2 : decode cX6_changes 2 = .ok (.iload_n 2, 1) := by decide +kernel
theorem dX6_changes_3 : decode cX6_changes 3 = .ok (.sipush 256, 3) := by decide +kernel
theorem dX6_changes_6 : decode cX6_changes 6 = .ok (.if_icmp .ge 65, 3) := by decide +kernel
theorem dX6_changes_9 : decode cX6_changes 9 = .ok (.aload_n 0, 1) := by decide +kernel
theorem dX6_changes_10 : decode cX6_changes 10 = .ok (.getfield 29, 3) := by decide +kernel
theorem dX6_changes_13 : decode cX6_changes 13 = .ok (.sipush 256, 3) := by decide +kernel
theorem dX6_changes_16 : decode cX6_changes 16 = .ok (.iload_n 1, 1) := by decide +kernel
theorem dX6_changes_17 : decode cX6_changes 17 = .ok (.imul, 1) := by decide +kernel
theorem dX6_changes_18 : decode cX6_changes 18 = .ok (.iload_n 2, 1) := by decide +kernel
theorem dX6_changes_19 : decode cX6_changes 19 = .ok (.iadd, 1) := by decide +kernel
theorem dX6_changes_20 : decode cX6_changes 20 = .ok (.baload, 1) := by decide +kernel
theorem dX6_changes_21 : decode cX6_changes 21 = .ok (.istore_n 3, 1) := by decide +kernel
theorem dX6_changes_22 : decode cX6_changes 22 = .ok (.aload_n 0, 1) := by decide +kernel
theorem dX6_changes_23 : decode cX6_changes 23 = .ok (.getfield 29, 3) := by decide +kernel
theorem dX6_changes_26 : decode cX6_changes 26 = .ok (.ldc 100, 2) := by decide +kernel
theorem dX6_changes_28 : decode cX6_changes 28 = .ok (.iload_n 2, 1) := by decide +kernel
theorem dX6_changes_29 : decode cX6_changes 29 = .ok (.iadd, 1) := by decide +kernel
theorem dX6_changes_30 : decode cX6_changes 30 = .ok (.baload, 1) := by decide +kernel
theorem dX6_changes_31 : decode cX6_changes 31 = .ok (.istore 4, 2) := by decide +kernel
theorem dX6_changes_33 : decode cX6_changes 33 = .ok (.iload_n 3, 1) := by decide +kernel
theorem dX6_changes_34 : decode cX6_changes 34 = .ok (.iload 4, 2) := by decide +kernel
theorem dX6_changes_36 : decode cX6_changes 36 = .ok (.if_icmp .eq 29, 3) := by decide +kernel
theorem dX6_changes_39 : decode cX6_changes 39 = .ok (.aload_n 0, 1) := by decide +kernel
theorem dX6_changes_40 : decode cX6_changes 40 = .ok (.getfield 33, 3) := by decide +kernel
theorem dX6_changes_43 : decode cX6_changes 43 = .ok (.aload_n 0, 1) := by decide +kernel
theorem dX6_changes_44 : decode cX6_changes 44 = .ok (.iload_n 1, 1) := by decide +kernel
theorem dX6_changes_45 : decode cX6_changes 45 = .ok (.iload 4, 2) := by decide +kernel
theorem dX6_changes_47 : decode cX6_changes 47 = .ok (.ifCond .eq 7, 3) := by decide +kernel
theorem dX6_changes_50 : decode cX6_changes 50 = .ok (.iconst 0, 1) := by decide +kernel
theorem dX6_changes_51 : decode cX6_changes 51 = .ok (.goto 4, 3) := by decide +kernel
theorem dX6_changes_54 : decode cX6_changes 54 = .ok (.iconst 1, 1) := by decide +kernel
theorem dX6_changes_55 : decode cX6_changes 55 = .ok (.iload_n 2, 1) := by decide +kernel
theorem dX6_changes_56 : decode cX6_changes 56 = .ok (.invokevirtual 67, 3) := by decide +kernel
theorem dX6_changes_59 : decode cX6_changes 59 = .ok (.baload, 1) := by decide +kernel
theorem dX6_changes_60 : decode cX6_changes 60 = .ok (.ifCond .ne 5, 3) := by decide +kernel
theorem dX6_changes_63 : decode cX6_changes 63 = .ok (.iconst 0, 1) := by decide +kernel
theorem dX6_changes_64 : decode cX6_changes 64 = .ok (.ireturn, 1) := by decide +kernel
theorem dX6_changes_65 : decode cX6_changes 65 = .ok (.iinc 2 1, 3) := by decide +kernel
theorem dX6_changes_68 : decode cX6_changes 68 = .ok (.goto (-66), 3) := by decide +kernel
theorem dX6_changes_71 : decode cX6_changes 71 = .ok (.aload_n 0, 1) := by decide +kernel
theorem dX6_changes_72 : decode cX6_changes 72 = .ok (.sipush 136, 3) := by decide +kernel
theorem dX6_changes_75 : decode cX6_changes 75 = .ok (.iload_n 1, 1) := by decide +kernel
theorem dX6_changes_76 : decode cX6_changes 76 = .ok (.invokevirtual 71, 3) := by decide +kernel
theorem dX6_changes_79 : decode cX6_changes 79 = .ok (.iconst 1, 1) := by decide +kernel
theorem dX6_changes_80 : decode cX6_changes 80 = .ok (.ireturn, 1) := by decide +kernel
theorem dX6_drops_0 : decode cX6_drops 0 = .ok (.iload_n 2, 1) := by decide +kernel
theorem dX6_drops_1 : decode cX6_drops 1 = .ok (.iconst 0, 1) := by decide +kernel
theorem dX6_drops_2 : decode cX6_drops 2 = .ok (.sipush 255, 3) := by decide +kernel
theorem dX6_drops_5 : decode cX6_drops 5 = .ok (.invokestatic 63, 3) := by decide +kernel
theorem dX6_drops_8 : decode cX6_drops 8 = .ok (.ifCond .eq 18, 3) := by decide +kernel
theorem dX6_drops_11 : decode cX6_drops 11 = .ok (.aload_n 0, 1) := by decide +kernel
theorem dX6_drops_12 : decode cX6_drops 12 = .ok (.getfield 33, 3) := by decide +kernel
theorem dX6_drops_15 : decode cX6_drops 15 = .ok (.aload_n 0, 1) := by decide +kernel
theorem dX6_drops_16 : decode cX6_drops 16 = .ok (.iload_n 1, 1) := by decide +kernel
theorem dX6_drops_17 : decode cX6_drops 17 = .ok (.iload_n 3, 1) := by decide +kernel
theorem dX6_drops_18 : decode cX6_drops 18 = .ok (.iload_n 2, 1) := by decide +kernel
theorem dX6_drops_19 : decode cX6_drops 19 = .ok (.invokevirtual 67, 3) := by decide +kernel
theorem dX6_drops_22 : decode cX6_drops 22 = .ok (.baload, 1) := by decide +kernel
theorem dX6_drops_23 : decode cX6_drops 23 = .ok (.ifCond .ne 5, 3) := by decide +kernel
theorem dX6_drops_26 : decode cX6_drops 26 = .ok (.iconst 0, 1) := by decide +kernel
theorem dX6_drops_27 : decode cX6_drops 27 = .ok (.ireturn, 1) := by decide +kernel
theorem dX6_drops_28 : decode cX6_drops 28 = .ok (.aload_n 0, 1) := by decide +kernel
theorem dX6_drops_29 : decode cX6_drops 29 = .ok (.getfield 33, 3) := by decide +kernel
theorem dX6_drops_32 : decode cX6_drops 32 = .ok (.aload_n 0, 1) := by decide +kernel
theorem dX6_drops_33 : decode cX6_drops 33 = .ok (.iload_n 1, 1) := by decide +kernel
theorem dX6_drops_34 : decode cX6_drops 34 = .ok (.iload_n 3, 1) := by decide +kernel
theorem dX6_drops_35 : decode cX6_drops 35 = .ok (.iload_n 2, 1) := by decide +kernel
theorem dX6_drops_36 : decode cX6_drops 36 = .ok (.invokevirtual 67, 3) := by decide +kernel
theorem dX6_drops_39 : decode cX6_drops 39 = .ok (.iconst 0, 1) := by decide +kernel
theorem dX6_drops_40 : decode cX6_drops 40 = .ok (.bastore, 1) := by decide +kernel
theorem dX6_drops_41 : decode cX6_drops 41 = .ok (.iconst 1, 1) := by decide +kernel
theorem dX6_drops_42 : decode cX6_drops 42 = .ok (.ireturn, 1) := by decide +kernel
theorem dX6_passes_0 : decode cX6_passes 0 = .ok (.iload_n 3, 1) := by decide +kernel
theorem dX6_passes_1 : decode cX6_passes 1 = .ok (.iconst 0, 1) := by decide +kernel
theorem dX6_passes_2 : decode cX6_passes 2 = .ok (.sipush 255, 3) := by decide +kernel
theorem dX6_passes_5 : decode cX6_passes 5 = .ok (.invokestatic 63, 3) := by decide +kernel
theorem dX6_passes_8 : decode cX6_passes 8 = .ok (.ifCond .eq 19, 3) := by decide +kernel
theorem dX6_passes_11 : decode cX6_passes 11 = .ok (.aload_n 0, 1) := by decide +kernel
theorem dX6_passes_12 : decode cX6_passes 12 = .ok (.getfield 33, 3) := by decide +kernel
theorem dX6_passes_15 : decode cX6_passes 15 = .ok (.aload_n 0, 1) := by decide +kernel
theorem dX6_passes_16 : decode cX6_passes 16 = .ok (.iload_n 1, 1) := by decide +kernel
theorem dX6_passes_17 : decode cX6_passes 17 = .ok (.iload 4, 2) := by decide +kernel
theorem dX6_passes_19 : decode cX6_passes 19 = .ok (.iload_n 3, 1) := by decide +kernel
theorem dX6_passes_20 : decode cX6_passes 20 = .ok (.invokevirtual 67, 3) := by decide +kernel
theorem dX6_passes_23 : decode cX6_passes 23 = .ok (.baload, 1) := by decide +kernel
theorem dX6_passes_24 : decode cX6_passes 24 = .ok (.ifCond .ne 5, 3) := by decide +kernel
theorem dX6_passes_27 : decode cX6_passes 27 = .ok (.iconst 0, 1) := by decide +kernel
theorem dX6_passes_28 : decode cX6_passes 28 = .ok (.ireturn, 1) := by decide +kernel
theorem dX6_passes_29 : decode cX6_passes 29 = .ok (.aload_n 0, 1) := by decide +kernel
theorem dX6_passes_30 : decode cX6_passes 30 = .ok (.iload_n 1, 1) := by decide +kernel
theorem dX6_passes_31 : decode cX6_passes 31 = .ok (.iload_n 2, 1) := by decide +kernel
theorem dX6_passes_32 : decode cX6_passes 32 = .ok (.iload_n 3, 1) := by decide +kernel
theorem dX6_passes_33 : decode cX6_passes 33 = .ok (.iload 4, 2) := by decide +kernel
theorem dX6_passes_35 : decode cX6_passes 35 = .ok (.invokevirtual 114, 3) := by decide +kernel
theorem dX6_passes_38 : decode cX6_passes 38 = .ok (.iconst 1, 1) := by decide +kernel
theorem dX6_passes_39 : decode cX6_passes 39 = .ok (.ireturn, 1) := by decide +kernel
theorem dX6_receives_0 : decode cX6_receives 0 = .ok (.aload_n 0, 1) := by decide +kernel
theorem dX6_receives_1 : decode cX6_receives 1 = .ok (.getfield 42, 3) := by decide +kernel
theorem dX6_receives_4 : decode cX6_receives 4 = .ok (.iload_n 1, 1) := by decide +kernel
theorem dX6_receives_5 : decode cX6_receives 5 = .ok (.iaload, 1) := by decide +kernel
theorem dX6_receives_6 : decode cX6_receives 6 = .ok (.ifCond .le 26, 3) := by decide +kernel
theorem dX6_receives_9 : decode cX6_receives 9 = .ok (.aload_n 0, 1) := by decide +kernel
theorem dX6_receives_10 : decode cX6_receives 10 = .ok (.bipush 72, 2) := by decide +kernel
theorem dX6_receives_12 : decode cX6_receives 12 = .ok (.bipush 8, 2) := by decide +kernel
theorem dX6_receives_14 : decode cX6_receives 14 = .ok (.iload_n 1, 1) := by decide +kernel
theorem dX6_receives_15 : decode cX6_receives 15 = .ok (.imul, 1) := by decide +kernel
theorem dX6_receives_16 : decode cX6_receives 16 = .ok (.iadd, 1) := by decide +kernel
theorem dX6_receives_17 : decode cX6_receives 17 = .ok (.iload_n 1, 1) := by decide +kernel
theorem dX6_receives_18 : decode cX6_receives 18 = .ok (.invokevirtual 79, 3) := by decide +kernel
theorem dX6_receives_21 : decode cX6_receives 21 = .ok (.ifCond .ne 11, 3) := by decide +kernel
theorem dX6_receives_24 : decode cX6_receives 24 = .ok (.aload_n 0, 1) := by decide +kernel
theorem dX6_receives_25 : decode cX6_receives 25 = .ok (.iload_n 1, 1) := by decide +kernel
theorem dX6_receives_26 : decode cX6_receives 26 = .ok (.invokevirtual 143, 3) := by decide +kernel
theorem dX6_receives_29 : decode cX6_receives 29 = .ok (.goto (-29), 3) := by decide +kernel
theorem dX6_receives_32 : decode cX6_receives 32 = .ok (.aload_n 0, 1) := by decide +kernel
theorem dX6_receives_33 : decode cX6_receives 33 = .ok (.getfield 42, 3) := by decide +kernel
theorem dX6_receives_36 : decode cX6_receives 36 = .ok (.iload_n 1, 1) := by decide +kernel
theorem dX6_receives_37 : decode cX6_receives 37 = .ok (.iaload, 1) := by decide +kernel
theorem dX6_receives_38 : decode cX6_receives 38 = .ok (.ifCond .ne 5, 3) := by decide +kernel
theorem dX6_receives_41 : decode cX6_receives 41 = .ok (.iconst 0, 1) := by decide +kernel
theorem dX6_receives_42 : decode cX6_receives 42 = .ok (.ireturn, 1) := by decide +kernel
theorem dX6_receives_43 : decode cX6_receives 43 = .ok (.aload_n 0, 1) := by decide +kernel
theorem dX6_receives_44 : decode cX6_receives 44 = .ok (.getfield 45, 3) := by decide +kernel
theorem dX6_receives_47 : decode cX6_receives 47 = .ok (.bipush 8, 2) := by decide +kernel
theorem dX6_receives_49 : decode cX6_receives 49 = .ok (.iload_n 1, 1) := by decide +kernel
theorem dX6_receives_50 : decode cX6_receives 50 = .ok (.imul, 1) := by decide +kernel
theorem dX6_receives_51 : decode cX6_receives 51 = .ok (.iaload, 1) := by decide +kernel
theorem dX6_receives_52 : decode cX6_receives 52 = .ok (.istore_n 2, 1) := by decide +kernel
theorem dX6_receives_53 : decode cX6_receives 53 = .ok (.aload_n 0, 1) := by decide +kernel
theorem dX6_receives_54 : decode cX6_receives 54 = .ok (.getfield 51, 3) := by decide +kernel
theorem dX6_receives_57 : decode cX6_receives 57 = .ok (.bipush 8, 2) := by decide +kernel
theorem dX6_receives_59 : decode cX6_receives 59 = .ok (.iload_n 1, 1) := by decide +kernel
theorem dX6_receives_60 : decode cX6_receives 60 = .ok (.imul, 1) := by decide +kernel
theorem dX6_receives_61 : decode cX6_receives 61 = .ok (.iaload, 1) := by decide +kernel
theorem dX6_receives_62 : decode cX6_receives 62 = .ok (.istore_n 3, 1) := by decide +kernel
theorem dX6_receives_63 : decode cX6_receives 63 = .ok (.aload_n 0, 1) := by decide +kernel
theorem dX6_receives_64 : decode cX6_receives 64 = .ok (.getfield 9, 3) := by decide +kernel
theorem dX6_receives_67 : decode cX6_receives 67 = .ok (.sipush 128, 3) := by decide +kernel
theorem dX6_receives_70 : decode cX6_receives 70 = .ok (.iload_n 1, 1) := by decide +kernel
theorem dX6_receives_71 : decode cX6_receives 71 = .ok (.imul, 1) := by decide +kernel
theorem dX6_receives_72 : decode cX6_receives 72 = .ok (.bipush 120, 2) := by decide +kernel
theorem dX6_receives_74 : decode cX6_receives 74 = .ok (.iadd, 1) := by decide +kernel
theorem dX6_receives_75 : decode cX6_receives 75 = .ok (.iload_n 2, 1) := by decide +kernel
theorem dX6_receives_76 : decode cX6_receives 76 = .ok (.iastore, 1) := by decide +kernel
theorem dX6_receives_77 : decode cX6_receives 77 = .ok (.aload_n 0, 1) := by decide +kernel
theorem dX6_receives_78 : decode cX6_receives 78 = .ok (.getfield 9, 3) := by decide +kernel
theorem dX6_receives_81 : decode cX6_receives 81 = .ok (.sipush 128, 3) := by decide +kernel
theorem dX6_receives_84 : decode cX6_receives 84 = .ok (.iload_n 1, 1) := by decide +kernel
theorem dX6_receives_85 : decode cX6_receives 85 = .ok (.imul, 1) := by decide +kernel
theorem dX6_receives_86 : decode cX6_receives 86 = .ok (.bipush 121, 2) := by decide +kernel
theorem dX6_receives_88 : decode cX6_receives 88 = .ok (.iadd, 1) := by decide +kernel
theorem dX6_receives_89 : decode cX6_receives 89 = .ok (.aload_n 0, 1) := by decide +kernel
theorem dX6_receives_90 : decode cX6_receives 90 = .ok (.getfield 48, 3) := by decide +kernel
theorem dX6_receives_93 : decode cX6_receives 93 = .ok (.bipush 8, 2) := by decide +kernel
theorem dX6_receives_95 : decode cX6_receives 95 = .ok (.iload_n 1, 1) := by decide +kernel
theorem dX6_receives_96 : decode cX6_receives 96 = .ok (.imul, 1) := by decide +kernel
theorem dX6_receives_97 : decode cX6_receives 97 = .ok (.iaload, 1) := by decide +kernel
theorem dX6_receives_98 : decode cX6_receives 98 = .ok (.iastore, 1) := by decide +kernel
theorem dX6_receives_99 : decode cX6_receives 99 = .ok (.aload_n 0, 1) := by decide +kernel
theorem dX6_receives_100 : decode cX6_receives 100 = .ok (.iload_n 1, 1) := by decide +kernel
theorem dX6_receives_101 : decode cX6_receives 101 = .ok (.invokevirtual 143, 3) := by decide +kernel
theorem dX6_receives_104 : decode cX6_receives 104 = .ok (.iload_n 3, 1) := by decide +kernel
theorem dX6_receives_105 : decode cX6_receives 105 = .ok (.ifCond .ge 5, 3) := by decide +kernel
theorem dX6_receives_108 : decode cX6_receives 108 = .ok (.iconst 1, 1) := by decide +kernel
theorem dX6_receives_109 : decode cX6_receives 109 = .ok (.ireturn, 1) := by decide +kernel
theorem dX6_receives_110 : decode cX6_receives 110 = .ok (.aload_n 0, 1) := by decide +kernel
theorem dX6_receives_111 : decode cX6_receives 111 = .ok (.iload_n 1, 1) := by decide +kernel
theorem dX6_receives_112 : decode cX6_receives 112 = .ok (.iload_n 3, 1) := by decide +kernel
theorem dX6_receives_113 : decode cX6_receives 113 = .ok (.invokevirtual 139, 3) := by decide +kernel
theorem dX6_receives_116 : decode cX6_receives 116 = .ok (.bipush 40, 2) := by decide +kernel
theorem dX6_receives_118 : decode cX6_receives 118 = .ok (.if_icmp .ge 16, 3) := by decide +kernel
theorem dX6_receives_121 : decode cX6_receives 121 = .ok (.aload_n 0, 1) := by decide +kernel
theorem dX6_receives_122 : decode cX6_receives 122 = .ok (.getfield 33, 3) := by decide +kernel
theorem dX6_receives_125 : decode cX6_receives 125 = .ok (.aload_n 0, 1) := by decide +kernel
theorem dX6_receives_126 : decode cX6_receives 126 = .ok (.iload_n 1, 1) := by decide +kernel
theorem dX6_receives_127 : decode cX6_receives 127 = .ok (.iload_n 3, 1) := by decide +kernel
theorem dX6_receives_128 : decode cX6_receives 128 = .ok (.iload_n 2, 1) := by decide +kernel
theorem dX6_receives_129 : decode cX6_receives 129 = .ok (.invokevirtual 67, 3) := by decide +kernel
theorem dX6_receives_132 : decode cX6_receives 132 = .ok (.iconst 1, 1) := by decide +kernel
theorem dX6_receives_133 : decode cX6_receives 133 = .ok (.bastore, 1) := by decide +kernel
theorem dX6_receives_134 : decode cX6_receives 134 = .ok (.iconst 2, 1) := by decide +kernel
theorem dX6_receives_135 : decode cX6_receives 135 = .ok (.ireturn, 1) := by decide +kernel
theorem dX6_creates_0 : decode cX6_creates 0 = .ok (.iconst 0, 1) := by decide +kernel
theorem dX6_creates_1 : decode cX6_creates 1 = .ok (.istore_n 2, 1) := by decide +kernel
theorem dX6_creates_2 : decode cX6_creates 2 = .ok (.iload_n 2, 1) := by decide +kernel
theorem dX6_creates_3 : decode cX6_creates 3 = .ok (.bipush 8, 2) := by decide +kernel
theorem dX6_creates_5 : decode cX6_creates 5 = .ok (.if_icmp .ge 23, 3) := by decide +kernel
theorem dX6_creates_8 : decode cX6_creates 8 = .ok (.aload_n 0, 1) := by decide +kernel
theorem dX6_creates_9 : decode cX6_creates 9 = .ok (.getfield 36, 3) := by decide +kernel
theorem dX6_creates_12 : decode cX6_creates 12 = .ok (.bipush 8, 2) := by decide +kernel
theorem dX6_creates_14 : decode cX6_creates 14 = .ok (.iload_n 1, 1) := by decide +kernel
theorem dX6_creates_15 : decode cX6_creates 15 = .ok (.imul, 1) := by decide +kernel
theorem dX6_creates_16 : decode cX6_creates 16 = .ok (.iload_n 2, 1) := by decide +kernel
theorem dX6_creates_17 : decode cX6_creates 17 = .ok (.iadd, 1) := by decide +kernel
theorem dX6_creates_18 : decode cX6_creates 18 = .ok (.baload, 1) := by decide +kernel
theorem dX6_creates_19 : decode cX6_creates 19 = .ok (.ifCond .eq 9, 3) := by decide +kernel
theorem dX6_creates_22 : decode cX6_creates 22 = .ok (.iinc 2 1, 3) := by decide +kernel
theorem dX6_creates_25 : decode cX6_creates 25 = .ok (.goto (-23), 3) := by decide +kernel
theorem dX6_creates_28 : decode cX6_creates 28 = .ok (.iload_n 2, 1) := by decide +kernel
theorem dX6_creates_29 : decode cX6_creates 29 = .ok (.bipush 8, 2) := by decide +kernel
theorem dX6_creates_31 : decode cX6_creates 31 = .ok (.if_icmp .eq 14, 3) := by decide +kernel
theorem dX6_creates_34 : decode cX6_creates 34 = .ok (.aload_n 0, 1) := by decide +kernel
theorem dX6_creates_35 : decode cX6_creates 35 = .ok (.iload_n 1, 1) := by decide +kernel
theorem dX6_creates_36 : decode cX6_creates 36 = .ok (.sipush 136, 3) := by decide +kernel
theorem dX6_creates_39 : decode cX6_creates 39 = .ok (.invokevirtual 79, 3) := by decide +kernel
theorem dX6_creates_42 : decode cX6_creates 42 = .ok (.ifCond .ne 5, 3) := by decide +kernel
theorem dX6_creates_45 : decode cX6_creates 45 = .ok (.iconst (-1), 1) := by decide +kernel
theorem dX6_creates_46 : decode cX6_creates 46 = .ok (.ireturn, 1) := by decide +kernel
theorem dX6_creates_47 : decode cX6_creates 47 = .ok (.bipush 8, 2) := by decide +kernel
theorem dX6_creates_49 : decode cX6_creates 49 = .ok (.iload_n 1, 1) := by decide +kernel
theorem dX6_creates_50 : decode cX6_creates 50 = .ok (.imul, 1) := by decide +kernel
theorem dX6_creates_51 : decode cX6_creates 51 = .ok (.iload_n 2, 1) := by decide +kernel
theorem dX6_creates_52 : decode cX6_creates 52 = .ok (.iadd, 1) := by decide +kernel
theorem dX6_creates_53 : decode cX6_creates 53 = .ok (.istore_n 3, 1) := by decide +kernel
theorem dX6_creates_54 : decode cX6_creates 54 = .ok (.aload_n 0, 1) := by decide +kernel
theorem dX6_creates_55 : decode cX6_creates 55 = .ok (.getfield 36, 3) := by decide +kernel
theorem dX6_creates_58 : decode cX6_creates 58 = .ok (.iload_n 3, 1) := by decide +kernel
theorem dX6_creates_59 : decode cX6_creates 59 = .ok (.iconst 1, 1) := by decide +kernel
theorem dX6_creates_60 : decode cX6_creates 60 = .ok (.bastore, 1) := by decide +kernel
theorem dX6_creates_61 : decode cX6_creates 61 = .ok (.aload_n 0, 1) := by decide +kernel
theorem dX6_creates_62 : decode cX6_creates 62 = .ok (.sipush 136, 3) := by decide +kernel
theorem dX6_creates_65 : decode cX6_creates 65 = .ok (.bipush 8, 2) := by decide +kernel
theorem dX6_creates_67 : decode cX6_creates 67 = .ok (.iload_n 3, 1) := by decide +kernel
theorem dX6_creates_68 : decode cX6_creates 68 = .ok (.iadd, 1) := by decide +kernel
theorem dX6_creates_69 : decode cX6_creates 69 = .ok (.invokevirtual 71, 3) := by decide +kernel
theorem dX6_creates_72 : decode cX6_creates 72 = .ok (.iconst 0, 1) := by decide +kernel
theorem dX6_creates_73 : decode cX6_creates 73 = .ok (.istore 4, 2) := by decide +kernel
theorem dX6_creates_75 : decode cX6_creates 75 = .ok (.iload 4, 2) := by decide +kernel
theorem dX6_creates_77 : decode cX6_creates 77 = .ok (.bipush 8, 2) := by decide +kernel
theorem dX6_creates_79 : decode cX6_creates 79 = .ok (.if_icmp .ge 22, 3) := by decide +kernel
theorem dX6_creates_82 : decode cX6_creates 82 = .ok (.aload_n 0, 1) := by decide +kernel
theorem dX6_creates_83 : decode cX6_creates 83 = .ok (.getfield 39, 3) := by decide +kernel
theorem dX6_creates_86 : decode cX6_creates 86 = .ok (.bipush 8, 2) := by decide +kernel
theorem dX6_creates_88 : decode cX6_creates 88 = .ok (.iload_n 3, 1) := by decide +kernel
theorem dX6_creates_89 : decode cX6_creates 89 = .ok (.imul, 1) := by decide +kernel
theorem dX6_creates_90 : decode cX6_creates 90 = .ok (.iload 4, 2) := by decide +kernel
theorem dX6_creates_92 : decode cX6_creates 92 = .ok (.iadd, 1) := by decide +kernel
theorem dX6_creates_93 : decode cX6_creates 93 = .ok (.iconst 0, 1) := by decide +kernel
theorem dX6_creates_94 : decode cX6_creates 94 = .ok (.iastore, 1) := by decide +kernel
theorem dX6_creates_95 : decode cX6_creates 95 = .ok (.iinc 4 1, 3) := by decide +kernel
theorem dX6_creates_98 : decode cX6_creates 98 = .ok (.goto (-23), 3) := by decide +kernel
theorem dX6_creates_101 : decode cX6_creates 101 = .ok (.iload_n 3, 1) := by decide +kernel
theorem dX6_creates_102 : decode cX6_creates 102 = .ok (.ireturn, 1) := by decide +kernel
theorem dX6_reads_0 : decode cX6_reads 0 = .ok (.iload_n 2, 1) := by decide +kernel
theorem dX6_reads_1 : decode cX6_reads 1 = .ok (.iconst 0, 1) := by decide +kernel
theorem dX6_reads_2 : decode cX6_reads 2 = .ok (.bipush 63, 2) := by decide +kernel
theorem dX6_reads_4 : decode cX6_reads 4 = .ok (.invokestatic 63, 3) := by decide +kernel
theorem dX6_reads_7 : decode cX6_reads 7 = .ok (.ifCond .eq 34, 3) := by decide +kernel
theorem dX6_reads_10 : decode cX6_reads 10 = .ok (.aload_n 0, 1) := by decide +kernel
theorem dX6_reads_11 : decode cX6_reads 11 = .ok (.getfield 36, 3) := by decide +kernel
theorem dX6_reads_14 : decode cX6_reads 14 = .ok (.iload_n 2, 1) := by decide +kernel
theorem dX6_reads_15 : decode cX6_reads 15 = .ok (.baload, 1) := by decide +kernel
theorem dX6_reads_16 : decode cX6_reads 16 = .ok (.ifCond .eq 25, 3) := by decide +kernel
theorem dX6_reads_19 : decode cX6_reads 19 = .ok (.iload_n 3, 1) := by decide +kernel
theorem dX6_reads_20 : decode cX6_reads 20 = .ok (.iconst 0, 1) := by decide +kernel
theorem dX6_reads_21 : decode cX6_reads 21 = .ok (.bipush 7, 2) := by decide +kernel
theorem dX6_reads_23 : decode cX6_reads 23 = .ok (.invokestatic 63, 3) := by decide +kernel
theorem dX6_reads_26 : decode cX6_reads 26 = .ok (.ifCond .eq 15, 3) := by decide +kernel
theorem dX6_reads_29 : decode cX6_reads 29 = .ok (.aload_n 0, 1) := by decide +kernel
theorem dX6_reads_30 : decode cX6_reads 30 = .ok (.bipush 8, 2) := by decide +kernel
theorem dX6_reads_32 : decode cX6_reads 32 = .ok (.iload_n 2, 1) := by decide +kernel
theorem dX6_reads_33 : decode cX6_reads 33 = .ok (.iadd, 1) := by decide +kernel
theorem dX6_reads_34 : decode cX6_reads 34 = .ok (.iload_n 1, 1) := by decide +kernel
theorem dX6_reads_35 : decode cX6_reads 35 = .ok (.invokevirtual 79, 3) := by decide +kernel
theorem dX6_reads_38 : decode cX6_reads 38 = .ok (.ifCond .ne 5, 3) := by decide +kernel
theorem dX6_reads_41 : decode cX6_reads 41 = .ok (.iconst 0, 1) := by decide +kernel
theorem dX6_reads_42 : decode cX6_reads 42 = .ok (.ireturn, 1) := by decide +kernel
theorem dX6_reads_43 : decode cX6_reads 43 = .ok (.aload_n 0, 1) := by decide +kernel
theorem dX6_reads_44 : decode cX6_reads 44 = .ok (.getfield 9, 3) := by decide +kernel
theorem dX6_reads_47 : decode cX6_reads 47 = .ok (.sipush 128, 3) := by decide +kernel
theorem dX6_reads_50 : decode cX6_reads 50 = .ok (.iload_n 1, 1) := by decide +kernel
theorem dX6_reads_51 : decode cX6_reads 51 = .ok (.imul, 1) := by decide +kernel
theorem dX6_reads_52 : decode cX6_reads 52 = .ok (.bipush 120, 2) := by decide +kernel
theorem dX6_reads_54 : decode cX6_reads 54 = .ok (.iadd, 1) := by decide +kernel
theorem dX6_reads_55 : decode cX6_reads 55 = .ok (.aload_n 0, 1) := by decide +kernel
theorem dX6_reads_56 : decode cX6_reads 56 = .ok (.getfield 39, 3) := by decide +kernel
theorem dX6_reads_59 : decode cX6_reads 59 = .ok (.bipush 8, 2) := by decide +kernel
theorem dX6_reads_61 : decode cX6_reads 61 = .ok (.iload_n 2, 1) := by decide +kernel
theorem dX6_reads_62 : decode cX6_reads 62 = .ok (.imul, 1) := by decide +kernel
theorem dX6_reads_63 : decode cX6_reads 63 = .ok (.iload_n 3, 1) := by decide +kernel
theorem dX6_reads_64 : decode cX6_reads 64 = .ok (.iadd, 1) := by decide +kernel
theorem dX6_reads_65 : decode cX6_reads 65 = .ok (.iaload, 1) := by decide +kernel
theorem dX6_reads_66 : decode cX6_reads 66 = .ok (.iastore, 1) := by decide +kernel
theorem dX6_reads_67 : decode cX6_reads 67 = .ok (.iconst 1, 1) := by decide +kernel
theorem dX6_reads_68 : decode cX6_reads 68 = .ok (.ireturn, 1) := by decide +kernel
theorem dX6_spawns_0 : decode cX6_spawns 0 = .ok (.iload_n 2, 1) := by decide +kernel
theorem dX6_spawns_1 : decode cX6_spawns 1 = .ok (.iconst 1, 1) := by decide +kernel
theorem dX6_spawns_2 : decode cX6_spawns 2 = .ok (.bipush 7, 2) := by decide +kernel
theorem dX6_spawns_4 : decode cX6_spawns 4 = .ok (.invokestatic 63, 3) := by decide +kernel
theorem dX6_spawns_7 : decode cX6_spawns 7 = .ok (.ifCond .eq 34, 3) := by decide +kernel
theorem dX6_spawns_10 : decode cX6_spawns 10 = .ok (.iload_n 2, 1) := by decide +kernel
theorem dX6_spawns_11 : decode cX6_spawns 11 = .ok (.iconst 1, 1) := by decide +kernel
theorem dX6_spawns_12 : decode cX6_spawns 12 = .ok (.isub, 1) := by decide +kernel
theorem dX6_spawns_13 : decode cX6_spawns 13 = .ok (.iconst 2, 1) := by decide +kernel
theorem dX6_spawns_14 : decode cX6_spawns 14 = .ok (.idiv, 1) := by decide +kernel
theorem dX6_spawns_15 : decode cX6_spawns 15 = .ok (.iload_n 1, 1) := by decide +kernel
theorem dX6_spawns_16 : decode cX6_spawns 16 = .ok (.if_icmp .ne 25, 3) := by decide +kernel
theorem dX6_spawns_19 : decode cX6_spawns 19 = .ok (.aload_n 0, 1) := by decide +kernel
theorem dX6_spawns_20 : decode cX6_spawns 20 = .ok (.getfield 19, 3) := by decide +kernel
theorem dX6_spawns_23 : decode cX6_spawns 23 = .ok (.iload_n 2, 1) := by decide +kernel
theorem dX6_spawns_24 : decode cX6_spawns 24 = .ok (.iaload, 1) := by decide +kernel
theorem dX6_spawns_25 : decode cX6_spawns 25 = .ok (.ifCond .ne 16, 3) := by decide +kernel
theorem dX6_spawns_28 : decode cX6_spawns 28 = .ok (.aload_n 0, 1) := by decide +kernel
theorem dX6_spawns_29 : decode cX6_spawns 29 = .ok (.iload_n 2, 1) := by decide +kernel
theorem dX6_spawns_30 : decode cX6_spawns 30 = .ok (.iload_n 1, 1) := by decide +kernel
theorem dX6_spawns_31 : decode cX6_spawns 31 = .ok (.invokevirtual 79, 3) := by decide +kernel
theorem dX6_spawns_34 : decode cX6_spawns 34 = .ok (.ifCond .eq 7, 3) := by decide +kernel
theorem dX6_spawns_37 : decode cX6_spawns 37 = .ok (.iconst 1, 1) := by decide +kernel
theorem dX6_spawns_38 : decode cX6_spawns 38 = .ok (.goto 4, 3) := by decide +kernel
theorem dX6_spawns_41 : decode cX6_spawns 41 = .ok (.iconst 0, 1) := by decide +kernel
theorem dX6_spawns_42 : decode cX6_spawns 42 = .ok (.istore 5, 2) := by decide +kernel
theorem dX6_spawns_44 : decode cX6_spawns 44 = .ok (.iload 5, 2) := by decide +kernel
theorem dX6_spawns_46 : decode cX6_spawns 46 = .ok (.ifCond .eq 29, 3) := by decide +kernel
theorem dX6_spawns_49 : decode cX6_spawns 49 = .ok (.iload 4, 2) := by decide +kernel
theorem dX6_spawns_51 : decode cX6_spawns 51 = .ok (.iconst 1, 1) := by decide +kernel
theorem dX6_spawns_52 : decode cX6_spawns 52 = .ok (.sipush 128, 3) := by decide +kernel
theorem dX6_spawns_55 : decode cX6_spawns 55 = .ok (.invokestatic 63, 3) := by decide +kernel
theorem dX6_spawns_58 : decode cX6_spawns 58 = .ok (.ifCond .eq 17, 3) := by decide +kernel
theorem dX6_spawns_61 : decode cX6_spawns 61 = .ok (.iload_n 3, 1) := by decide +kernel
theorem dX6_spawns_62 : decode cX6_spawns 62 = .ok (.iconst 0, 1) := by decide +kernel
theorem dX6_spawns_63 : decode cX6_spawns 63 = .ok (.sipush 128, 3) := by decide +kernel
theorem dX6_spawns_66 : decode cX6_spawns 66 = .ok (.iload 4, 2) := by decide +kernel
theorem dX6_spawns_68 : decode cX6_spawns 68 = .ok (.isub, 1) := by decide +kernel
theorem dX6_spawns_69 : decode cX6_spawns 69 = .ok (.invokestatic 63, 3) := by decide +kernel
theorem dX6_spawns_72 : decode cX6_spawns 72 = .ok (.ifCond .ne 5, 3) := by decide +kernel
theorem dX6_spawns_75 : decode cX6_spawns 75 = .ok (.iconst 0, 1) := by decide +kernel
theorem dX6_spawns_76 : decode cX6_spawns 76 = .ok (.ireturn, 1) := by decide +kernel
theorem dX6_spawns_77 : decode cX6_spawns 77 = .ok (.iconst 0, 1) := by decide +kernel
theorem dX6_spawns_78 : decode cX6_spawns 78 = .ok (.istore 6, 2) := by decide +kernel
theorem dX6_spawns_80 : decode cX6_spawns 80 = .ok (.iload 6, 2) := by decide +kernel
theorem dX6_spawns_82 : decode cX6_spawns 82 = .ok (.iload 4, 2) := by decide +kernel
theorem dX6_spawns_84 : decode cX6_spawns 84 = .ok (.if_icmp .ge 37, 3) := by decide +kernel
theorem dX6_spawns_87 : decode cX6_spawns 87 = .ok (.aload_n 0, 1) := by decide +kernel
theorem dX6_spawns_88 : decode cX6_spawns 88 = .ok (.getfield 9, 3) := by decide +kernel
theorem dX6_spawns_91 : decode cX6_spawns 91 = .ok (.sipush 128, 3) := by decide +kernel
theorem dX6_spawns_94 : decode cX6_spawns 94 = .ok (.iload_n 2, 1) := by decide +kernel
theorem dX6_spawns_95 : decode cX6_spawns 95 = .ok (.imul, 1) := by decide +kernel
theorem dX6_spawns_96 : decode cX6_spawns 96 = .ok (.iload 6, 2) := by decide +kernel
theorem dX6_spawns_98 : decode cX6_spawns 98 = .ok (.iadd, 1) := by decide +kernel
theorem dX6_spawns_99 : decode cX6_spawns 99 = .ok (.aload_n 0, 1) := by decide +kernel
theorem dX6_spawns_100 : decode cX6_spawns 100 = .ok (.getfield 9, 3) := by decide +kernel
theorem dX6_spawns_103 : decode cX6_spawns 103 = .ok (.sipush 128, 3) := by decide +kernel
theorem dX6_spawns_106 : decode cX6_spawns 106 = .ok (.iload_n 1, 1) := by decide +kernel
theorem dX6_spawns_107 : decode cX6_spawns 107 = .ok (.imul, 1) := by decide +kernel
theorem dX6_spawns_108 : decode cX6_spawns 108 = .ok (.iload_n 3, 1) := by decide +kernel
theorem dX6_spawns_109 : decode cX6_spawns 109 = .ok (.iadd, 1) := by decide +kernel
theorem dX6_spawns_110 : decode cX6_spawns 110 = .ok (.iload 6, 2) := by decide +kernel
theorem dX6_spawns_112 : decode cX6_spawns 112 = .ok (.iadd, 1) := by decide +kernel
theorem dX6_spawns_113 : decode cX6_spawns 113 = .ok (.iaload, 1) := by decide +kernel
theorem dX6_spawns_114 : decode cX6_spawns 114 = .ok (.iastore, 1) := by decide +kernel
theorem dX6_spawns_115 : decode cX6_spawns 115 = .ok (.iinc 6 1, 3) := by decide +kernel
theorem dX6_spawns_118 : decode cX6_spawns 118 = .ok (.goto (-38), 3) := by decide +kernel
theorem dX6_spawns_121 : decode cX6_spawns 121 = .ok (.aload_n 0, 1) := by decide +kernel
theorem dX6_spawns_122 : decode cX6_spawns 122 = .ok (.getfield 19, 3) := by decide +kernel
theorem dX6_spawns_125 : decode cX6_spawns 125 = .ok (.iload_n 2, 1) := by decide +kernel
theorem dX6_spawns_126 : decode cX6_spawns 126 = .ok (.iconst 1, 1) := by decide +kernel
theorem dX6_spawns_127 : decode cX6_spawns 127 = .ok (.iastore, 1) := by decide +kernel
theorem dX6_spawns_128 : decode cX6_spawns 128 = .ok (.aload_n 0, 1) := by decide +kernel
theorem dX6_spawns_129 : decode cX6_spawns 129 = .ok (.iload_n 1, 1) := by decide +kernel
theorem dX6_spawns_130 : decode cX6_spawns 130 = .ok (.iload_n 2, 1) := by decide +kernel
theorem dX6_spawns_131 : decode cX6_spawns 131 = .ok (.invokevirtual 71, 3) := by decide +kernel
theorem dX6_spawns_134 : decode cX6_spawns 134 = .ok (.iconst 1, 1) := by decide +kernel
theorem dX6_spawns_135 : decode cX6_spawns 135 = .ok (.ireturn, 1) := by decide +kernel
theorem dX6_puts_0 : decode cX6_puts 0 = .ok (.aload_n 0, 1) := by decide +kernel
theorem dX6_puts_1 : decode cX6_puts 1 = .ok (.getfield 54, 3) := by decide +kernel
theorem dX6_puts_4 : decode cX6_puts 4 = .ok (.iload_n 1, 1) := by decide +kernel
theorem dX6_puts_5 : decode cX6_puts 5 = .ok (.iaload, 1) := by decide +kernel
theorem dX6_puts_6 : decode cX6_puts 6 = .ok (.bipush 64, 2) := by decide +kernel
theorem dX6_puts_8 : decode cX6_puts 8 = .ok (.if_icmp .ne 4, 3) := by decide +kernel
theorem dX6_puts_11 : decode cX6_puts 11 = .ok (.return_, 1) := by decide +kernel
theorem dX6_puts_12 : decode cX6_puts 12 = .ok (.aload_n 0, 1) := by decide +kernel
theorem dX6_puts_13 : decode cX6_puts 13 = .ok (.getfield 57, 3) := by decide +kernel
theorem dX6_puts_16 : decode cX6_puts 16 = .ok (.bipush 64, 2) := by decide +kernel
theorem dX6_puts_18 : decode cX6_puts 18 = .ok (.iload_n 1, 1) := by decide +kernel
theorem dX6_puts_19 : decode cX6_puts 19 = .ok (.imul, 1) := by decide +kernel
theorem dX6_puts_20 : decode cX6_puts 20 = .ok (.aload_n 0, 1) := by decide +kernel
theorem dX6_puts_21 : decode cX6_puts 21 = .ok (.getfield 54, 3) := by decide +kernel
theorem dX6_puts_24 : decode cX6_puts 24 = .ok (.iload_n 1, 1) := by decide +kernel
theorem dX6_puts_25 : decode cX6_puts 25 = .ok (.iaload, 1) := by decide +kernel
theorem dX6_puts_26 : decode cX6_puts 26 = .ok (.iadd, 1) := by decide +kernel
theorem dX6_puts_27 : decode cX6_puts 27 = .ok (.iload_n 2, 1) := by decide +kernel
theorem dX6_puts_28 : decode cX6_puts 28 = .ok (.iastore, 1) := by decide +kernel
theorem dX6_puts_29 : decode cX6_puts 29 = .ok (.aload_n 0, 1) := by decide +kernel
theorem dX6_puts_30 : decode cX6_puts 30 = .ok (.getfield 60, 3) := by decide +kernel
theorem dX6_puts_33 : decode cX6_puts 33 = .ok (.bipush 64, 2) := by decide +kernel
theorem dX6_puts_35 : decode cX6_puts 35 = .ok (.iload_n 1, 1) := by decide +kernel
theorem dX6_puts_36 : decode cX6_puts 36 = .ok (.imul, 1) := by decide +kernel
theorem dX6_puts_37 : decode cX6_puts 37 = .ok (.aload_n 0, 1) := by decide +kernel
theorem dX6_puts_38 : decode cX6_puts 38 = .ok (.getfield 54, 3) := by decide +kernel
theorem dX6_puts_41 : decode cX6_puts 41 = .ok (.iload_n 1, 1) := by decide +kernel
theorem dX6_puts_42 : decode cX6_puts 42 = .ok (.iaload, 1) := by decide +kernel
theorem dX6_puts_43 : decode cX6_puts 43 = .ok (.iadd, 1) := by decide +kernel
theorem dX6_puts_44 : decode cX6_puts 44 = .ok (.aload_n 0, 1) := by decide +kernel
theorem dX6_puts_45 : decode cX6_puts 45 = .ok (.iload_n 1, 1) := by decide +kernel
theorem dX6_puts_46 : decode cX6_puts 46 = .ok (.invokevirtual 136, 3) := by decide +kernel
theorem dX6_puts_49 : decode cX6_puts 49 = .ok (.iastore, 1) := by decide +kernel
theorem dX6_puts_50 : decode cX6_puts 50 = .ok (.aload_n 0, 1) := by decide +kernel
theorem dX6_puts_51 : decode cX6_puts 51 = .ok (.getfield 54, 3) := by decide +kernel
theorem dX6_puts_54 : decode cX6_puts 54 = .ok (.iload_n 1, 1) := by decide +kernel
theorem dX6_puts_55 : decode cX6_puts 55 = .ok (.dup2, 1) := by decide +kernel
theorem dX6_puts_56 : decode cX6_puts 56 = .ok (.iaload, 1) := by decide +kernel
theorem dX6_puts_57 : decode cX6_puts 57 = .ok (.iconst 1, 1) := by decide +kernel
theorem dX6_puts_58 : decode cX6_puts 58 = .ok (.iadd, 1) := by decide +kernel
theorem dX6_puts_59 : decode cX6_puts 59 = .ok (.iastore, 1) := by decide +kernel
theorem dX6_puts_60 : decode cX6_puts 60 = .ok (.return_, 1) := by decide +kernel
theorem dX6_poke_0 : decode cX6_poke 0 = .ok (.iload_n 1, 1) := by decide +kernel
theorem dX6_poke_1 : decode cX6_poke 1 = .ok (.invokestatic 75, 3) := by decide +kernel
theorem dX6_poke_4 : decode cX6_poke 4 = .ok (.ifCond .eq 13, 3) := by decide +kernel
theorem dX6_poke_7 : decode cX6_poke 7 = .ok (.iload_n 2, 1) := by decide +kernel
theorem dX6_poke_8 : decode cX6_poke 8 = .ok (.iconst 0, 1) := by decide +kernel
theorem dX6_poke_9 : decode cX6_poke 9 = .ok (.bipush 125, 2) := by decide +kernel
theorem dX6_poke_11 : decode cX6_poke 11 = .ok (.invokestatic 63, 3) := by decide +kernel
theorem dX6_poke_14 : decode cX6_poke 14 = .ok (.ifCond .ne 5, 3) := by decide +kernel
theorem dX6_poke_17 : decode cX6_poke 17 = .ok (.iconst (-1), 1) := by decide +kernel
theorem dX6_poke_18 : decode cX6_poke 18 = .ok (.ireturn, 1) := by decide +kernel
theorem dX6_poke_19 : decode cX6_poke 19 = .ok (.aload_n 0, 1) := by decide +kernel
theorem dX6_poke_20 : decode cX6_poke 20 = .ok (.getfield 9, 3) := by decide +kernel
theorem dX6_poke_23 : decode cX6_poke 23 = .ok (.sipush 128, 3) := by decide +kernel
theorem dX6_poke_26 : decode cX6_poke 26 = .ok (.iload_n 1, 1) := by decide +kernel
theorem dX6_poke_27 : decode cX6_poke 27 = .ok (.imul, 1) := by decide +kernel
theorem dX6_poke_28 : decode cX6_poke 28 = .ok (.iload_n 2, 1) := by decide +kernel
theorem dX6_poke_29 : decode cX6_poke 29 = .ok (.iadd, 1) := by decide +kernel
theorem dX6_poke_30 : decode cX6_poke 30 = .ok (.iload_n 3, 1) := by decide +kernel
theorem dX6_poke_31 : decode cX6_poke 31 = .ok (.iastore, 1) := by decide +kernel
theorem dX6_poke_32 : decode cX6_poke 32 = .ok (.aload_n 0, 1) := by decide +kernel
theorem dX6_poke_33 : decode cX6_poke 33 = .ok (.getfield 9, 3) := by decide +kernel
theorem dX6_poke_36 : decode cX6_poke 36 = .ok (.sipush 128, 3) := by decide +kernel
theorem dX6_poke_39 : decode cX6_poke 39 = .ok (.iload_n 1, 1) := by decide +kernel
theorem dX6_poke_40 : decode cX6_poke 40 = .ok (.imul, 1) := by decide +kernel
theorem dX6_poke_41 : decode cX6_poke 41 = .ok (.iload_n 2, 1) := by decide +kernel
theorem dX6_poke_42 : decode cX6_poke 42 = .ok (.iadd, 1) := by decide +kernel
theorem dX6_poke_43 : decode cX6_poke 43 = .ok (.iconst 1, 1) := by decide +kernel
theorem dX6_poke_44 : decode cX6_poke 44 = .ok (.iadd, 1) := by decide +kernel
theorem dX6_poke_45 : decode cX6_poke 45 = .ok (.iload 4, 2) := by decide +kernel
theorem dX6_poke_47 : decode cX6_poke 47 = .ok (.iastore, 1) := by decide +kernel
theorem dX6_poke_48 : decode cX6_poke 48 = .ok (.aload_n 0, 1) := by decide +kernel
theorem dX6_poke_49 : decode cX6_poke 49 = .ok (.getfield 9, 3) := by decide +kernel
theorem dX6_poke_52 : decode cX6_poke 52 = .ok (.sipush 128, 3) := by decide +kernel
theorem dX6_poke_55 : decode cX6_poke 55 = .ok (.iload_n 1, 1) := by decide +kernel
theorem dX6_poke_56 : decode cX6_poke 56 = .ok (.imul, 1) := by decide +kernel
theorem dX6_poke_57 : decode cX6_poke 57 = .ok (.iload_n 2, 1) := by decide +kernel
theorem dX6_poke_58 : decode cX6_poke 58 = .ok (.iadd, 1) := by decide +kernel
theorem dX6_poke_59 : decode cX6_poke 59 = .ok (.iconst 2, 1) := by decide +kernel
theorem dX6_poke_60 : decode cX6_poke 60 = .ok (.iadd, 1) := by decide +kernel
theorem dX6_poke_61 : decode cX6_poke 61 = .ok (.iload 5, 2) := by decide +kernel
theorem dX6_poke_63 : decode cX6_poke 63 = .ok (.iastore, 1) := by decide +kernel
theorem dX6_poke_64 : decode cX6_poke 64 = .ok (.iconst 1, 1) := by decide +kernel
theorem dX6_poke_65 : decode cX6_poke 65 = .ok (.ireturn, 1) := by decide +kernel
theorem dX6_start_0 : decode cX6_start 0 = .ok (.iload_n 1, 1) := by decide +kernel
theorem dX6_start_1 : decode cX6_start 1 = .ok (.invokestatic 75, 3) := by decide +kernel
theorem dX6_start_4 : decode cX6_start 4 = .ok (.ifCond .eq 12, 3) := by decide +kernel
theorem dX6_start_7 : decode cX6_start 7 = .ok (.aload_n 0, 1) := by decide +kernel
theorem dX6_start_8 : decode cX6_start 8 = .ok (.getfield 19, 3) := by decide +kernel
theorem dX6_start_11 : decode cX6_start 11 = .ok (.iload_n 1, 1) := by decide +kernel
theorem dX6_start_12 : decode cX6_start 12 = .ok (.iaload, 1) := by decide +kernel
theorem dX6_start_13 : decode cX6_start 13 = .ok (.ifCond .eq 5, 3) := by decide +kernel
theorem dX6_start_16 : decode cX6_start 16 = .ok (.iconst (-1), 1) := by decide +kernel
theorem dX6_start_17 : decode cX6_start 17 = .ok (.ireturn, 1) := by decide +kernel
theorem dX6_start_18 : decode cX6_start 18 = .ok (.aload_n 0, 1) := by decide +kernel
theorem dX6_start_19 : decode cX6_start 19 = .ok (.getfield 19, 3) := by decide +kernel
theorem dX6_start_22 : decode cX6_start 22 = .ok (.iload_n 1, 1) := by decide +kernel
theorem dX6_start_23 : decode cX6_start 23 = .ok (.iconst 1, 1) := by decide +kernel
theorem dX6_start_24 : decode cX6_start 24 = .ok (.iastore, 1) := by decide +kernel
theorem dX6_start_25 : decode cX6_start 25 = .ok (.iconst 1, 1) := by decide +kernel
theorem dX6_start_26 : decode cX6_start 26 = .ok (.ireturn, 1) := by decide +kernel
theorem dX6_counter_0 : decode cX6_counter 0 = .ok (.iload_n 1, 1) := by decide +kernel
theorem dX6_counter_1 : decode cX6_counter 1 = .ok (.invokestatic 75, 3) := by decide +kernel
theorem dX6_counter_4 : decode cX6_counter 4 = .ok (.ifCond .eq 13, 3) := by decide +kernel
theorem dX6_counter_7 : decode cX6_counter 7 = .ok (.iload_n 2, 1) := by decide +kernel
theorem dX6_counter_8 : decode cX6_counter 8 = .ok (.iconst 0, 1) := by decide +kernel
theorem dX6_counter_9 : decode cX6_counter 9 = .ok (.bipush 32, 2) := by decide +kernel
theorem dX6_counter_11 : decode cX6_counter 11 = .ok (.invokestatic 63, 3) := by decide +kernel
theorem dX6_counter_14 : decode cX6_counter 14 = .ok (.ifCond .ne 5, 3) := by decide +kernel
theorem dX6_counter_17 : decode cX6_counter 17 = .ok (.iconst (-1), 1) := by decide +kernel
theorem dX6_counter_18 : decode cX6_counter 18 = .ok (.ireturn, 1) := by decide +kernel
theorem dX6_counter_19 : decode cX6_counter 19 = .ok (.aload_n 0, 1) := by decide +kernel
theorem dX6_counter_20 : decode cX6_counter 20 = .ok (.getfield 25, 3) := by decide +kernel
theorem dX6_counter_23 : decode cX6_counter 23 = .ok (.iload_n 1, 1) := by decide +kernel
theorem dX6_counter_24 : decode cX6_counter 24 = .ok (.iaload, 1) := by decide +kernel
theorem dX6_counter_25 : decode cX6_counter 25 = .ok (.istore_n 3, 1) := by decide +kernel
theorem dX6_counter_26 : decode cX6_counter 26 = .ok (.iload_n 2, 1) := by decide +kernel
theorem dX6_counter_27 : decode cX6_counter 27 = .ok (.iload_n 3, 1) := by decide +kernel
theorem dX6_counter_28 : decode cX6_counter 28 = .ok (.if_icmp .ge 6, 3) := by decide +kernel
theorem dX6_counter_31 : decode cX6_counter 31 = .ok (.bipush (-2), 2) := by decide +kernel
theorem dX6_counter_33 : decode cX6_counter 33 = .ok (.ireturn, 1) := by decide +kernel
theorem dX6_counter_34 : decode cX6_counter 34 = .ok (.aload_n 0, 1) := by decide +kernel
theorem dX6_counter_35 : decode cX6_counter 35 = .ok (.getfield 25, 3) := by decide +kernel
theorem dX6_counter_38 : decode cX6_counter 38 = .ok (.iload_n 1, 1) := by decide +kernel
theorem dX6_counter_39 : decode cX6_counter 39 = .ok (.iload_n 2, 1) := by decide +kernel
theorem dX6_counter_40 : decode cX6_counter 40 = .ok (.iastore, 1) := by decide +kernel
theorem dX6_counter_41 : decode cX6_counter 41 = .ok (.iload_n 3, 1) := by decide +kernel
theorem dX6_counter_42 : decode cX6_counter 42 = .ok (.ireturn, 1) := by decide +kernel
theorem dX6_setTag_0 : decode cX6_setTag 0 = .ok (.iload_n 3, 1) := by decide +kernel
theorem dX6_setTag_1 : decode cX6_setTag 1 = .ok (.ifCond .eq 30, 3) := by decide +kernel
theorem dX6_setTag_4 : decode cX6_setTag 4 = .ok (.aload_n 0, 1) := by decide +kernel
theorem dX6_setTag_5 : decode cX6_setTag 5 = .ok (.getfield 29, 3) := by decide +kernel
theorem dX6_setTag_8 : decode cX6_setTag 8 = .ok (.sipush 256, 3) := by decide +kernel
theorem dX6_setTag_11 : decode cX6_setTag 11 = .ok (.iload_n 1, 1) := by decide +kernel
theorem dX6_setTag_12 : decode cX6_setTag 12 = .ok (.imul, 1) := by decide +kernel
theorem dX6_setTag_13 : decode cX6_setTag 13 = .ok (.iload_n 2, 1) := by decide +kernel
theorem dX6_setTag_14 : decode cX6_setTag 14 = .ok (.iadd, 1) := by decide +kernel
theorem dX6_setTag_15 : decode cX6_setTag 15 = .ok (.baload, 1) := by decide +kernel
theorem dX6_setTag_16 : decode cX6_setTag 16 = .ok (.ifCond .ne 15, 3) := by decide +kernel
theorem dX6_setTag_19 : decode cX6_setTag 19 = .ok (.aload_n 0, 1) := by decide +kernel
theorem dX6_setTag_20 : decode cX6_setTag 20 = .ok (.iload_n 1, 1) := by decide +kernel
theorem dX6_setTag_21 : decode cX6_setTag 21 = .ok (.invokevirtual 136, 3) := by decide +kernel
theorem dX6_setTag_24 : decode cX6_setTag 24 = .ok (.bipush 16, 2) := by decide +kernel
theorem dX6_setTag_26 : decode cX6_setTag 26 = .ok (.if_icmp .ne 5, 3) := by decide +kernel
theorem dX6_setTag_29 : decode cX6_setTag 29 = .ok (.iconst (-1), 1) := by decide +kernel
theorem dX6_setTag_30 : decode cX6_setTag 30 = .ok (.ireturn, 1) := by decide +kernel
theorem dX6_setTag_31 : decode cX6_setTag 31 = .ok (.aload_n 0, 1) := by decide +kernel
theorem dX6_setTag_32 : decode cX6_setTag 32 = .ok (.getfield 29, 3) := by decide +kernel
theorem dX6_setTag_35 : decode cX6_setTag 35 = .ok (.sipush 256, 3) := by decide +kernel
theorem dX6_setTag_38 : decode cX6_setTag 38 = .ok (.iload_n 1, 1) := by decide +kernel
theorem dX6_setTag_39 : decode cX6_setTag 39 = .ok (.imul, 1) := by decide +kernel
theorem dX6_setTag_40 : decode cX6_setTag 40 = .ok (.iload_n 2, 1) := by decide +kernel
theorem dX6_setTag_41 : decode cX6_setTag 41 = .ok (.iadd, 1) := by decide +kernel
theorem dX6_setTag_42 : decode cX6_setTag 42 = .ok (.iload_n 3, 1) := by decide +kernel
theorem dX6_setTag_43 : decode cX6_setTag 43 = .ok (.bastore, 1) := by decide +kernel
theorem dX6_setTag_44 : decode cX6_setTag 44 = .ok (.aload_n 0, 1) := by decide +kernel
theorem dX6_setTag_45 : decode cX6_setTag 45 = .ok (.iload_n 1, 1) := by decide +kernel
theorem dX6_setTag_46 : decode cX6_setTag 46 = .ok (.invokevirtual 136, 3) := by decide +kernel
theorem dX6_setTag_49 : decode cX6_setTag 49 = .ok (.ireturn, 1) := by decide +kernel
theorem dX6_tag_0 : decode cX6_tag 0 = .ok (.iload_n 1, 1) := by decide +kernel
theorem dX6_tag_1 : decode cX6_tag 1 = .ok (.invokestatic 75, 3) := by decide +kernel
theorem dX6_tag_4 : decode cX6_tag 4 = .ok (.ifCond .eq 21, 3) := by decide +kernel
theorem dX6_tag_7 : decode cX6_tag 7 = .ok (.aload_n 0, 1) := by decide +kernel
theorem dX6_tag_8 : decode cX6_tag 8 = .ok (.iload_n 2, 1) := by decide +kernel
theorem dX6_tag_9 : decode cX6_tag 9 = .ok (.invokevirtual 147, 3) := by decide +kernel
theorem dX6_tag_12 : decode cX6_tag 12 = .ok (.ifCond .eq 13, 3) := by decide +kernel
theorem dX6_tag_15 : decode cX6_tag 15 = .ok (.aload_n 0, 1) := by decide +kernel
theorem dX6_tag_16 : decode cX6_tag 16 = .ok (.iload_n 1, 1) := by decide +kernel
theorem dX6_tag_17 : decode cX6_tag 17 = .ok (.iload_n 2, 1) := by decide +kernel
theorem dX6_tag_18 : decode cX6_tag 18 = .ok (.iload_n 3, 1) := by decide +kernel
theorem dX6_tag_19 : decode cX6_tag 19 = .ok (.invokevirtual 150, 3) := by decide +kernel
theorem dX6_tag_22 : decode cX6_tag 22 = .ok (.goto 4, 3) := by decide +kernel
theorem dX6_tag_25 : decode cX6_tag 25 = .ok (.iconst (-1), 1) := by decide +kernel
theorem dX6_tag_26 : decode cX6_tag 26 = .ok (.ireturn, 1) := by decide +kernel
theorem dX6_capability_0 : decode cX6_capability 0 = .ok (.iload_n 1, 1) := by decide +kernel
theorem dX6_capability_1 : decode cX6_capability 1 = .ok (.invokestatic 75, 3) := by decide +kernel
theorem dX6_capability_4 : decode cX6_capability 4 = .ok (.ifCond .eq 20, 3) := by decide +kernel
theorem dX6_capability_7 : decode cX6_capability 7 = .ok (.iload_n 2, 1) := by decide +kernel
theorem dX6_capability_8 : decode cX6_capability 8 = .ok (.iconst 0, 1) := by decide +kernel
theorem dX6_capability_9 : decode cX6_capability 9 = .ok (.iconst 1, 1) := by decide +kernel
theorem dX6_capability_10 : decode cX6_capability 10 = .ok (.invokestatic 63, 3) := by decide +kernel
theorem dX6_capability_13 : decode cX6_capability 13 = .ok (.ifCond .eq 11, 3) := by decide +kernel
theorem dX6_capability_16 : decode cX6_capability 16 = .ok (.aload_n 0, 1) := by decide +kernel
theorem dX6_capability_17 : decode cX6_capability 17 = .ok (.iload_n 3, 1) := by decide +kernel
theorem dX6_capability_18 : decode cX6_capability 18 = .ok (.invokevirtual 147, 3) := by decide +kernel
theorem dX6_capability_21 : decode cX6_capability 21 = .ok (.ifCond .ne 5, 3) := by decide +kernel
theorem dX6_capability_24 : decode cX6_capability 24 = .ok (.iconst (-1), 1) := by decide +kernel
theorem dX6_capability_25 : decode cX6_capability 25 = .ok (.ireturn, 1) := by decide +kernel
theorem dX6_capability_26 : decode cX6_capability 26 = .ok (.aload_n 0, 1) := by decide +kernel
theorem dX6_capability_27 : decode cX6_capability 27 = .ok (.iload_n 1, 1) := by decide +kernel
theorem dX6_capability_28 : decode cX6_capability 28 = .ok (.iload_n 2, 1) := by decide +kernel
theorem dX6_capability_29 : decode cX6_capability 29 = .ok (.iload_n 3, 1) := by decide +kernel
theorem dX6_capability_30 : decode cX6_capability 30 = .ok (.invokevirtual 67, 3) := by decide +kernel
theorem dX6_capability_33 : decode cX6_capability 33 = .ok (.istore 5, 2) := by decide +kernel
theorem dX6_capability_35 : decode cX6_capability 35 = .ok (.iload 4, 2) := by decide +kernel
theorem dX6_capability_37 : decode cX6_capability 37 = .ok (.ifCond .eq 26, 3) := by decide +kernel
theorem dX6_capability_40 : decode cX6_capability 40 = .ok (.aload_n 0, 1) := by decide +kernel
theorem dX6_capability_41 : decode cX6_capability 41 = .ok (.getfield 33, 3) := by decide +kernel
theorem dX6_capability_44 : decode cX6_capability 44 = .ok (.iload 5, 2) := by decide +kernel
theorem dX6_capability_46 : decode cX6_capability 46 = .ok (.baload, 1) := by decide +kernel
theorem dX6_capability_47 : decode cX6_capability 47 = .ok (.ifCond .ne 16, 3) := by decide +kernel
theorem dX6_capability_50 : decode cX6_capability 50 = .ok (.aload_n 0, 1) := by decide +kernel
theorem dX6_capability_51 : decode cX6_capability 51 = .ok (.iload_n 1, 1) := by decide +kernel
theorem dX6_capability_52 : decode cX6_capability 52 = .ok (.iload_n 2, 1) := by decide +kernel
theorem dX6_capability_53 : decode cX6_capability 53 = .ok (.invokevirtual 139, 3) := by decide +kernel
theorem dX6_capability_56 : decode cX6_capability 56 = .ok (.bipush 40, 2) := by decide +kernel
theorem dX6_capability_58 : decode cX6_capability 58 = .ok (.if_icmp .ne 5, 3) := by decide +kernel
theorem dX6_capability_61 : decode cX6_capability 61 = .ok (.iconst (-1), 1) := by decide +kernel
theorem dX6_capability_62 : decode cX6_capability 62 = .ok (.ireturn, 1) := by decide +kernel
theorem dX6_capability_63 : decode cX6_capability 63 = .ok (.aload_n 0, 1) := by decide +kernel
theorem dX6_capability_64 : decode cX6_capability 64 = .ok (.getfield 33, 3) := by decide +kernel
theorem dX6_capability_67 : decode cX6_capability 67 = .ok (.iload 5, 2) := by decide +kernel
theorem dX6_capability_69 : decode cX6_capability 69 = .ok (.iload 4, 2) := by decide +kernel
theorem dX6_capability_71 : decode cX6_capability 71 = .ok (.bastore, 1) := by decide +kernel
theorem dX6_capability_72 : decode cX6_capability 72 = .ok (.aload_n 0, 1) := by decide +kernel
theorem dX6_capability_73 : decode cX6_capability 73 = .ok (.iload_n 1, 1) := by decide +kernel
theorem dX6_capability_74 : decode cX6_capability 74 = .ok (.iload_n 2, 1) := by decide +kernel
theorem dX6_capability_75 : decode cX6_capability 75 = .ok (.invokevirtual 139, 3) := by decide +kernel
theorem dX6_capability_78 : decode cX6_capability 78 = .ok (.ireturn, 1) := by decide +kernel
theorem dX6_file_0 : decode cX6_file 0 = .ok (.iload_n 1, 1) := by decide +kernel
theorem dX6_file_1 : decode cX6_file 1 = .ok (.iconst 0, 1) := by decide +kernel
theorem dX6_file_2 : decode cX6_file 2 = .ok (.bipush 63, 2) := by decide +kernel
theorem dX6_file_4 : decode cX6_file 4 = .ok (.invokestatic 63, 3) := by decide +kernel
theorem dX6_file_7 : decode cX6_file 7 = .ok (.ifCond .eq 15, 3) := by decide +kernel
theorem dX6_file_10 : decode cX6_file 10 = .ok (.iload_n 2, 1) := by decide +kernel
theorem dX6_file_11 : decode cX6_file 11 = .ok (.ifCond .lt 13, 3) := by decide +kernel
theorem dX6_file_14 : decode cX6_file 14 = .ok (.aload_n 0, 1) := by decide +kernel
theorem dX6_file_15 : decode cX6_file 15 = .ok (.iload_n 2, 1) := by decide +kernel
theorem dX6_file_16 : decode cX6_file 16 = .ok (.invokevirtual 147, 3) := by decide +kernel
theorem dX6_file_19 : decode cX6_file 19 = .ok (.ifCond .ne 5, 3) := by decide +kernel
theorem dX6_file_22 : decode cX6_file 22 = .ok (.iconst (-1), 1) := by decide +kernel
theorem dX6_file_23 : decode cX6_file 23 = .ok (.ireturn, 1) := by decide +kernel
theorem dX6_file_24 : decode cX6_file 24 = .ok (.aload_n 0, 1) := by decide +kernel
theorem dX6_file_25 : decode cX6_file 25 = .ok (.getfield 36, 3) := by decide +kernel
theorem dX6_file_28 : decode cX6_file 28 = .ok (.iload_n 1, 1) := by decide +kernel
theorem dX6_file_29 : decode cX6_file 29 = .ok (.baload, 1) := by decide +kernel
theorem dX6_file_30 : decode cX6_file 30 = .ok (.ifCond .ne 67, 3) := by decide +kernel
theorem dX6_file_33 : decode cX6_file 33 = .ok (.aload_n 0, 1) := by decide +kernel
theorem dX6_file_34 : decode cX6_file 34 = .ok (.getfield 36, 3) := by decide +kernel
theorem dX6_file_37 : decode cX6_file 37 = .ok (.iload_n 1, 1) := by decide +kernel
theorem dX6_file_38 : decode cX6_file 38 = .ok (.iconst 1, 1) := by decide +kernel
theorem dX6_file_39 : decode cX6_file 39 = .ok (.bastore, 1) := by decide +kernel
theorem dX6_file_40 : decode cX6_file 40 = .ok (.iconst 0, 1) := by decide +kernel
theorem dX6_file_41 : decode cX6_file 41 = .ok (.istore_n 3, 1) := by decide +kernel
theorem dX6_file_42 : decode cX6_file 42 = .ok (.iload_n 3, 1) := by decide +kernel
theorem dX6_file_43 : decode cX6_file 43 = .ok (.sipush 256, 3) := by decide +kernel
theorem dX6_file_46 : decode cX6_file 46 = .ok (.if_icmp .ge 25, 3) := by decide +kernel
theorem dX6_file_49 : decode cX6_file 49 = .ok (.aload_n 0, 1) := by decide +kernel
theorem dX6_file_50 : decode cX6_file 50 = .ok (.getfield 29, 3) := by decide +kernel
theorem dX6_file_53 : decode cX6_file 53 = .ok (.sipush 256, 3) := by decide +kernel
theorem dX6_file_56 : decode cX6_file 56 = .ok (.bipush 8, 2) := by decide +kernel
theorem dX6_file_58 : decode cX6_file 58 = .ok (.iload_n 1, 1) := by decide +kernel
theorem dX6_file_59 : decode cX6_file 59 = .ok (.iadd, 1) := by decide +kernel
theorem dX6_file_60 : decode cX6_file 60 = .ok (.imul, 1) := by decide +kernel
theorem dX6_file_61 : decode cX6_file 61 = .ok (.iload_n 3, 1) := by decide +kernel
theorem dX6_file_62 : decode cX6_file 62 = .ok (.iadd, 1) := by decide +kernel
theorem dX6_file_63 : decode cX6_file 63 = .ok (.iconst 0, 1) := by decide +kernel
theorem dX6_file_64 : decode cX6_file 64 = .ok (.bastore, 1) := by decide +kernel
theorem dX6_file_65 : decode cX6_file 65 = .ok (.iinc 3 1, 3) := by decide +kernel
theorem dX6_file_68 : decode cX6_file 68 = .ok (.goto (-26), 3) := by decide +kernel
theorem dX6_file_71 : decode cX6_file 71 = .ok (.iconst 0, 1) := by decide +kernel
theorem dX6_file_72 : decode cX6_file 72 = .ok (.istore_n 3, 1) := by decide +kernel
theorem dX6_file_73 : decode cX6_file 73 = .ok (.iload_n 3, 1) := by decide +kernel
theorem dX6_file_74 : decode cX6_file 74 = .ok (.bipush 8, 2) := by decide +kernel
theorem dX6_file_76 : decode cX6_file 76 = .ok (.if_icmp .ge 21, 3) := by decide +kernel
theorem dX6_file_79 : decode cX6_file 79 = .ok (.aload_n 0, 1) := by decide +kernel
theorem dX6_file_80 : decode cX6_file 80 = .ok (.getfield 39, 3) := by decide +kernel
theorem dX6_file_83 : decode cX6_file 83 = .ok (.bipush 8, 2) := by decide +kernel
theorem dX6_file_85 : decode cX6_file 85 = .ok (.iload_n 1, 1) := by decide +kernel
theorem dX6_file_86 : decode cX6_file 86 = .ok (.imul, 1) := by decide +kernel
theorem dX6_file_87 : decode cX6_file 87 = .ok (.iload_n 3, 1) := by decide +kernel
theorem dX6_file_88 : decode cX6_file 88 = .ok (.iadd, 1) := by decide +kernel
theorem dX6_file_89 : decode cX6_file 89 = .ok (.iconst 0, 1) := by decide +kernel
theorem dX6_file_90 : decode cX6_file 90 = .ok (.iastore, 1) := by decide +kernel
theorem dX6_file_91 : decode cX6_file 91 = .ok (.iinc 3 1, 3) := by decide +kernel
theorem dX6_file_94 : decode cX6_file 94 = .ok (.goto (-21), 3) := by decide +kernel
theorem dX6_file_97 : decode cX6_file 97 = .ok (.iload_n 2, 1) := by decide +kernel
theorem dX6_file_98 : decode cX6_file 98 = .ok (.ifCond .ge 14, 3) := by decide +kernel
theorem dX6_file_101 : decode cX6_file 101 = .ok (.aload_n 0, 1) := by decide +kernel
theorem dX6_file_102 : decode cX6_file 102 = .ok (.bipush 8, 2) := by decide +kernel
theorem dX6_file_104 : decode cX6_file 104 = .ok (.iload_n 1, 1) := by decide +kernel
theorem dX6_file_105 : decode cX6_file 105 = .ok (.iadd, 1) := by decide +kernel
theorem dX6_file_106 : decode cX6_file 106 = .ok (.invokevirtual 136, 3) := by decide +kernel
theorem dX6_file_109 : decode cX6_file 109 = .ok (.goto 13, 3) := by decide +kernel
theorem dX6_file_112 : decode cX6_file 112 = .ok (.aload_n 0, 1) := by decide +kernel
theorem dX6_file_113 : decode cX6_file 113 = .ok (.bipush 8, 2) := by decide +kernel
theorem dX6_file_115 : decode cX6_file 115 = .ok (.iload_n 1, 1) := by decide +kernel
theorem dX6_file_116 : decode cX6_file 116 = .ok (.iadd, 1) := by decide +kernel
theorem dX6_file_117 : decode cX6_file 117 = .ok (.iload_n 2, 1) := by decide +kernel
theorem dX6_file_118 : decode cX6_file 118 = .ok (.iconst 1, 1) := by decide +kernel
theorem dX6_file_119 : decode cX6_file 119 = .ok (.invokevirtual 150, 3) := by decide +kernel
theorem dX6_file_122 : decode cX6_file 122 = .ok (.ireturn, 1) := by decide +kernel
theorem dX6_isContent_0 : decode cX6_isContent 0 = .ok (.iload_n 1, 1) := by decide +kernel
theorem dX6_isContent_1 : decode cX6_isContent 1 = .ok (.iconst 0, 1) := by decide +kernel
theorem dX6_isContent_2 : decode cX6_isContent 2 = .ok (.bipush 63, 2) := by decide +kernel
theorem dX6_isContent_4 : decode cX6_isContent 4 = .ok (.invokestatic 63, 3) := by decide +kernel
theorem dX6_isContent_7 : decode cX6_isContent 7 = .ok (.ifCond .eq 26, 3) := by decide +kernel
theorem dX6_isContent_10 : decode cX6_isContent 10 = .ok (.aload_n 0, 1) := by decide +kernel
theorem dX6_isContent_11 : decode cX6_isContent 11 = .ok (.getfield 36, 3) := by decide +kernel
theorem dX6_isContent_14 : decode cX6_isContent 14 = .ok (.iload_n 1, 1) := by decide +kernel
theorem dX6_isContent_15 : decode cX6_isContent 15 = .ok (.baload, 1) := by decide +kernel
theorem dX6_isContent_16 : decode cX6_isContent 16 = .ok (.ifCond .eq 17, 3) := by decide +kernel
theorem dX6_isContent_19 : decode cX6_isContent 19 = .ok (.iload_n 2, 1) := by decide +kernel
theorem dX6_isContent_20 : decode cX6_isContent 20 = .ok (.iconst 0, 1) := by decide +kernel
theorem dX6_isContent_21 : decode cX6_isContent 21 = .ok (.bipush 7, 2) := by decide +kernel
theorem dX6_isContent_23 : decode cX6_isContent 23 = .ok (.invokestatic 63, 3) := by decide +kernel
theorem dX6_isContent_26 : decode cX6_isContent 26 = .ok (.ifCond .eq 7, 3) := by decide +kernel
theorem dX6_isContent_29 : decode cX6_isContent 29 = .ok (.iconst 1, 1) := by decide +kernel
theorem dX6_isContent_30 : decode cX6_isContent 30 = .ok (.goto 4, 3) := by decide +kernel
theorem dX6_isContent_33 : decode cX6_isContent 33 = .ok (.iconst 0, 1) := by decide +kernel
theorem dX6_isContent_34 : decode cX6_isContent 34 = .ok (.ireturn, 1) := by decide +kernel
theorem dX6_fill_0 : decode cX6_fill 0 = .ok (.aload_n 0, 1) := by decide +kernel
theorem dX6_fill_1 : decode cX6_fill 1 = .ok (.iload_n 1, 1) := by decide +kernel
theorem dX6_fill_2 : decode cX6_fill 2 = .ok (.iload_n 2, 1) := by decide +kernel
theorem dX6_fill_3 : decode cX6_fill 3 = .ok (.invokevirtual 154, 3) := by decide +kernel
theorem dX6_fill_6 : decode cX6_fill 6 = .ok (.ifCond .ne 5, 3) := by decide +kernel
theorem dX6_fill_9 : decode cX6_fill 9 = .ok (.iconst 0, 1) := by decide +kernel
theorem dX6_fill_10 : decode cX6_fill 10 = .ok (.ireturn, 1) := by decide +kernel
theorem dX6_fill_11 : decode cX6_fill 11 = .ok (.aload_n 0, 1) := by decide +kernel
theorem dX6_fill_12 : decode cX6_fill 12 = .ok (.getfield 39, 3) := by decide +kernel
theorem dX6_fill_15 : decode cX6_fill 15 = .ok (.bipush 8, 2) := by decide +kernel
theorem dX6_fill_17 : decode cX6_fill 17 = .ok (.iload_n 1, 1) := by decide +kernel
theorem dX6_fill_18 : decode cX6_fill 18 = .ok (.imul, 1) := by decide +kernel
theorem dX6_fill_19 : decode cX6_fill 19 = .ok (.iload_n 2, 1) := by decide +kernel
theorem dX6_fill_20 : decode cX6_fill 20 = .ok (.iadd, 1) := by decide +kernel
theorem dX6_fill_21 : decode cX6_fill 21 = .ok (.iaload, 1) := by decide +kernel
theorem dX6_fill_22 : decode cX6_fill 22 = .ok (.istore 4, 2) := by decide +kernel
theorem dX6_fill_24 : decode cX6_fill 24 = .ok (.aload_n 0, 1) := by decide +kernel
theorem dX6_fill_25 : decode cX6_fill 25 = .ok (.getfield 39, 3) := by decide +kernel
theorem dX6_fill_28 : decode cX6_fill 28 = .ok (.bipush 8, 2) := by decide +kernel
theorem dX6_fill_30 : decode cX6_fill 30 = .ok (.iload_n 1, 1) := by decide +kernel
theorem dX6_fill_31 : decode cX6_fill 31 = .ok (.imul, 1) := by decide +kernel
theorem dX6_fill_32 : decode cX6_fill 32 = .ok (.iload_n 2, 1) := by decide +kernel
theorem dX6_fill_33 : decode cX6_fill 33 = .ok (.iadd, 1) := by decide +kernel
theorem dX6_fill_34 : decode cX6_fill 34 = .ok (.iload_n 3, 1) := by decide +kernel
theorem dX6_fill_35 : decode cX6_fill 35 = .ok (.iastore, 1) := by decide +kernel
theorem dX6_fill_36 : decode cX6_fill 36 = .ok (.iload 4, 2) := by decide +kernel
theorem dX6_fill_38 : decode cX6_fill 38 = .ok (.ireturn, 1) := by decide +kernel
theorem dX6_post_0 : decode cX6_post 0 = .ok (.iload_n 1, 1) := by decide +kernel
theorem dX6_post_1 : decode cX6_post 1 = .ok (.invokestatic 75, 3) := by decide +kernel
theorem dX6_post_4 : decode cX6_post 4 = .ok (.ifCond .eq 21, 3) := by decide +kernel
theorem dX6_post_7 : decode cX6_post 7 = .ok (.iload_n 2, 1) := by decide +kernel
theorem dX6_post_8 : decode cX6_post 8 = .ok (.invokestatic 75, 3) := by decide +kernel
theorem dX6_post_11 : decode cX6_post 11 = .ok (.ifCond .eq 14, 3) := by decide +kernel
theorem dX6_post_14 : decode cX6_post 14 = .ok (.aload_n 0, 1) := by decide +kernel
theorem dX6_post_15 : decode cX6_post 15 = .ok (.getfield 42, 3) := by decide +kernel
theorem dX6_post_18 : decode cX6_post 18 = .ok (.iload_n 2, 1) := by decide +kernel
theorem dX6_post_19 : decode cX6_post 19 = .ok (.iaload, 1) := by decide +kernel
theorem dX6_post_20 : decode cX6_post 20 = .ok (.bipush 8, 2) := by decide +kernel
theorem dX6_post_22 : decode cX6_post 22 = .ok (.if_icmp .ne 5, 3) := by decide +kernel
theorem dX6_post_25 : decode cX6_post 25 = .ok (.iconst (-1), 1) := by decide +kernel
theorem dX6_post_26 : decode cX6_post 26 = .ok (.ireturn, 1) := by decide +kernel
theorem dX6_post_27 : decode cX6_post 27 = .ok (.aload_n 0, 1) := by decide +kernel
theorem dX6_post_28 : decode cX6_post 28 = .ok (.iload_n 1, 1) := by decide +kernel
theorem dX6_post_29 : decode cX6_post 29 = .ok (.iload_n 2, 1) := by decide +kernel
theorem dX6_post_30 : decode cX6_post 30 = .ok (.iload_n 3, 1) := by decide +kernel
theorem dX6_post_31 : decode cX6_post 31 = .ok (.iconst (-1), 1) := by decide +kernel
theorem dX6_post_32 : decode cX6_post 32 = .ok (.invokevirtual 83, 3) := by decide +kernel
theorem dX6_post_35 : decode cX6_post 35 = .ok (.aload_n 0, 1) := by decide +kernel
theorem dX6_post_36 : decode cX6_post 36 = .ok (.getfield 42, 3) := by decide +kernel
theorem dX6_post_39 : decode cX6_post 39 = .ok (.iload_n 2, 1) := by decide +kernel
theorem dX6_post_40 : decode cX6_post 40 = .ok (.iaload, 1) := by decide +kernel
theorem dX6_post_41 : decode cX6_post 41 = .ok (.ireturn, 1) := by decide +kernel
theorem dX6_run_0 : decode cX6_run 0 = .ok (.iload_n 1, 1) := by decide +kernel
theorem dX6_run_1 : decode cX6_run 1 = .ok (.iconst 0, 1) := by decide +kernel
theorem dX6_run_2 : decode cX6_run 2 = .ok (.sipush 5000, 3) := by decide +kernel
theorem dX6_run_5 : decode cX6_run 5 = .ok (.invokestatic 63, 3) := by decide +kernel
theorem dX6_run_8 : decode cX6_run 8 = .ok (.ifCond .ne 5, 3) := by decide +kernel
theorem dX6_run_11 : decode cX6_run 11 = .ok (.iconst (-1), 1) := by decide +kernel
theorem dX6_run_12 : decode cX6_run 12 = .ok (.ireturn, 1) := by decide +kernel
theorem dX6_run_13 : decode cX6_run 13 = .ok (.iconst 0, 1) := by decide +kernel
theorem dX6_run_14 : decode cX6_run 14 = .ok (.istore_n 2, 1) := by decide +kernel
theorem dX6_run_15 : decode cX6_run 15 = .ok (.iload_n 2, 1) := by decide +kernel
theorem dX6_run_16 : decode cX6_run 16 = .ok (.iload_n 1, 1) := by decide +kernel
theorem dX6_run_17 : decode cX6_run 17 = .ok (.if_icmp .ge 30, 3) := by decide +kernel
theorem dX6_run_20 : decode cX6_run 20 = .ok (.aload_n 0, 1) := by decide +kernel
theorem dX6_run_21 : decode cX6_run 21 = .ok (.aload_n 0, 1) := by decide +kernel
theorem dX6_run_22 : decode cX6_run 22 = .ok (.getfield 157, 3) := by decide +kernel
theorem dX6_run_25 : decode cX6_run 25 = .ok (.bipush 8, 2) := by decide +kernel
theorem dX6_run_27 : decode cX6_run 27 = .ok (.irem, 1) := by decide +kernel
theorem dX6_run_28 : decode cX6_run 28 = .ok (.invokevirtual 161, 3) := by decide +kernel
theorem dX6_run_31 : decode cX6_run 31 = .ok (.aload_n 0, 1) := by decide +kernel
theorem dX6_run_32 : decode cX6_run 32 = .ok (.dup, 1) := by decide +kernel
theorem dX6_run_33 : decode cX6_run 33 = .ok (.getfield 157, 3) := by decide +kernel
theorem dX6_run_36 : decode cX6_run 36 = .ok (.iconst 1, 1) := by decide +kernel
theorem dX6_run_37 : decode cX6_run 37 = .ok (.iadd, 1) := by decide +kernel
theorem dX6_run_38 : decode cX6_run 38 = .ok (.putfield 157, 3) := by decide +kernel
theorem dX6_run_41 : decode cX6_run 41 = .ok (.iinc 2 1, 3) := by decide +kernel
theorem dX6_run_44 : decode cX6_run 44 = .ok (.goto (-29), 3) := by decide +kernel
theorem dX6_run_47 : decode cX6_run 47 = .ok (.aload_n 0, 1) := by decide +kernel
theorem dX6_run_48 : decode cX6_run 48 = .ok (.getfield 157, 3) := by decide +kernel
theorem dX6_run_51 : decode cX6_run 51 = .ok (.ireturn, 1) := by decide +kernel
theorem dX6_cell_0 : decode cX6_cell 0 = .ok (.iload_n 1, 1) := by decide +kernel
theorem dX6_cell_1 : decode cX6_cell 1 = .ok (.invokestatic 75, 3) := by decide +kernel
theorem dX6_cell_4 : decode cX6_cell 4 = .ok (.ifCond .eq 25, 3) := by decide +kernel
theorem dX6_cell_7 : decode cX6_cell 7 = .ok (.iload_n 2, 1) := by decide +kernel
theorem dX6_cell_8 : decode cX6_cell 8 = .ok (.invokestatic 87, 3) := by decide +kernel
theorem dX6_cell_11 : decode cX6_cell 11 = .ok (.ifCond .eq 18, 3) := by decide +kernel
theorem dX6_cell_14 : decode cX6_cell 14 = .ok (.aload_n 0, 1) := by decide +kernel
theorem dX6_cell_15 : decode cX6_cell 15 = .ok (.getfield 9, 3) := by decide +kernel
theorem dX6_cell_18 : decode cX6_cell 18 = .ok (.sipush 128, 3) := by decide +kernel
theorem dX6_cell_21 : decode cX6_cell 21 = .ok (.iload_n 1, 1) := by decide +kernel
theorem dX6_cell_22 : decode cX6_cell 22 = .ok (.imul, 1) := by decide +kernel
theorem dX6_cell_23 : decode cX6_cell 23 = .ok (.iload_n 2, 1) := by decide +kernel
theorem dX6_cell_24 : decode cX6_cell 24 = .ok (.iadd, 1) := by decide +kernel
theorem dX6_cell_25 : decode cX6_cell 25 = .ok (.iaload, 1) := by decide +kernel
theorem dX6_cell_26 : decode cX6_cell 26 = .ok (.goto 4, 3) := by decide +kernel
theorem dX6_cell_29 : decode cX6_cell 29 = .ok (.iconst 0, 1) := by decide +kernel
theorem dX6_cell_30 : decode cX6_cell 30 = .ok (.ireturn, 1) := by decide +kernel
theorem dX6_slot_0 : decode cX6_slot 0 = .ok (.iload_n 1, 1) := by decide +kernel
theorem dX6_slot_1 : decode cX6_slot 1 = .ok (.invokestatic 75, 3) := by decide +kernel
theorem dX6_slot_4 : decode cX6_slot 4 = .ok (.ifCond .ne 5, 3) := by decide +kernel
theorem dX6_slot_7 : decode cX6_slot 7 = .ok (.iconst (-1), 1) := by decide +kernel
theorem dX6_slot_8 : decode cX6_slot 8 = .ok (.ireturn, 1) := by decide +kernel
theorem dX6_slot_9 : decode cX6_slot 9 = .ok (.iload_n 2, 1) := by decide +kernel
theorem dX6_slot_10 : decode cX6_slot 10 = .ok (.tableswitch 173 0 10 #[58, 65, 72, 79, 86, 92, 99, 106, 113, 120, 166], 58) := by decide +kernel
theorem dX6_slot_68 : decode cX6_slot 68 = .ok (.aload_n 0, 1) := by decide +kernel
theorem dX6_slot_69 : decode cX6_slot 69 = .ok (.getfield 19, 3) := by decide +kernel
theorem dX6_slot_72 : decode cX6_slot 72 = .ok (.iload_n 1, 1) := by decide +kernel
theorem dX6_slot_73 : decode cX6_slot 73 = .ok (.iaload, 1) := by decide +kernel
theorem dX6_slot_74 : decode cX6_slot 74 = .ok (.ireturn, 1) := by decide +kernel
theorem dX6_slot_75 : decode cX6_slot 75 = .ok (.aload_n 0, 1) := by decide +kernel
theorem dX6_slot_76 : decode cX6_slot 76 = .ok (.getfield 22, 3) := by decide +kernel
theorem dX6_slot_79 : decode cX6_slot 79 = .ok (.iload_n 1, 1) := by decide +kernel
theorem dX6_slot_80 : decode cX6_slot 80 = .ok (.iaload, 1) := by decide +kernel
theorem dX6_slot_81 : decode cX6_slot 81 = .ok (.ireturn, 1) := by decide +kernel
theorem dX6_slot_82 : decode cX6_slot 82 = .ok (.aload_n 0, 1) := by decide +kernel
theorem dX6_slot_83 : decode cX6_slot 83 = .ok (.getfield 13, 3) := by decide +kernel
theorem dX6_slot_86 : decode cX6_slot 86 = .ok (.iload_n 1, 1) := by decide +kernel
theorem dX6_slot_87 : decode cX6_slot 87 = .ok (.iaload, 1) := by decide +kernel
theorem dX6_slot_88 : decode cX6_slot 88 = .ok (.ireturn, 1) := by decide +kernel
theorem dX6_slot_89 : decode cX6_slot 89 = .ok (.aload_n 0, 1) := by decide +kernel
theorem dX6_slot_90 : decode cX6_slot 90 = .ok (.getfield 16, 3) := by decide +kernel
theorem dX6_slot_93 : decode cX6_slot 93 = .ok (.iload_n 1, 1) := by decide +kernel
theorem dX6_slot_94 : decode cX6_slot 94 = .ok (.iaload, 1) := by decide +kernel
theorem dX6_slot_95 : decode cX6_slot 95 = .ok (.ireturn, 1) := by decide +kernel
theorem dX6_slot_96 : decode cX6_slot 96 = .ok (.aload_n 0, 1) := by decide +kernel
theorem dX6_slot_97 : decode cX6_slot 97 = .ok (.iload_n 1, 1) := by decide +kernel
theorem dX6_slot_98 : decode cX6_slot 98 = .ok (.invokevirtual 136, 3) := by decide +kernel
theorem dX6_slot_101 : decode cX6_slot 101 = .ok (.ireturn, 1) := by decide +kernel
theorem dX6_slot_102 : decode cX6_slot 102 = .ok (.aload_n 0, 1) := by decide +kernel
theorem dX6_slot_103 : decode cX6_slot 103 = .ok (.getfield 25, 3) := by decide +kernel
theorem dX6_slot_106 : decode cX6_slot 106 = .ok (.iload_n 1, 1) := by decide +kernel
theorem dX6_slot_107 : decode cX6_slot 107 = .ok (.iaload, 1) := by decide +kernel
theorem dX6_slot_108 : decode cX6_slot 108 = .ok (.ireturn, 1) := by decide +kernel
theorem dX6_slot_109 : decode cX6_slot 109 = .ok (.aload_n 0, 1) := by decide +kernel
theorem dX6_slot_110 : decode cX6_slot 110 = .ok (.iload_n 1, 1) := by decide +kernel
theorem dX6_slot_111 : decode cX6_slot 111 = .ok (.iconst 0, 1) := by decide +kernel
theorem dX6_slot_112 : decode cX6_slot 112 = .ok (.invokevirtual 139, 3) := by decide +kernel
theorem dX6_slot_115 : decode cX6_slot 115 = .ok (.ireturn, 1) := by decide +kernel
theorem dX6_slot_116 : decode cX6_slot 116 = .ok (.aload_n 0, 1) := by decide +kernel
theorem dX6_slot_117 : decode cX6_slot 117 = .ok (.iload_n 1, 1) := by decide +kernel
theorem dX6_slot_118 : decode cX6_slot 118 = .ok (.iconst 1, 1) := by decide +kernel
theorem dX6_slot_119 : decode cX6_slot 119 = .ok (.invokevirtual 139, 3) := by decide +kernel
theorem dX6_slot_122 : decode cX6_slot 122 = .ok (.ireturn, 1) := by decide +kernel
theorem dX6_slot_123 : decode cX6_slot 123 = .ok (.aload_n 0, 1) := by decide +kernel
theorem dX6_slot_124 : decode cX6_slot 124 = .ok (.getfield 42, 3) := by decide +kernel
theorem dX6_slot_127 : decode cX6_slot 127 = .ok (.iload_n 1, 1) := by decide +kernel
theorem dX6_slot_128 : decode cX6_slot 128 = .ok (.iaload, 1) := by decide +kernel
theorem dX6_slot_129 : decode cX6_slot 129 = .ok (.ireturn, 1) := by decide +kernel
theorem dX6_slot_130 : decode cX6_slot 130 = .ok (.iconst 0, 1) := by decide +kernel
theorem dX6_slot_131 : decode cX6_slot 131 = .ok (.istore_n 3, 1) := by decide +kernel
theorem dX6_slot_132 : decode cX6_slot 132 = .ok (.bipush 8, 2) := by decide +kernel
theorem dX6_slot_134 : decode cX6_slot 134 = .ok (.iload_n 1, 1) := by decide +kernel
theorem dX6_slot_135 : decode cX6_slot 135 = .ok (.imul, 1) := by decide +kernel
theorem dX6_slot_136 : decode cX6_slot 136 = .ok (.istore 4, 2) := by decide +kernel
theorem dX6_slot_138 : decode cX6_slot 138 = .ok (.iload 4, 2) := by decide +kernel
theorem dX6_slot_140 : decode cX6_slot 140 = .ok (.bipush 8, 2) := by decide +kernel
theorem dX6_slot_142 : decode cX6_slot 142 = .ok (.iload_n 1, 1) := by decide +kernel
theorem dX6_slot_143 : decode cX6_slot 143 = .ok (.imul, 1) := by decide +kernel
theorem dX6_slot_144 : decode cX6_slot 144 = .ok (.bipush 8, 2) := by decide +kernel
theorem dX6_slot_146 : decode cX6_slot 146 = .ok (.iadd, 1) := by decide +kernel
theorem dX6_slot_147 : decode cX6_slot 147 = .ok (.if_icmp .ge 27, 3) := by decide +kernel
theorem dX6_slot_150 : decode cX6_slot 150 = .ok (.iload_n 3, 1) := by decide +kernel
theorem dX6_slot_151 : decode cX6_slot 151 = .ok (.aload_n 0, 1) := by decide +kernel
theorem dX6_slot_152 : decode cX6_slot 152 = .ok (.getfield 36, 3) := by decide +kernel
theorem dX6_slot_155 : decode cX6_slot 155 = .ok (.iload 4, 2) := by decide +kernel
theorem dX6_slot_157 : decode cX6_slot 157 = .ok (.baload, 1) := by decide +kernel
theorem dX6_slot_158 : decode cX6_slot 158 = .ok (.ifCond .eq 7, 3) := by decide +kernel
theorem dX6_slot_161 : decode cX6_slot 161 = .ok (.iconst 1, 1) := by decide +kernel
theorem dX6_slot_162 : decode cX6_slot 162 = .ok (.goto 4, 3) := by decide +kernel
theorem dX6_slot_165 : decode cX6_slot 165 = .ok (.iconst 0, 1) := by decide +kernel
theorem dX6_slot_166 : decode cX6_slot 166 = .ok (.iadd, 1) := by decide +kernel
theorem dX6_slot_167 : decode cX6_slot 167 = .ok (.istore_n 3, 1) := by decide +kernel
theorem dX6_slot_168 : decode cX6_slot 168 = .ok (.iinc 4 1, 3) := by decide +kernel
theorem dX6_slot_171 : decode cX6_slot 171 = .ok (.goto (-33), 3) := by decide +kernel
theorem dX6_slot_174 : decode cX6_slot 174 = .ok (.iload_n 3, 1) := by decide +kernel
theorem dX6_slot_175 : decode cX6_slot 175 = .ok (.ireturn, 1) := by decide +kernel
theorem dX6_slot_176 : decode cX6_slot 176 = .ok (.aload_n 0, 1) := by decide +kernel
theorem dX6_slot_177 : decode cX6_slot 177 = .ok (.getfield 54, 3) := by decide +kernel
theorem dX6_slot_180 : decode cX6_slot 180 = .ok (.iload_n 1, 1) := by decide +kernel
theorem dX6_slot_181 : decode cX6_slot 181 = .ok (.iaload, 1) := by decide +kernel
theorem dX6_slot_182 : decode cX6_slot 182 = .ok (.ireturn, 1) := by decide +kernel
theorem dX6_slot_183 : decode cX6_slot 183 = .ok (.iconst (-1), 1) := by decide +kernel
theorem dX6_slot_184 : decode cX6_slot 184 = .ok (.ireturn, 1) := by decide +kernel
theorem dX6_label_0 : decode cX6_label 0 = .ok (.iconst 0, 1) := by decide +kernel
theorem dX6_label_1 : decode cX6_label 1 = .ok (.istore_n 3, 1) := by decide +kernel
theorem dX6_label_2 : decode cX6_label 2 = .ok (.iconst 0, 1) := by decide +kernel
theorem dX6_label_3 : decode cX6_label 3 = .ok (.istore 4, 2) := by decide +kernel
theorem dX6_label_5 : decode cX6_label 5 = .ok (.iload 4, 2) := by decide +kernel
theorem dX6_label_7 : decode cX6_label 7 = .ok (.sipush 256, 3) := by decide +kernel
theorem dX6_label_10 : decode cX6_label 10 = .ok (.if_icmp .ge 46, 3) := by decide +kernel
theorem dX6_label_13 : decode cX6_label 13 = .ok (.iload_n 1, 1) := by decide +kernel
theorem dX6_label_14 : decode cX6_label 14 = .ok (.invokestatic 75, 3) := by decide +kernel
theorem dX6_label_17 : decode cX6_label 17 = .ok (.ifCond .eq 39, 3) := by decide +kernel
theorem dX6_label_20 : decode cX6_label 20 = .ok (.aload_n 0, 1) := by decide +kernel
theorem dX6_label_21 : decode cX6_label 21 = .ok (.getfield 29, 3) := by decide +kernel
theorem dX6_label_24 : decode cX6_label 24 = .ok (.sipush 256, 3) := by decide +kernel
theorem dX6_label_27 : decode cX6_label 27 = .ok (.iload_n 1, 1) := by decide +kernel
theorem dX6_label_28 : decode cX6_label 28 = .ok (.imul, 1) := by decide +kernel
theorem dX6_label_29 : decode cX6_label 29 = .ok (.iload 4, 2) := by decide +kernel
theorem dX6_label_31 : decode cX6_label 31 = .ok (.iadd, 1) := by decide +kernel
theorem dX6_label_32 : decode cX6_label 32 = .ok (.baload, 1) := by decide +kernel
theorem dX6_label_33 : decode cX6_label 33 = .ok (.ifCond .ne 6, 3) := by decide +kernel
theorem dX6_label_36 : decode cX6_label 36 = .ok (.goto 14, 3) := by decide +kernel
theorem dX6_label_39 : decode cX6_label 39 = .ok (.iload_n 3, 1) := by decide +kernel
theorem dX6_label_40 : decode cX6_label 40 = .ok (.iload_n 2, 1) := by decide +kernel
theorem dX6_label_41 : decode cX6_label 41 = .ok (.if_icmp .ne 6, 3) := by decide +kernel
theorem dX6_label_44 : decode cX6_label 44 = .ok (.iload 4, 2) := by decide +kernel
theorem dX6_label_46 : decode cX6_label 46 = .ok (.ireturn, 1) := by decide +kernel
theorem dX6_label_47 : decode cX6_label 47 = .ok (.iinc 3 1, 3) := by decide +kernel
theorem dX6_label_50 : decode cX6_label 50 = .ok (.iinc 4 1, 3) := by decide +kernel
theorem dX6_label_53 : decode cX6_label 53 = .ok (.goto (-48), 3) := by decide +kernel
theorem dX6_label_56 : decode cX6_label 56 = .ok (.iconst (-1), 1) := by decide +kernel
theorem dX6_label_57 : decode cX6_label 57 = .ok (.ireturn, 1) := by decide +kernel
theorem dX6_isOutput_0 : decode cX6_isOutput 0 = .ok (.iload_n 1, 1) := by decide +kernel
theorem dX6_isOutput_1 : decode cX6_isOutput 1 = .ok (.invokestatic 75, 3) := by decide +kernel
theorem dX6_isOutput_4 : decode cX6_isOutput 4 = .ok (.ifCond .eq 23, 3) := by decide +kernel
theorem dX6_isOutput_7 : decode cX6_isOutput 7 = .ok (.iload_n 2, 1) := by decide +kernel
theorem dX6_isOutput_8 : decode cX6_isOutput 8 = .ok (.iconst 0, 1) := by decide +kernel
theorem dX6_isOutput_9 : decode cX6_isOutput 9 = .ok (.aload_n 0, 1) := by decide +kernel
theorem dX6_isOutput_10 : decode cX6_isOutput 10 = .ok (.getfield 54, 3) := by decide +kernel
theorem dX6_isOutput_13 : decode cX6_isOutput 13 = .ok (.iload_n 1, 1) := by decide +kernel
theorem dX6_isOutput_14 : decode cX6_isOutput 14 = .ok (.iaload, 1) := by decide +kernel
theorem dX6_isOutput_15 : decode cX6_isOutput 15 = .ok (.iconst 1, 1) := by decide +kernel
theorem dX6_isOutput_16 : decode cX6_isOutput 16 = .ok (.isub, 1) := by decide +kernel
theorem dX6_isOutput_17 : decode cX6_isOutput 17 = .ok (.invokestatic 63, 3) := by decide +kernel
theorem dX6_isOutput_20 : decode cX6_isOutput 20 = .ok (.ifCond .eq 7, 3) := by decide +kernel
theorem dX6_isOutput_23 : decode cX6_isOutput 23 = .ok (.iconst 1, 1) := by decide +kernel
theorem dX6_isOutput_24 : decode cX6_isOutput 24 = .ok (.goto 4, 3) := by decide +kernel
theorem dX6_isOutput_27 : decode cX6_isOutput 27 = .ok (.iconst 0, 1) := by decide +kernel
theorem dX6_isOutput_28 : decode cX6_isOutput 28 = .ok (.ireturn, 1) := by decide +kernel
theorem dX6_output_0 : decode cX6_output 0 = .ok (.aload_n 0, 1) := by decide +kernel
theorem dX6_output_1 : decode cX6_output 1 = .ok (.iload_n 1, 1) := by decide +kernel
theorem dX6_output_2 : decode cX6_output 2 = .ok (.iload_n 2, 1) := by decide +kernel
theorem dX6_output_3 : decode cX6_output 3 = .ok (.invokevirtual 164, 3) := by decide +kernel
theorem dX6_output_6 : decode cX6_output 6 = .ok (.ifCond .eq 17, 3) := by decide +kernel
theorem dX6_output_9 : decode cX6_output 9 = .ok (.aload_n 0, 1) := by decide +kernel
theorem dX6_output_10 : decode cX6_output 10 = .ok (.getfield 57, 3) := by decide +kernel
theorem dX6_output_13 : decode cX6_output 13 = .ok (.bipush 64, 2) := by decide +kernel
theorem dX6_output_15 : decode cX6_output 15 = .ok (.iload_n 1, 1) := by decide +kernel
theorem dX6_output_16 : decode cX6_output 16 = .ok (.imul, 1) := by decide +kernel
theorem dX6_output_17 : decode cX6_output 17 = .ok (.iload_n 2, 1) := by decide +kernel
theorem dX6_output_18 : decode cX6_output 18 = .ok (.iadd, 1) := by decide +kernel
theorem dX6_output_19 : decode cX6_output 19 = .ok (.iaload, 1) := by decide +kernel
theorem dX6_output_20 : decode cX6_output 20 = .ok (.goto 4, 3) := by decide +kernel
theorem dX6_output_23 : decode cX6_output 23 = .ok (.iconst 0, 1) := by decide +kernel
theorem dX6_output_24 : decode cX6_output 24 = .ok (.ireturn, 1) := by decide +kernel
theorem dX6_outputTags_0 : decode cX6_outputTags 0 = .ok (.aload_n 0, 1) := by decide +kernel
theorem dX6_outputTags_1 : decode cX6_outputTags 1 = .ok (.iload_n 1, 1) := by decide +kernel
theorem dX6_outputTags_2 : decode cX6_outputTags 2 = .ok (.iload_n 2, 1) := by decide +kernel
theorem dX6_outputTags_3 : decode cX6_outputTags 3 = .ok (.invokevirtual 164, 3) := by decide +kernel
theorem dX6_outputTags_6 : decode cX6_outputTags 6 = .ok (.ifCond .eq 17, 3) := by decide +kernel
theorem dX6_outputTags_9 : decode cX6_outputTags 9 = .ok (.aload_n 0, 1) := by decide +kernel
theorem dX6_outputTags_10 : decode cX6_outputTags 10 = .ok (.getfield 60, 3) := by decide +kernel
theorem dX6_outputTags_13 : decode cX6_outputTags 13 = .ok (.bipush 64, 2) := by decide +kernel
theorem dX6_outputTags_15 : decode cX6_outputTags 15 = .ok (.iload_n 1, 1) := by decide +kernel
theorem dX6_outputTags_16 : decode cX6_outputTags 16 = .ok (.imul, 1) := by decide +kernel
theorem dX6_outputTags_17 : decode cX6_outputTags 17 = .ok (.iload_n 2, 1) := by decide +kernel
theorem dX6_outputTags_18 : decode cX6_outputTags 18 = .ok (.iadd, 1) := by decide +kernel
theorem dX6_outputTags_19 : decode cX6_outputTags 19 = .ok (.iaload, 1) := by decide +kernel
theorem dX6_outputTags_20 : decode cX6_outputTags 20 = .ok (.goto 4, 3) := by decide +kernel
theorem dX6_outputTags_23 : decode cX6_outputTags 23 = .ok (.iconst (-1), 1) := by decide +kernel
theorem dX6_outputTags_24 : decode cX6_outputTags 24 = .ok (.ireturn, 1) := by decide +kernel
theorem dX6_content_0 : decode cX6_content 0 = .ok (.aload_n 0, 1) := by decide +kernel
theorem dX6_content_1 : decode cX6_content 1 = .ok (.iload_n 1, 1) := by decide +kernel
theorem dX6_content_2 : decode cX6_content 2 = .ok (.iload_n 2, 1) := by decide +kernel
theorem dX6_content_3 : decode cX6_content 3 = .ok (.invokevirtual 154, 3) := by decide +kernel
theorem dX6_content_6 : decode cX6_content 6 = .ok (.ifCond .eq 17, 3) := by decide +kernel
theorem dX6_content_9 : decode cX6_content 9 = .ok (.aload_n 0, 1) := by decide +kernel
theorem dX6_content_10 : decode cX6_content 10 = .ok (.getfield 39, 3) := by decide +kernel
theorem dX6_content_13 : decode cX6_content 13 = .ok (.bipush 8, 2) := by decide +kernel
theorem dX6_content_15 : decode cX6_content 15 = .ok (.iload_n 1, 1) := by decide +kernel
theorem dX6_content_16 : decode cX6_content 16 = .ok (.imul, 1) := by decide +kernel
theorem dX6_content_17 : decode cX6_content 17 = .ok (.iload_n 2, 1) := by decide +kernel
theorem dX6_content_18 : decode cX6_content 18 = .ok (.iadd, 1) := by decide +kernel
theorem dX6_content_19 : decode cX6_content 19 = .ok (.iaload, 1) := by decide +kernel
theorem dX6_content_20 : decode cX6_content 20 = .ok (.goto 4, 3) := by decide +kernel
theorem dX6_content_23 : decode cX6_content 23 = .ok (.iconst 0, 1) := by decide +kernel
theorem dX6_content_24 : decode cX6_content 24 = .ok (.ireturn, 1) := by decide +kernel
theorem dX6_fileTags_0 : decode cX6_fileTags 0 = .ok (.iload_n 1, 1) := by decide +kernel
theorem dX6_fileTags_1 : decode cX6_fileTags 1 = .ok (.iconst 0, 1) := by decide +kernel
theorem dX6_fileTags_2 : decode cX6_fileTags 2 = .ok (.bipush 63, 2) := by decide +kernel
theorem dX6_fileTags_4 : decode cX6_fileTags 4 = .ok (.invokestatic 63, 3) := by decide +kernel
theorem dX6_fileTags_7 : decode cX6_fileTags 7 = .ok (.ifCond .eq 23, 3) := by decide +kernel
theorem dX6_fileTags_10 : decode cX6_fileTags 10 = .ok (.aload_n 0, 1) := by decide +kernel
theorem dX6_fileTags_11 : decode cX6_fileTags 11 = .ok (.getfield 36, 3) := by decide +kernel
theorem dX6_fileTags_14 : decode cX6_fileTags 14 = .ok (.iload_n 1, 1) := by decide +kernel
theorem dX6_fileTags_15 : decode cX6_fileTags 15 = .ok (.baload, 1) := by decide +kernel
theorem dX6_fileTags_16 : decode cX6_fileTags 16 = .ok (.ifCond .eq 14, 3) := by decide +kernel
theorem dX6_fileTags_19 : decode cX6_fileTags 19 = .ok (.aload_n 0, 1) := by decide +kernel
theorem dX6_fileTags_20 : decode cX6_fileTags 20 = .ok (.bipush 8, 2) := by decide +kernel
theorem dX6_fileTags_22 : decode cX6_fileTags 22 = .ok (.iload_n 1, 1) := by decide +kernel
theorem dX6_fileTags_23 : decode cX6_fileTags 23 = .ok (.iadd, 1) := by decide +kernel
theorem dX6_fileTags_24 : decode cX6_fileTags 24 = .ok (.invokevirtual 136, 3) := by decide +kernel
theorem dX6_fileTags_27 : decode cX6_fileTags 27 = .ok (.goto 4, 3) := by decide +kernel
theorem dX6_fileTags_30 : decode cX6_fileTags 30 = .ok (.iconst (-1), 1) := by decide +kernel
theorem dX6_fileTags_31 : decode cX6_fileTags 31 = .ok (.ireturn, 1) := by decide +kernel
theorem dX6_mayFlow_0 : decode cX6_mayFlow 0 = .ok (.iload_n 1, 1) := by decide +kernel
theorem dX6_mayFlow_1 : decode cX6_mayFlow 1 = .ok (.invokestatic 75, 3) := by decide +kernel
theorem dX6_mayFlow_4 : decode cX6_mayFlow 4 = .ok (.ifCond .eq 23, 3) := by decide +kernel
theorem dX6_mayFlow_7 : decode cX6_mayFlow 7 = .ok (.iload_n 2, 1) := by decide +kernel
theorem dX6_mayFlow_8 : decode cX6_mayFlow 8 = .ok (.invokestatic 75, 3) := by decide +kernel
theorem dX6_mayFlow_11 : decode cX6_mayFlow 11 = .ok (.ifCond .eq 16, 3) := by decide +kernel
theorem dX6_mayFlow_14 : decode cX6_mayFlow 14 = .ok (.aload_n 0, 1) := by decide +kernel
theorem dX6_mayFlow_15 : decode cX6_mayFlow 15 = .ok (.iload_n 1, 1) := by decide +kernel
theorem dX6_mayFlow_16 : decode cX6_mayFlow 16 = .ok (.iload_n 2, 1) := by decide +kernel
theorem dX6_mayFlow_17 : decode cX6_mayFlow 17 = .ok (.invokevirtual 79, 3) := by decide +kernel
theorem dX6_mayFlow_20 : decode cX6_mayFlow 20 = .ok (.ifCond .eq 7, 3) := by decide +kernel
theorem dX6_mayFlow_23 : decode cX6_mayFlow 23 = .ok (.iconst 1, 1) := by decide +kernel
theorem dX6_mayFlow_24 : decode cX6_mayFlow 24 = .ok (.goto 4, 3) := by decide +kernel
theorem dX6_mayFlow_27 : decode cX6_mayFlow 27 = .ok (.iconst 0, 1) := by decide +kernel
theorem dX6_mayFlow_28 : decode cX6_mayFlow 28 = .ok (.ireturn, 1) := by decide +kernel
