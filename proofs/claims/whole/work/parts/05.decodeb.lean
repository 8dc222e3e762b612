theorem dX6_entryOf_55 : decode cX6_entryOf 55 = .ok (.ireturn, 1) := by decide +kernel
theorem dX6_score_0 : decode cX6_score 0 = .ok (.aload_n 0, 1) := by decide +kernel
theorem dX6_score_1 : decode cX6_score 1 = .ok (.iload_n 1, 1) := by decide +kernel
theorem dX6_score_2 : decode cX6_score 2 = .ok (.invokevirtual 122, 3) := by decide +kernel
theorem dX6_score_5 : decode cX6_score 5 = .ok (.iconst 0, 1) := by decide +kernel
theorem dX6_score_6 : decode cX6_score 6 = .ok (.istore_n 2, 1) := by decide +kernel
theorem dX6_score_7 : decode cX6_score 7 = .ok (.iconst 0, 1) := by decide +kernel
theorem dX6_score_8 : decode cX6_score 8 = .ok (.istore_n 3, 1) := by decide +kernel
theorem dX6_score_9 : decode cX6_score 9 = .ok (.iconst 0, 1) := by decide +kernel
theorem dX6_score_10 : decode cX6_score 10 = .ok (.istore 4, 2) := by decide +kernel
theorem dX6_score_12 : decode cX6_score 12 = .ok (.iconst 0, 1) := by decide +kernel
theorem dX6_score_13 : decode cX6_score 13 = .ok (.istore 5, 2) := by decide +kernel
theorem dX6_score_15 : decode cX6_score 15 = .ok (.iload 5, 2) := by decide +kernel
theorem dX6_score_17 : decode cX6_score 17 = .ok (.aload_n 0, 1) := by decide +kernel
theorem dX6_score_18 : decode cX6_score 18 = .ok (.getfield 55, 3) := by decide +kernel
theorem dX6_score_21 : decode cX6_score 21 = .ok (.getfield 244, 3) := by decide +kernel
theorem dX6_score_24 : decode cX6_score 24 = .ok (.if_icmp .ge 129, 3) := by decide +kernel
theorem dX6_score_27 : decode cX6_score 27 = .ok (.aload_n 0, 1) := by decide +kernel
theorem dX6_score_28 : decode cX6_score 28 = .ok (.getfield 55, 3) := by decide +kernel
theorem dX6_score_31 : decode cX6_score 31 = .ok (.getfield 245, 3) := by decide +kernel
theorem dX6_score_34 : decode cX6_score 34 = .ok (.iload 5, 2) := by decide +kernel
theorem dX6_score_36 : decode cX6_score 36 = .ok (.iaload, 1) := by decide +kernel
theorem dX6_score_37 : decode cX6_score 37 = .ok (.iload_n 1, 1) := by decide +kernel
theorem dX6_score_38 : decode cX6_score 38 = .ok (.if_icmp .eq 6, 3) := by decide +kernel
theorem dX6_score_41 : decode cX6_score 41 = .ok (.goto 106, 3) := by decide +kernel
theorem dX6_score_44 : decode cX6_score 44 = .ok (.aload_n 0, 1) := by decide +kernel
theorem dX6_score_45 : decode cX6_score 45 = .ok (.iload 5, 2) := by decide +kernel
theorem dX6_score_47 : decode cX6_score 47 = .ok (.invokevirtual 240, 3) := by decide +kernel
theorem dX6_score_50 : decode cX6_score 50 = .ok (.ifCond .eq 58, 3) := by decide +kernel
theorem dX6_score_53 : decode cX6_score 53 = .ok (.aload_n 0, 1) := by decide +kernel
theorem dX6_score_54 : decode cX6_score 54 = .ok (.getfield 38, 3) := by decide +kernel
theorem dX6_score_57 : decode cX6_score 57 = .ok (.getfield 248, 3) := by decide +kernel
theorem dX6_score_60 : decode cX6_score 60 = .ok (.aload_n 0, 1) := by decide +kernel
theorem dX6_score_61 : decode cX6_score 61 = .ok (.getfield 55, 3) := by decide +kernel
theorem dX6_score_64 : decode cX6_score 64 = .ok (.getfield 251, 3) := by decide +kernel
theorem dX6_score_67 : decode cX6_score 67 = .ok (.iload 5, 2) := by decide +kernel
theorem dX6_score_69 : decode cX6_score 69 = .ok (.iaload, 1) := by decide +kernel
theorem dX6_score_70 : decode cX6_score 70 = .ok (.iaload, 1) := by decide +kernel
theorem dX6_score_71 : decode cX6_score 71 = .ok (.istore 6, 2) := by decide +kernel
theorem dX6_score_73 : decode cX6_score 73 = .ok (.iload_n 2, 1) := by decide +kernel
theorem dX6_score_74 : decode cX6_score 74 = .ok (.iconst 1, 1) := by decide +kernel
theorem dX6_score_75 : decode cX6_score 75 = .ok (.aload_n 0, 1) := by decide +kernel
theorem dX6_score_76 : decode cX6_score 76 = .ok (.getfield 38, 3) := by decide +kernel
theorem dX6_score_79 : decode cX6_score 79 = .ok (.getfield 248, 3) := by decide +kernel
theorem dX6_score_82 : decode cX6_score 82 = .ok (.iload_n 1, 1) := by decide +kernel
theorem dX6_score_83 : decode cX6_score 83 = .ok (.iaload, 1) := by decide +kernel
theorem dX6_score_84 : decode cX6_score 84 = .ok (.iload 6, 2) := by decide +kernel
theorem dX6_score_86 : decode cX6_score 86 = .ok (.invokestatic 254, 3) := by decide +kernel
theorem dX6_score_89 : decode cX6_score 89 = .ok (.bipush 6, 2) := by decide +kernel
theorem dX6_score_91 : decode cX6_score 91 = .ok (.idiv, 1) := by decide +kernel
theorem dX6_score_92 : decode cX6_score 92 = .ok (.iadd, 1) := by decide +kernel
theorem dX6_score_93 : decode cX6_score 93 = .ok (.iadd, 1) := by decide +kernel
theorem dX6_score_94 : decode cX6_score 94 = .ok (.istore_n 2, 1) := by decide +kernel
theorem dX6_score_95 : decode cX6_score 95 = .ok (.iload_n 3, 1) := by decide +kernel
theorem dX6_score_96 : decode cX6_score 96 = .ok (.iconst 1, 1) := by decide +kernel
theorem dX6_score_97 : decode cX6_score 97 = .ok (.iload 6, 2) := by decide +kernel
theorem dX6_score_99 : decode cX6_score 99 = .ok (.bipush 6, 2) := by decide +kernel
theorem dX6_score_101 : decode cX6_score 101 = .ok (.idiv, 1) := by decide +kernel
theorem dX6_score_102 : decode cX6_score 102 = .ok (.ishl, 1) := by decide +kernel
theorem dX6_score_103 : decode cX6_score 103 = .ok (.ior, 1) := by decide +kernel
theorem dX6_score_104 : decode cX6_score 104 = .ok (.istore_n 3, 1) := by decide +kernel
theorem dX6_score_105 : decode cX6_score 105 = .ok (.goto 42, 3) := by decide +kernel
theorem dX6_score_108 : decode cX6_score 108 = .ok (.aload_n 0, 1) := by decide +kernel
theorem dX6_score_109 : decode cX6_score 109 = .ok (.getfield 55, 3) := by decide +kernel
theorem dX6_score_112 : decode cX6_score 112 = .ok (.getfield 257, 3) := by decide +kernel
theorem dX6_score_115 : decode cX6_score 115 = .ok (.iload 5, 2) := by decide +kernel
theorem dX6_score_117 : decode cX6_score 117 = .ok (.iaload, 1) := by decide +kernel
theorem dX6_score_118 : decode cX6_score 118 = .ok (.iconst (-1), 1) := by decide +kernel
theorem dX6_score_119 : decode cX6_score 119 = .ok (.if_icmp .ne 28, 3) := by decide +kernel
theorem dX6_score_122 : decode cX6_score 122 = .ok (.aload_n 0, 1) := by decide +kernel
theorem dX6_score_123 : decode cX6_score 123 = .ok (.getfield 12, 3) := by decide +kernel
theorem dX6_score_126 : decode cX6_score 126 = .ok (.getfield 94, 3) := by decide +kernel
theorem dX6_score_129 : decode cX6_score 129 = .ok (.aload_n 0, 1) := by decide +kernel
theorem dX6_score_130 : decode cX6_score 130 = .ok (.getfield 55, 3) := by decide +kernel
theorem dX6_score_133 : decode cX6_score 133 = .ok (.getfield 260, 3) := by decide +kernel
theorem dX6_score_136 : decode cX6_score 136 = .ok (.iload 5, 2) := by decide +kernel
theorem dX6_score_138 : decode cX6_score 138 = .ok (.iaload, 1) := by decide +kernel
theorem dX6_score_139 : decode cX6_score 139 = .ok (.isub, 1) := by decide +kernel
theorem dX6_score_140 : decode cX6_score 140 = .ok (.iconst 2, 1) := by decide +kernel
theorem dX6_score_141 : decode cX6_score 141 = .ok (.if_icmp .lt 6, 3) := by decide +kernel
theorem dX6_score_144 : decode cX6_score 144 = .ok (.iinc 4 1, 3) := by decide +kernel
theorem dX6_score_147 : decode cX6_score 147 = .ok (.iinc 5 1, 3) := by decide +kernel
theorem dX6_score_150 : decode cX6_score 150 = .ok (.goto (-135), 3) := by decide +kernel
theorem dX6_score_153 : decode cX6_score 153 = .ok (.iload_n 2, 1) := by decide +kernel
theorem dX6_score_154 : decode cX6_score 154 = .ok (.iload_n 3, 1) := by decide +kernel
theorem dX6_score_155 : decode cX6_score 155 = .ok (.invokestatic 263, 3) := by decide +kernel
theorem dX6_score_158 : decode cX6_score 158 = .ok (.imul, 1) := by decide +kernel
theorem dX6_score_159 : decode cX6_score 159 = .ok (.iconst 3, 1) := by decide +kernel
theorem dX6_score_160 : decode cX6_score 160 = .ok (.iload 4, 2) := by decide +kernel
theorem dX6_score_162 : decode cX6_score 162 = .ok (.imul, 1) := by decide +kernel
theorem dX6_score_163 : decode cX6_score 163 = .ok (.isub, 1) := by decide +kernel
theorem dX6_score_164 : decode cX6_score 164 = .ok (.ireturn, 1) := by decide +kernel
theorem dX6_forecasts_0 : decode cX6_forecasts 0 = .ok (.iload_n 1, 1) := by decide +kernel
theorem dX6_forecasts_1 : decode cX6_forecasts 1 = .ok (.ifCond .eq 10, 3) := by decide +kernel
theorem dX6_forecasts_4 : decode cX6_forecasts 4 = .ok (.aload_n 0, 1) := by decide +kernel
theorem dX6_forecasts_5 : decode cX6_forecasts 5 = .ok (.getfield 158, 3) := by decide +kernel
theorem dX6_forecasts_8 : decode cX6_forecasts 8 = .ok (.goto 7, 3) := by decide +kernel
theorem dX6_forecasts_11 : decode cX6_forecasts 11 = .ok (.aload_n 0, 1) := by decide +kernel
theorem dX6_forecasts_12 : decode cX6_forecasts 12 = .ok (.getfield 161, 3) := by decide +kernel
theorem dX6_forecasts_15 : decode cX6_forecasts 15 = .ok (.ireturn, 1) := by decide +kernel
theorem dX6_count_0 : decode cX6_count 0 = .ok (.iload_n 1, 1) := by decide +kernel
theorem dX6_count_1 : decode cX6_count 1 = .ok (.iconst 0, 1) := by decide +kernel
theorem dX6_count_2 : decode cX6_count 2 = .ok (.iconst 4, 1) := by decide +kernel
theorem dX6_count_3 : decode cX6_count 3 = .ok (.invokestatic 59, 3) := by decide +kernel
theorem dX6_count_6 : decode cX6_count 6 = .ok (.iload_n 1, 1) := by decide +kernel
theorem dX6_count_7 : decode cX6_count 7 = .ok (.tableswitch 61 0 3 #[29, 37, 45, 53], 29) := by decide +kernel
theorem dX6_count_36 : decode cX6_count 36 = .ok (.aload_n 0, 1) := by decide +kernel
theorem dX6_count_37 : decode cX6_count 37 = .ok (.getfield 38, 3) := by decide +kernel
theorem dX6_count_40 : decode cX6_count 40 = .ok (.getfield 148, 3) := by decide +kernel
theorem dX6_count_43 : decode cX6_count 43 = .ok (.ireturn, 1) := by decide +kernel
theorem dX6_count_44 : decode cX6_count 44 = .ok (.aload_n 0, 1) := by decide +kernel
theorem dX6_count_45 : decode cX6_count 45 = .ok (.getfield 42, 3) := by decide +kernel
theorem dX6_count_48 : decode cX6_count 48 = .ok (.getfield 148, 3) := by decide +kernel
theorem dX6_count_51 : decode cX6_count 51 = .ok (.ireturn, 1) := by decide +kernel
theorem dX6_count_52 : decode cX6_count 52 = .ok (.aload_n 0, 1) := by decide +kernel
theorem dX6_count_53 : decode cX6_count 53 = .ok (.getfield 48, 3) := by decide +kernel
theorem dX6_count_56 : decode cX6_count 56 = .ok (.getfield 268, 3) := by decide +kernel
theorem dX6_count_59 : decode cX6_count 59 = .ok (.ireturn, 1) := by decide +kernel
theorem dX6_count_60 : decode cX6_count 60 = .ok (.aload_n 0, 1) := by decide +kernel
theorem dX6_count_61 : decode cX6_count 61 = .ok (.getfield 55, 3) := by decide +kernel
theorem dX6_count_64 : decode cX6_count 64 = .ok (.getfield 244, 3) := by decide +kernel
theorem dX6_count_67 : decode cX6_count 67 = .ok (.ireturn, 1) := by decide +kernel
theorem dX6_count_68 : decode cX6_count 68 = .ok (.aload_n 0, 1) := by decide +kernel
theorem dX6_count_69 : decode cX6_count 69 = .ok (.getfield 55, 3) := by decide +kernel
theorem dX6_count_72 : decode cX6_count 72 = .ok (.getfield 269, 3) := by decide +kernel
theorem dX6_count_75 : decode cX6_count 75 = .ok (.ireturn, 1) := by decide +kernel
theorem dX6_needPlace_0 : decode cX6_needPlace 0 = .ok (.iload_n 0, 1) := by decide +kernel
theorem dX6_needPlace_1 : decode cX6_needPlace 1 = .ok (.ifCond .lt 9, 3) := by decide +kernel
theorem dX6_needPlace_4 : decode cX6_needPlace 4 = .ok (.iload_n 0, 1) := by decide +kernel
theorem dX6_needPlace_5 : decode cX6_needPlace 5 = .ok (.bipush 48, 2) := by decide +kernel
theorem dX6_needPlace_7 : decode cX6_needPlace 7 = .ok (.if_icmp .lt 14, 3) := by decide +kernel
theorem dX6_needPlace_10 : decode cX6_needPlace 10 = .ok (.new 203, 3) := by decide +kernel
theorem dX6_needPlace_13 : decode cX6_needPlace 13 = .ok (.dup, 1) := by decide +kernel
theorem dX6_needPlace_14 : decode cX6_needPlace 14 = .ok (.ldc_w 272, 3) := by decide +kernel
theorem dX6_needPlace_17 : decode cX6_needPlace 17 = .ok (.invokespecial 207, 3) := by decide +kernel
theorem dX6_needPlace_20 : decode cX6_needPlace 20 = .ok (.athrow, 1) := by decide +kernel
theorem dX6_needPlace_21 : decode cX6_needPlace 21 = .ok (.return_, 1) := by decide +kernel
theorem dX6_needRange_0 : decode cX6_needRange 0 = .ok (.iload_n 0, 1) := by decide +kernel
theorem dX6_needRange_1 : decode cX6_needRange 1 = .ok (.iload_n 1, 1) := by decide +kernel
theorem dX6_needRange_2 : decode cX6_needRange 2 = .ok (.if_icmp .lt 8, 3) := by decide +kernel
theorem dX6_needRange_5 : decode cX6_needRange 5 = .ok (.iload_n 0, 1) := by decide +kernel
theorem dX6_needRange_6 : decode cX6_needRange 6 = .ok (.iload_n 2, 1) := by decide +kernel
theorem dX6_needRange_7 : decode cX6_needRange 7 = .ok (.if_icmp .le 14, 3) := by decide +kernel
theorem dX6_needRange_10 : decode cX6_needRange 10 = .ok (.new 274, 3) := by decide +kernel
theorem dX6_needRange_13 : decode cX6_needRange 13 = .ok (.dup, 1) := by decide +kernel
theorem dX6_needRange_14 : decode cX6_needRange 14 = .ok (.ldc_w 276, 3) := by decide +kernel
theorem dX6_needRange_17 : decode cX6_needRange 17 = .ok (.invokespecial 278, 3) := by decide +kernel
theorem dX6_needRange_20 : decode cX6_needRange 20 = .ok (.athrow, 1) := by decide +kernel
theorem dX6_needRange_21 : decode cX6_needRange 21 = .ok (.return_, 1) := by decide +kernel
theorem dX6_needFrequency_0 : decode cX6_needFrequency 0 = .ok (.iload_n 0, 1) := by decide +kernel
theorem dX6_needFrequency_1 : decode cX6_needFrequency 1 = .ok (.bipush 10, 2) := by decide +kernel
theorem dX6_needFrequency_3 : decode cX6_needFrequency 3 = .ok (.sipush 300, 3) := by decide +kernel
theorem dX6_needFrequency_6 : decode cX6_needFrequency 6 = .ok (.invokestatic 59, 3) := by decide +kernel
theorem dX6_needFrequency_9 : decode cX6_needFrequency 9 = .ok (.return_, 1) := by decide +kernel
theorem dX6_needStrength_0 : decode cX6_needStrength 0 = .ok (.iload_n 0, 1) := by decide +kernel
theorem dX6_needStrength_1 : decode cX6_needStrength 1 = .ok (.iconst 0, 1) := by decide +kernel
theorem dX6_needStrength_2 : decode cX6_needStrength 2 = .ok (.bipush 100, 2) := by decide +kernel
theorem dX6_needStrength_4 : decode cX6_needStrength 4 = .ok (.invokestatic 59, 3) := by decide +kernel
theorem dX6_needStrength_7 : decode cX6_needStrength 7 = .ok (.return_, 1) := by decide +kernel
theorem dX6_needDifferent_0 : decode cX6_needDifferent 0 = .ok (.iload_n 0, 1) := by decide +kernel
theorem dX6_needDifferent_1 : decode cX6_needDifferent 1 = .ok (.iload_n 1, 1) := by decide +kernel
theorem dX6_needDifferent_2 : decode cX6_needDifferent 2 = .ok (.if_icmp .ne 14, 3) := by decide +kernel
theorem dX6_needDifferent_5 : decode cX6_needDifferent 5 = .ok (.new 274, 3) := by decide +kernel
theorem dX6_needDifferent_8 : decode cX6_needDifferent 8 = .ok (.dup, 1) := by decide +kernel
theorem dX6_needDifferent_9 : decode cX6_needDifferent 9 = .ok (.ldc_w 279, 3) := by decide +kernel
theorem dX6_needDifferent_12 : decode cX6_needDifferent 12 = .ok (.invokespecial 278, 3) := by decide +kernel
theorem dX6_needDifferent_15 : decode cX6_needDifferent 15 = .ok (.athrow, 1) := by decide +kernel
theorem dX6_needDifferent_16 : decode cX6_needDifferent 16 = .ok (.return_, 1) := by decide +kernel
theorem dX6_needRay_0 : decode cX6_needRay 0 = .ok (.iload_n 0, 1) := by decide +kernel
theorem dX6_needRay_1 : decode cX6_needRay 1 = .ok (.invokestatic 80, 3) := by decide +kernel
theorem dX6_needRay_4 : decode cX6_needRay 4 = .ok (.iload_n 1, 1) := by decide +kernel
theorem dX6_needRay_5 : decode cX6_needRay 5 = .ok (.iconst 1, 1) := by decide +kernel
theorem dX6_needRay_6 : decode cX6_needRay 6 = .ok (.bipush 9, 2) := by decide +kernel
theorem dX6_needRay_8 : decode cX6_needRay 8 = .ok (.invokestatic 59, 3) := by decide +kernel
theorem dX6_needRay_11 : decode cX6_needRay 11 = .ok (.iload_n 2, 1) := by decide +kernel
theorem dX6_needRay_12 : decode cX6_needRay 12 = .ok (.invokestatic 117, 3) := by decide +kernel
theorem dX6_needRay_15 : decode cX6_needRay 15 = .ok (.iload_n 3, 1) := by decide +kernel
theorem dX6_needRay_16 : decode cX6_needRay 16 = .ok (.iconst 1, 1) := by decide +kernel
theorem dX6_needRay_17 : decode cX6_needRay 17 = .ok (.bipush 10, 2) := by decide +kernel
theorem dX6_needRay_19 : decode cX6_needRay 19 = .ok (.invokestatic 59, 3) := by decide +kernel
theorem dX6_needRay_22 : decode cX6_needRay 22 = .ok (.return_, 1) := by decide +kernel
theorem dX6_needPath_0 : decode cX6_needPath 0 = .ok (.iload_n 0, 1) := by decide +kernel
theorem dX6_needPath_1 : decode cX6_needPath 1 = .ok (.invokestatic 80, 3) := by decide +kernel
theorem dX6_needPath_4 : decode cX6_needPath 4 = .ok (.iload_n 1, 1) := by decide +kernel
theorem dX6_needPath_5 : decode cX6_needPath 5 = .ok (.invokestatic 80, 3) := by decide +kernel
theorem dX6_needPath_8 : decode cX6_needPath 8 = .ok (.iload_n 2, 1) := by decide +kernel
theorem dX6_needPath_9 : decode cX6_needPath 9 = .ok (.invokestatic 117, 3) := by decide +kernel
theorem dX6_needPath_12 : decode cX6_needPath 12 = .ok (.iload_n 3, 1) := by decide +kernel
theorem dX6_needPath_13 : decode cX6_needPath 13 = .ok (.invokestatic 216, 3) := by decide +kernel
theorem dX6_needPath_16 : decode cX6_needPath 16 = .ok (.return_, 1) := by decide +kernel
theorem dX6_needStation_0 : decode cX6_needStation 0 = .ok (.aload_n 0, 1) := by decide +kernel
theorem dX6_needStation_1 : decode cX6_needStation 1 = .ok (.getfield 38, 3) := by decide +kernel
theorem dX6_needStation_4 : decode cX6_needStation 4 = .ok (.iload_n 1, 1) := by decide +kernel
theorem dX6_needStation_5 : decode cX6_needStation 5 = .ok (.invokevirtual 281, 3) := by decide +kernel
theorem dX6_needStation_8 : decode cX6_needStation 8 = .ok (.ifCond .ne 14, 3) := by decide +kernel
theorem dX6_needStation_11 : decode cX6_needStation 11 = .ok (.new 203, 3) := by decide +kernel
theorem dX6_needStation_14 : decode cX6_needStation 14 = .ok (.dup, 1) := by decide +kernel
theorem dX6_needStation_15 : decode cX6_needStation 15 = .ok (.ldc_w 282, 3) := by decide +kernel
theorem dX6_needStation_18 : decode cX6_needStation 18 = .ok (.invokespecial 207, 3) := by decide +kernel
theorem dX6_needStation_21 : decode cX6_needStation 21 = .ok (.athrow, 1) := by decide +kernel
theorem dX6_needStation_22 : decode cX6_needStation 22 = .ok (.return_, 1) := by decide +kernel
theorem dX6_ring_0 : decode cX6_ring 0 = .ok (.iload_n 0, 1) := by decide +kernel
theorem dX6_ring_1 : decode cX6_ring 1 = .ok (.bipush 48, 2) := by decide +kernel
theorem dX6_ring_3 : decode cX6_ring 3 = .ok (.irem, 1) := by decide +kernel
theorem dX6_ring_4 : decode cX6_ring 4 = .ok (.istore_n 1, 1) := by decide +kernel
theorem dX6_ring_5 : decode cX6_ring 5 = .ok (.iload_n 1, 1) := by decide +kernel
theorem dX6_ring_6 : decode cX6_ring 6 = .ok (.ifCond .ge 10, 3) := by decide +kernel
theorem dX6_ring_9 : decode cX6_ring 9 = .ok (.iload_n 1, 1) := by decide +kernel
theorem dX6_ring_10 : decode cX6_ring 10 = .ok (.bipush 48, 2) := by decide +kernel
theorem dX6_ring_12 : decode cX6_ring 12 = .ok (.iadd, 1) := by decide +kernel
theorem dX6_ring_13 : decode cX6_ring 13 = .ok (.goto 4, 3) := by decide +kernel
theorem dX6_ring_16 : decode cX6_ring 16 = .ok (.iload_n 1, 1) := by decide +kernel
theorem dX6_ring_17 : decode cX6_ring 17 = .ok (.ireturn, 1) := by decide +kernel
theorem dX6_distance_0 : decode cX6_distance 0 = .ok (.iload_n 0, 1) := by decide +kernel
theorem dX6_distance_1 : decode cX6_distance 1 = .ok (.iload_n 1, 1) := by decide +kernel
theorem dX6_distance_2 : decode cX6_distance 2 = .ok (.isub, 1) := by decide +kernel
theorem dX6_distance_3 : decode cX6_distance 3 = .ok (.invokestatic 211, 3) := by decide +kernel
theorem dX6_distance_6 : decode cX6_distance 6 = .ok (.istore_n 2, 1) := by decide +kernel
theorem dX6_distance_7 : decode cX6_distance 7 = .ok (.iload_n 2, 1) := by decide +kernel
theorem dX6_distance_8 : decode cX6_distance 8 = .ok (.bipush 48, 2) := by decide +kernel
theorem dX6_distance_10 : decode cX6_distance 10 = .ok (.iload_n 2, 1) := by decide +kernel
theorem dX6_distance_11 : decode cX6_distance 11 = .ok (.isub, 1) := by decide +kernel
theorem dX6_distance_12 : decode cX6_distance 12 = .ok (.invokestatic 223, 3) := by decide +kernel
theorem dX6_distance_15 : decode cX6_distance 15 = .ok (.ireturn, 1) := by decide +kernel
theorem dX6_lightIn_0 : decode cX6_lightIn 0 = .ok (.iload_n 0, 1) := by decide +kernel
theorem dX6_lightIn_1 : decode cX6_lightIn 1 = .ok (.iload_n 1, 1) := by decide +kernel
theorem dX6_lightIn_2 : decode cX6_lightIn 2 = .ok (.iconst 2, 1) := by decide +kernel
theorem dX6_lightIn_3 : decode cX6_lightIn 3 = .ok (.idiv, 1) := by decide +kernel
theorem dX6_lightIn_4 : decode cX6_lightIn 4 = .ok (.iadd, 1) := by decide +kernel
theorem dX6_lightIn_5 : decode cX6_lightIn 5 = .ok (.bipush 24, 2) := by decide +kernel
theorem dX6_lightIn_7 : decode cX6_lightIn 7 = .ok (.irem, 1) := by decide +kernel
theorem dX6_lightIn_8 : decode cX6_lightIn 8 = .ok (.istore_n 2, 1) := by decide +kernel
theorem dX6_lightIn_9 : decode cX6_lightIn 9 = .ok (.iconst 0, 1) := by decide +kernel
theorem dX6_lightIn_10 : decode cX6_lightIn 10 = .ok (.bipush 6, 2) := by decide +kernel
theorem dX6_lightIn_12 : decode cX6_lightIn 12 = .ok (.iload_n 2, 1) := by decide +kernel
theorem dX6_lightIn_13 : decode cX6_lightIn 13 = .ok (.bipush 12, 2) := by decide +kernel
theorem dX6_lightIn_15 : decode cX6_lightIn 15 = .ok (.isub, 1) := by decide +kernel
theorem dX6_lightIn_16 : decode cX6_lightIn 16 = .ok (.invokestatic 211, 3) := by decide +kernel
theorem dX6_lightIn_19 : decode cX6_lightIn 19 = .ok (.isub, 1) := by decide +kernel
theorem dX6_lightIn_20 : decode cX6_lightIn 20 = .ok (.invokestatic 226, 3) := by decide +kernel
theorem dX6_lightIn_23 : decode cX6_lightIn 23 = .ok (.ireturn, 1) := by decide +kernel
theorem dX6_lengthBy_0 : decode cX6_lengthBy 0 = .ok (.iload_n 0, 1) := by decide +kernel
theorem dX6_lengthBy_1 : decode cX6_lengthBy 1 = .ok (.iconst 1, 1) := by decide +kernel
theorem dX6_lengthBy_2 : decode cX6_lengthBy 2 = .ok (.if_icmp .ne 12, 3) := by decide +kernel
theorem dX6_lengthBy_5 : decode cX6_lengthBy 5 = .ok (.bipush 10, 2) := by decide +kernel
theorem dX6_lengthBy_7 : decode cX6_lengthBy 7 = .ok (.iload_n 1, 1) := by decide +kernel
theorem dX6_lengthBy_8 : decode cX6_lengthBy 8 = .ok (.isub, 1) := by decide +kernel
theorem dX6_lengthBy_9 : decode cX6_lengthBy 9 = .ok (.iconst 4, 1) := by decide +kernel
theorem dX6_lengthBy_10 : decode cX6_lengthBy 10 = .ok (.idiv, 1) := by decide +kernel
theorem dX6_lengthBy_11 : decode cX6_lengthBy 11 = .ok (.goto 9, 3) := by decide +kernel
theorem dX6_lengthBy_14 : decode cX6_lengthBy 14 = .ok (.bipush 11, 2) := by decide +kernel
theorem dX6_lengthBy_16 : decode cX6_lengthBy 16 = .ok (.iload_n 1, 1) := by decide +kernel
theorem dX6_lengthBy_17 : decode cX6_lengthBy 17 = .ok (.isub, 1) := by decide +kernel
theorem dX6_lengthBy_18 : decode cX6_lengthBy 18 = .ok (.iconst 2, 1) := by decide +kernel
theorem dX6_lengthBy_19 : decode cX6_lengthBy 19 = .ok (.idiv, 1) := by decide +kernel
theorem dX6_lengthBy_20 : decode cX6_lengthBy 20 = .ok (.ireturn, 1) := by decide +kernel
theorem dX6_bends_0 : decode cX6_bends 0 = .ok (.bipush 10, 2) := by decide +kernel
theorem dX6_bends_2 : decode cX6_bends 2 = .ok (.iload_n 2, 1) := by decide +kernel
theorem dX6_bends_3 : decode cX6_bends 3 = .ok (.imul, 1) := by decide +kernel
theorem dX6_bends_4 : decode cX6_bends 4 = .ok (.iload_n 0, 1) := by decide +kernel
theorem dX6_bends_5 : decode cX6_bends 5 = .ok (.bipush 46, 2) := by decide +kernel
theorem dX6_bends_7 : decode cX6_bends 7 = .ok (.iconst 4, 1) := by decide +kernel
theorem dX6_bends_8 : decode cX6_bends 8 = .ok (.iload_n 1, 1) := by decide +kernel
theorem dX6_bends_9 : decode cX6_bends 9 = .ok (.imul, 1) := by decide +kernel
theorem dX6_bends_10 : decode cX6_bends 10 = .ok (.isub, 1) := by decide +kernel
theorem dX6_bends_11 : decode cX6_bends 11 = .ok (.imul, 1) := by decide +kernel
theorem dX6_bends_12 : decode cX6_bends 12 = .ok (.if_icmp .gt 7, 3) := by decide +kernel
theorem dX6_bends_15 : decode cX6_bends 15 = .ok (.iconst 1, 1) := by decide +kernel
theorem dX6_bends_16 : decode cX6_bends 16 = .ok (.goto 4, 3) := by decide +kernel
theorem dX6_bends_19 : decode cX6_bends 19 = .ok (.iconst 0, 1) := by decide +kernel
theorem dX6_bends_20 : decode cX6_bends 20 = .ok (.ireturn, 1) := by decide +kernel
theorem dX6_legAnew_0 : decode cX6_legAnew 0 = .ok (.iconst 1, 1) := by decide +kernel
theorem dX6_legAnew_1 : decode cX6_legAnew 1 = .ok (.istore 5, 2) := by decide +kernel
theorem dX6_legAnew_3 : decode cX6_legAnew 3 = .ok (.iload 5, 2) := by decide +kernel
theorem dX6_legAnew_5 : decode cX6_legAnew 5 = .ok (.iconst 2, 1) := by decide +kernel
theorem dX6_legAnew_6 : decode cX6_legAnew 6 = .ok (.if_icmp .gt 53, 3) := by decide +kernel
theorem dX6_legAnew_9 : decode cX6_legAnew 9 = .ok (.iload 5, 2) := by decide +kernel
theorem dX6_legAnew_11 : decode cX6_legAnew 11 = .ok (.iload_n 3, 1) := by decide +kernel
theorem dX6_legAnew_12 : decode cX6_legAnew 12 = .ok (.invokestatic 179, 3) := by decide +kernel
theorem dX6_legAnew_15 : decode cX6_legAnew 15 = .ok (.istore 6, 2) := by decide +kernel
theorem dX6_legAnew_17 : decode cX6_legAnew 17 = .ok (.iload_n 1, 1) := by decide +kernel
theorem dX6_legAnew_18 : decode cX6_legAnew 18 = .ok (.iload_n 2, 1) := by decide +kernel
theorem dX6_legAnew_19 : decode cX6_legAnew 19 = .ok (.iload 6, 2) := by decide +kernel
theorem dX6_legAnew_21 : decode cX6_legAnew 21 = .ok (.iconst 2, 1) := by decide +kernel
theorem dX6_legAnew_22 : decode cX6_legAnew 22 = .ok (.idiv, 1) := by decide +kernel
theorem dX6_legAnew_23 : decode cX6_legAnew 23 = .ok (.invokestatic 189, 3) := by decide +kernel
theorem dX6_legAnew_26 : decode cX6_legAnew 26 = .ok (.istore 7, 2) := by decide +kernel
theorem dX6_legAnew_28 : decode cX6_legAnew 28 = .ok (.aload_n 0, 1) := by decide +kernel
theorem dX6_legAnew_29 : decode cX6_legAnew 29 = .ok (.getfield 12, 3) := by decide +kernel
theorem dX6_legAnew_32 : decode cX6_legAnew 32 = .ok (.getfield 168, 3) := by decide +kernel
theorem dX6_legAnew_35 : decode cX6_legAnew 35 = .ok (.iload 5, 2) := by decide +kernel
theorem dX6_legAnew_37 : decode cX6_legAnew 37 = .ok (.aaload, 1) := by decide +kernel
theorem dX6_legAnew_38 : decode cX6_legAnew 38 = .ok (.iload 7, 2) := by decide +kernel
theorem dX6_legAnew_40 : decode cX6_legAnew 40 = .ok (.iaload, 1) := by decide +kernel
theorem dX6_legAnew_41 : decode cX6_legAnew 41 = .ok (.iload_n 3, 1) := by decide +kernel
theorem dX6_legAnew_42 : decode cX6_legAnew 42 = .ok (.iload 4, 2) := by decide +kernel
theorem dX6_legAnew_44 : decode cX6_legAnew 44 = .ok (.invokestatic 284, 3) := by decide +kernel
theorem dX6_legAnew_47 : decode cX6_legAnew 47 = .ok (.ifCond .eq 6, 3) := by decide +kernel
theorem dX6_legAnew_50 : decode cX6_legAnew 50 = .ok (.iload 6, 2) := by decide +kernel
theorem dX6_legAnew_52 : decode cX6_legAnew 52 = .ok (.ireturn, 1) := by decide +kernel
theorem dX6_legAnew_53 : decode cX6_legAnew 53 = .ok (.iinc 5 1, 3) := by decide +kernel
theorem dX6_legAnew_56 : decode cX6_legAnew 56 = .ok (.goto (-53), 3) := by decide +kernel
theorem dX6_legAnew_59 : decode cX6_legAnew 59 = .ok (.iconst (-1), 1) := by decide +kernel
theorem dX6_legAnew_60 : decode cX6_legAnew 60 = .ok (.ireturn, 1) := by decide +kernel
theorem dX6_walked_0 : decode cX6_walked 0 = .ok (.iload_n 0, 1) := by decide +kernel
theorem dX6_walked_1 : decode cX6_walked 1 = .ok (.istore_n 3, 1) := by decide +kernel
theorem dX6_walked_2 : decode cX6_walked 2 = .ok (.iconst 0, 1) := by decide +kernel
theorem dX6_walked_3 : decode cX6_walked 3 = .ok (.istore 4, 2) := by decide +kernel
theorem dX6_walked_5 : decode cX6_walked 5 = .ok (.iload 4, 2) := by decide +kernel
theorem dX6_walked_7 : decode cX6_walked 7 = .ok (.iload_n 2, 1) := by decide +kernel
theorem dX6_walked_8 : decode cX6_walked 8 = .ok (.if_icmp .ge 43, 3) := by decide +kernel
theorem dX6_walked_11 : decode cX6_walked 11 = .ok (.iload_n 1, 1) := by decide +kernel
theorem dX6_walked_12 : decode cX6_walked 12 = .ok (.ifCond .eq 20, 3) := by decide +kernel
theorem dX6_walked_15 : decode cX6_walked 15 = .ok (.iload_n 3, 1) := by decide +kernel
theorem dX6_walked_16 : decode cX6_walked 16 = .ok (.bipush 47, 2) := by decide +kernel
theorem dX6_walked_18 : decode cX6_walked 18 = .ok (.if_icmp .lt 7, 3) := by decide +kernel
theorem dX6_walked_21 : decode cX6_walked 21 = .ok (.iconst 0, 1) := by decide +kernel
theorem dX6_walked_22 : decode cX6_walked 22 = .ok (.goto 6, 3) := by decide +kernel
theorem dX6_walked_25 : decode cX6_walked 25 = .ok (.iload_n 3, 1) := by decide +kernel
theorem dX6_walked_26 : decode cX6_walked 26 = .ok (.iconst 1, 1) := by decide +kernel
theorem dX6_walked_27 : decode cX6_walked 27 = .ok (.iadd, 1) := by decide +kernel
theorem dX6_walked_28 : decode cX6_walked 28 = .ok (.istore_n 3, 1) := by decide +kernel
theorem dX6_walked_29 : decode cX6_walked 29 = .ok (.goto 16, 3) := by decide +kernel
theorem dX6_walked_32 : decode cX6_walked 32 = .ok (.iload_n 3, 1) := by decide +kernel
theorem dX6_walked_33 : decode cX6_walked 33 = .ok (.ifCond .gt 8, 3) := by decide +kernel
theorem dX6_walked_36 : decode cX6_walked 36 = .ok (.bipush 47, 2) := by decide +kernel
theorem dX6_walked_38 : decode cX6_walked 38 = .ok (.goto 6, 3) := by decide +kernel
theorem dX6_walked_41 : decode cX6_walked 41 = .ok (.iload_n 3, 1) := by decide +kernel
theorem dX6_walked_42 : decode cX6_walked 42 = .ok (.iconst 1, 1) := by decide +kernel
theorem dX6_walked_43 : decode cX6_walked 43 = .ok (.isub, 1) := by decide +kernel
theorem dX6_walked_44 : decode cX6_walked 44 = .ok (.istore_n 3, 1) := by decide +kernel
theorem dX6_walked_45 : decode cX6_walked 45 = .ok (.iinc 4 1, 3) := by decide +kernel
theorem dX6_walked_48 : decode cX6_walked 48 = .ok (.goto (-43), 3) := by decide +kernel
theorem dX6_walked_51 : decode cX6_walked 51 = .ok (.iload_n 3, 1) := by decide +kernel
theorem dX6_walked_52 : decode cX6_walked 52 = .ok (.ireturn, 1) := by decide +kernel
theorem dX6_reaches_0 : decode cX6_reaches 0 = .ok (.aload_n 0, 1) := by decide +kernel
theorem dX6_reaches_1 : decode cX6_reaches 1 = .ok (.getfield 29, 3) := by decide +kernel
theorem dX6_reaches_4 : decode cX6_reaches 4 = .ok (.iload_n 2, 1) := by decide +kernel
theorem dX6_reaches_5 : decode cX6_reaches 5 = .ok (.iload 4, 2) := by decide +kernel
theorem dX6_reaches_7 : decode cX6_reaches 7 = .ok (.invokestatic 288, 3) := by decide +kernel
theorem dX6_reaches_10 : decode cX6_reaches 10 = .ok (.iload 4, 2) := by decide +kernel
theorem dX6_reaches_12 : decode cX6_reaches 12 = .ok (.invokestatic 291, 3) := by decide +kernel
theorem dX6_reaches_15 : decode cX6_reaches 15 = .ok (.iload 5, 2) := by decide +kernel
theorem dX6_reaches_17 : decode cX6_reaches 17 = .ok (.iload 6, 2) := by decide +kernel
theorem dX6_reaches_19 : decode cX6_reaches 19 = .ok (.invokevirtual 294, 3) := by decide +kernel
theorem dX6_reaches_22 : decode cX6_reaches 22 = .ok (.iconst 0, 1) := by decide +kernel
theorem dX6_reaches_23 : decode cX6_reaches 23 = .ok (.istore 7, 2) := by decide +kernel
theorem dX6_reaches_25 : decode cX6_reaches 25 = .ok (.iload 7, 2) := by decide +kernel
theorem dX6_reaches_27 : decode cX6_reaches 27 = .ok (.bipush 10, 2) := by decide +kernel
theorem dX6_reaches_29 : decode cX6_reaches 29 = .ok (.if_icmp .ge 39, 3) := by decide +kernel
theorem dX6_reaches_32 : decode cX6_reaches 32 = .ok (.aload_n 0, 1) := by decide +kernel
theorem dX6_reaches_33 : decode cX6_reaches 33 = .ok (.getfield 29, 3) := by decide +kernel
theorem dX6_reaches_36 : decode cX6_reaches 36 = .ok (.aload_n 1, 1) := by decide +kernel
theorem dX6_reaches_37 : decode cX6_reaches 37 = .ok (.aload_n 0, 1) := by decide +kernel
theorem dX6_reaches_38 : decode cX6_reaches 38 = .ok (.getfield 22, 3) := by decide +kernel
theorem dX6_reaches_41 : decode cX6_reaches 41 = .ok (.invokevirtual 297, 3) := by decide +kernel
theorem dX6_reaches_44 : decode cX6_reaches 44 = .ok (.ifCond .ne 5, 3) := by decide +kernel
theorem dX6_reaches_47 : decode cX6_reaches 47 = .ok (.iconst 0, 1) := by decide +kernel
theorem dX6_reaches_48 : decode cX6_reaches 48 = .ok (.ireturn, 1) := by decide +kernel
theorem dX6_reaches_49 : decode cX6_reaches 49 = .ok (.aload_n 0, 1) := by decide +kernel
theorem dX6_reaches_50 : decode cX6_reaches 50 = .ok (.getfield 29, 3) := by decide +kernel
theorem dX6_reaches_53 : decode cX6_reaches 53 = .ok (.getfield 301, 3) := by decide +kernel
theorem dX6_reaches_56 : decode cX6_reaches 56 = .ok (.iload_n 3, 1) := by decide +kernel
theorem dX6_reaches_57 : decode cX6_reaches 57 = .ok (.if_icmp .ne 5, 3) := by decide +kernel
theorem dX6_reaches_60 : decode cX6_reaches 60 = .ok (.iconst 1, 1) := by decide +kernel
theorem dX6_reaches_61 : decode cX6_reaches 61 = .ok (.ireturn, 1) := by decide +kernel
theorem dX6_reaches_62 : decode cX6_reaches 62 = .ok (.iinc 7 1, 3) := by decide +kernel
theorem dX6_reaches_65 : decode cX6_reaches 65 = .ok (.goto (-40), 3) := by decide +kernel
theorem dX6_reaches_68 : decode cX6_reaches 68 = .ok (.iconst 0, 1) := by decide +kernel
theorem dX6_reaches_69 : decode cX6_reaches 69 = .ok (.ireturn, 1) := by decide +kernel
theorem dX6_directionOf_0 : decode cX6_directionOf 0 = .ok (.iload_n 0, 1) := by decide +kernel
theorem dX6_directionOf_1 : decode cX6_directionOf 1 = .ok (.bipush 9, 2) := by decide +kernel
theorem dX6_directionOf_3 : decode cX6_directionOf 3 = .ok (.if_icmp .ge 7, 3) := by decide +kernel
theorem dX6_directionOf_6 : decode cX6_directionOf 6 = .ok (.iconst 0, 1) := by decide +kernel
theorem dX6_directionOf_7 : decode cX6_directionOf 7 = .ok (.goto 4, 3) := by decide +kernel
theorem dX6_directionOf_10 : decode cX6_directionOf 10 = .ok (.iconst 1, 1) := by decide +kernel
theorem dX6_directionOf_11 : decode cX6_directionOf 11 = .ok (.ireturn, 1) := by decide +kernel
theorem dX6_angleOf_0 : decode cX6_angleOf 0 = .ok (.iload_n 0, 1) := by decide +kernel
theorem dX6_angleOf_1 : decode cX6_angleOf 1 = .ok (.bipush 9, 2) := by decide +kernel
theorem dX6_angleOf_3 : decode cX6_angleOf 3 = .ok (.irem, 1) := by decide +kernel
theorem dX6_angleOf_4 : decode cX6_angleOf 4 = .ok (.iconst 1, 1) := by decide +kernel
theorem dX6_angleOf_5 : decode cX6_angleOf 5 = .ok (.iadd, 1) := by decide +kernel
theorem dX6_angleOf_6 : decode cX6_angleOf 6 = .ok (.ireturn, 1) := by decide +kernel
theorem dX6_hasPath_0 : decode cX6_hasPath 0 = .ok (.iconst 0, 1) := by decide +kernel
theorem dX6_hasPath_1 : decode cX6_hasPath 1 = .ok (.istore 5, 2) := by decide +kernel
theorem dX6_hasPath_3 : decode cX6_hasPath 3 = .ok (.iload 5, 2) := by decide +kernel
theorem dX6_hasPath_5 : decode cX6_hasPath 5 = .ok (.bipush 18, 2) := by decide +kernel
theorem dX6_hasPath_7 : decode cX6_hasPath 7 = .ok (.if_icmp .ge 29, 3) := by decide +kernel
theorem dX6_hasPath_10 : decode cX6_hasPath 10 = .ok (.aload_n 0, 1) := by decide +kernel
theorem dX6_hasPath_11 : decode cX6_hasPath 11 = .ok (.aload_n 0, 1) := by decide +kernel
theorem dX6_hasPath_12 : decode cX6_hasPath 12 = .ok (.getfield 12, 3) := by decide +kernel
theorem dX6_hasPath_15 : decode cX6_hasPath 15 = .ok (.iload_n 1, 1) := by decide +kernel
theorem dX6_hasPath_16 : decode cX6_hasPath 16 = .ok (.iload_n 2, 1) := by decide +kernel
theorem dX6_hasPath_17 : decode cX6_hasPath 17 = .ok (.iload 5, 2) := by decide +kernel
theorem dX6_hasPath_19 : decode cX6_hasPath 19 = .ok (.iload_n 3, 1) := by decide +kernel
theorem dX6_hasPath_20 : decode cX6_hasPath 20 = .ok (.iload 4, 2) := by decide +kernel
theorem dX6_hasPath_22 : decode cX6_hasPath 22 = .ok (.invokevirtual 196, 3) := by decide +kernel
theorem dX6_hasPath_25 : decode cX6_hasPath 25 = .ok (.ifCond .eq 5, 3) := by decide +kernel
theorem dX6_hasPath_28 : decode cX6_hasPath 28 = .ok (.iconst 1, 1) := by decide +kernel
theorem dX6_hasPath_29 : decode cX6_hasPath 29 = .ok (.ireturn, 1) := by decide +kernel
theorem dX6_hasPath_30 : decode cX6_hasPath 30 = .ok (.iinc 5 1, 3) := by decide +kernel
theorem dX6_hasPath_33 : decode cX6_hasPath 33 = .ok (.goto (-30), 3) := by decide +kernel
theorem dX6_hasPath_36 : decode cX6_hasPath 36 = .ok (.iconst 0, 1) := by decide +kernel
theorem dX6_hasPath_37 : decode cX6_hasPath 37 = .ok (.ireturn, 1) := by decide +kernel
theorem dX6_signalBetween_0 : decode cX6_signalBetween 0 = .ok (.aload_n 0, 1) := by decide +kernel
theorem dX6_signalBetween_1 : decode cX6_signalBetween 1 = .ok (.aload_n 0, 1) := by decide +kernel
theorem dX6_signalBetween_2 : decode cX6_signalBetween 2 = .ok (.getfield 12, 3) := by decide +kernel
theorem dX6_signalBetween_5 : decode cX6_signalBetween 5 = .ok (.aload_n 0, 1) := by decide +kernel
theorem dX6_signalBetween_6 : decode cX6_signalBetween 6 = .ok (.getfield 38, 3) := by decide +kernel
theorem dX6_signalBetween_9 : decode cX6_signalBetween 9 = .ok (.iload_n 1, 1) := by decide +kernel
theorem dX6_signalBetween_10 : decode cX6_signalBetween 10 = .ok (.iload_n 3, 1) := by decide +kernel
theorem dX6_signalBetween_11 : decode cX6_signalBetween 11 = .ok (.aload_n 0, 1) := by decide +kernel
theorem dX6_signalBetween_12 : decode cX6_signalBetween 12 = .ok (.getfield 38, 3) := by decide +kernel
theorem dX6_signalBetween_15 : decode cX6_signalBetween 15 = .ok (.getfield 248, 3) := by decide +kernel
theorem dX6_signalBetween_18 : decode cX6_signalBetween 18 = .ok (.iload_n 2, 1) := by decide +kernel
theorem dX6_signalBetween_19 : decode cX6_signalBetween 19 = .ok (.iaload, 1) := by decide +kernel
theorem dX6_signalBetween_20 : decode cX6_signalBetween 20 = .ok (.invokevirtual 154, 3) := by decide +kernel
theorem dX6_signalBetween_23 : decode cX6_signalBetween 23 = .ok (.ireturn, 1) := by decide +kernel
theorem dX6_signalAt_0 : decode cX6_signalAt 0 = .ok (.iconst (-1), 1) := by decide +kernel
theorem dX6_signalAt_1 : decode cX6_signalAt 1 = .ok (.istore 6, 2) := by decide +kernel
theorem dX6_signalAt_3 : decode cX6_signalAt 3 = .ok (.iconst 0, 1) := by decide +kernel
theorem dX6_signalAt_4 : decode cX6_signalAt 4 = .ok (.istore 7, 2) := by decide +kernel
theorem dX6_signalAt_6 : decode cX6_signalAt 6 = .ok (.iload 7, 2) := by decide +kernel
theorem dX6_signalAt_8 : decode cX6_signalAt 8 = .ok (.bipush 18, 2) := by decide +kernel
theorem dX6_signalAt_10 : decode cX6_signalAt 10 = .ok (.if_icmp .ge 67, 3) := by decide +kernel
theorem dX6_signalAt_13 : decode cX6_signalAt 13 = .ok (.aload_n 2, 1) := by decide +kernel
theorem dX6_signalAt_14 : decode cX6_signalAt 14 = .ok (.iload_n 3, 1) := by decide +kernel
theorem dX6_signalAt_15 : decode cX6_signalAt 15 = .ok (.iload 7, 2) := by decide +kernel
theorem dX6_signalAt_17 : decode cX6_signalAt 17 = .ok (.invokestatic 288, 3) := by decide +kernel
theorem dX6_signalAt_20 : decode cX6_signalAt 20 = .ok (.iload 7, 2) := by decide +kernel
theorem dX6_signalAt_22 : decode cX6_signalAt 22 = .ok (.invokestatic 291, 3) := by decide +kernel
theorem dX6_signalAt_25 : decode cX6_signalAt 25 = .ok (.invokevirtual 303, 3) := by decide +kernel
theorem dX6_signalAt_28 : decode cX6_signalAt 28 = .ok (.istore 8, 2) := by decide +kernel
theorem dX6_signalAt_30 : decode cX6_signalAt 30 = .ok (.iload 8, 2) := by decide +kernel
theorem dX6_signalAt_32 : decode cX6_signalAt 32 = .ok (.ifCond .lt 39, 3) := by decide +kernel
theorem dX6_signalAt_35 : decode cX6_signalAt 35 = .ok (.aload_n 0, 1) := by decide +kernel
theorem dX6_signalAt_36 : decode cX6_signalAt 36 = .ok (.aload_n 1, 1) := by decide +kernel
theorem dX6_signalAt_37 : decode cX6_signalAt 37 = .ok (.aload_n 2, 1) := by decide +kernel
theorem dX6_signalAt_38 : decode cX6_signalAt 38 = .ok (.getfield 248, 3) := by decide +kernel
theorem dX6_signalAt_41 : decode cX6_signalAt 41 = .ok (.iload_n 3, 1) := by decide +kernel
theorem dX6_signalAt_42 : decode cX6_signalAt 42 = .ok (.iaload, 1) := by decide +kernel
theorem dX6_signalAt_43 : decode cX6_signalAt 43 = .ok (.iload 5, 2) := by decide +kernel
theorem dX6_signalAt_45 : decode cX6_signalAt 45 = .ok (.iload 7, 2) := by decide +kernel
theorem dX6_signalAt_47 : decode cX6_signalAt 47 = .ok (.iload 4, 2) := by decide +kernel
theorem dX6_signalAt_49 : decode cX6_signalAt 49 = .ok (.iload 8, 2) := by decide +kernel
theorem dX6_signalAt_51 : decode cX6_signalAt 51 = .ok (.invokevirtual 196, 3) := by decide +kernel
theorem dX6_signalAt_54 : decode cX6_signalAt 54 = .ok (.ifCond .eq 17, 3) := by decide +kernel
theorem dX6_signalAt_57 : decode cX6_signalAt 57 = .ok (.iload 6, 2) := by decide +kernel
theorem dX6_signalAt_59 : decode cX6_signalAt 59 = .ok (.aload_n 0, 1) := by decide +kernel
theorem dX6_signalAt_60 : decode cX6_signalAt 60 = .ok (.getfield 29, 3) := by decide +kernel
theorem dX6_signalAt_63 : decode cX6_signalAt 63 = .ok (.getfield 306, 3) := by decide +kernel
theorem dX6_signalAt_66 : decode cX6_signalAt 66 = .ok (.invokestatic 226, 3) := by decide +kernel
theorem dX6_signalAt_69 : decode cX6_signalAt 69 = .ok (.istore 6, 2) := by decide +kernel
theorem dX6_signalAt_71 : decode cX6_signalAt 71 = .ok (.iinc 7 1, 3) := by decide +kernel
theorem dX6_signalAt_74 : decode cX6_signalAt 74 = .ok (.goto (-68), 3) := by decide +kernel
theorem dX6_signalAt_77 : decode cX6_signalAt 77 = .ok (.iload 6, 2) := by decide +kernel
theorem dX6_signalAt_79 : decode cX6_signalAt 79 = .ok (.iconst (-1), 1) := by decide +kernel
theorem dX6_signalAt_80 : decode cX6_signalAt 80 = .ok (.if_icmp .ne 9, 3) := by decide +kernel
theorem dX6_signalAt_83 : decode cX6_signalAt 83 = .ok (.sipush (-1000), 3) := by decide +kernel
theorem dX6_signalAt_86 : decode cX6_signalAt 86 = .ok (.goto 12, 3) := by decide +kernel
theorem dX6_signalAt_89 : decode cX6_signalAt 89 = .ok (.iload 6, 2) := by decide +kernel
theorem dX6_signalAt_91 : decode cX6_signalAt 91 = .ok (.aload_n 0, 1) := by decide +kernel
theorem dX6_signalAt_92 : decode cX6_signalAt 92 = .ok (.iload 5, 2) := by decide +kernel
theorem dX6_signalAt_94 : decode cX6_signalAt 94 = .ok (.invokevirtual 309, 3) := by decide +kernel
theorem dX6_signalAt_97 : decode cX6_signalAt 97 = .ok (.isub, 1) := by decide +kernel
theorem dX6_signalAt_98 : decode cX6_signalAt 98 = .ok (.ireturn, 1) := by decide +kernel
theorem dX6_noiseNow_0 : decode cX6_noiseNow 0 = .ok (.aload_n 0, 1) := by decide +kernel
theorem dX6_noiseNow_1 : decode cX6_noiseNow 1 = .ok (.getfield 12, 3) := by decide +kernel
theorem dX6_noiseNow_4 : decode cX6_noiseNow 4 = .ok (.getfield 94, 3) := by decide +kernel
theorem dX6_noiseNow_7 : decode cX6_noiseNow 7 = .ok (.iload_n 1, 1) := by decide +kernel
theorem dX6_noiseNow_8 : decode cX6_noiseNow 8 = .ok (.invokestatic 164, 3) := by decide +kernel
theorem dX6_noiseNow_11 : decode cX6_noiseNow 11 = .ok (.ifCond .ne 7, 3) := by decide +kernel
theorem dX6_noiseNow_14 : decode cX6_noiseNow 14 = .ok (.iconst 3, 1) := by decide +kernel
theorem dX6_noiseNow_15 : decode cX6_noiseNow 15 = .ok (.goto 4, 3) := by decide +kernel
theorem dX6_noiseNow_18 : decode cX6_noiseNow 18 = .ok (.iconst 0, 1) := by decide +kernel
theorem dX6_noiseNow_19 : decode cX6_noiseNow 19 = .ok (.istore_n 2, 1) := by decide +kernel
theorem dX6_noiseNow_20 : decode cX6_noiseNow 20 = .ok (.aload_n 0, 1) := by decide +kernel
theorem dX6_noiseNow_21 : decode cX6_noiseNow 21 = .ok (.getfield 22, 3) := by decide +kernel
theorem dX6_noiseNow_24 : decode cX6_noiseNow 24 = .ok (.getfield 90, 3) := by decide +kernel
theorem dX6_noiseNow_27 : decode cX6_noiseNow 27 = .ok (.iload_n 1, 1) := by decide +kernel
theorem dX6_noiseNow_28 : decode cX6_noiseNow 28 = .ok (.iaload, 1) := by decide +kernel
theorem dX6_noiseNow_29 : decode cX6_noiseNow 29 = .ok (.iload_n 2, 1) := by decide +kernel
theorem dX6_noiseNow_30 : decode cX6_noiseNow 30 = .ok (.iadd, 1) := by decide +kernel
theorem dX6_noiseNow_31 : decode cX6_noiseNow 31 = .ok (.ireturn, 1) := by decide +kernel
theorem dX6_neededFor_0 : decode cX6_neededFor 0 = .ok (.iload_n 0, 1) := by decide +kernel
theorem dX6_neededFor_1 : decode cX6_neededFor 1 = .ok (.lookupswitch 32 #[(0, 27), (1, 30)], 27) := by decide +kernel
theorem dX6_neededFor_28 : decode cX6_neededFor 28 = .ok (.bipush 10, 2) := by decide +kernel
theorem dX6_neededFor_30 : decode cX6_neededFor 30 = .ok (.ireturn, 1) := by decide +kernel
theorem dX6_neededFor_31 : decode cX6_neededFor 31 = .ok (.iconst 4, 1) := by decide +kernel
theorem dX6_neededFor_32 : decode cX6_neededFor 32 = .ok (.ireturn, 1) := by decide +kernel
theorem dX6_neededFor_33 : decode cX6_neededFor 33 = .ok (.bipush (-2), 2) := by decide +kernel
theorem dX6_neededFor_35 : decode cX6_neededFor 35 = .ok (.ireturn, 1) := by decide +kernel
theorem dX6_counts_0 : decode cX6_counts 0 = .ok (.aload_n 0, 1) := by decide +kernel
theorem dX6_counts_1 : decode cX6_counts 1 = .ok (.getfield 55, 3) := by decide +kernel
theorem dX6_counts_4 : decode cX6_counts 4 = .ok (.getfield 257, 3) := by decide +kernel
theorem dX6_counts_7 : decode cX6_counts 7 = .ok (.iload_n 1, 1) := by decide +kernel
theorem dX6_counts_8 : decode cX6_counts 8 = .ok (.iaload, 1) := by decide +kernel
theorem dX6_counts_9 : decode cX6_counts 9 = .ok (.istore_n 2, 1) := by decide +kernel
theorem dX6_counts_10 : decode cX6_counts 10 = .ok (.iload_n 2, 1) := by decide +kernel
theorem dX6_counts_11 : decode cX6_counts 11 = .ok (.iconst (-1), 1) := by decide +kernel
theorem dX6_counts_12 : decode cX6_counts 12 = .ok (.if_icmp .ne 5, 3) := by decide +kernel
theorem dX6_counts_15 : decode cX6_counts 15 = .ok (.iconst 0, 1) := by decide +kernel
theorem dX6_counts_16 : decode cX6_counts 16 = .ok (.ireturn, 1) := by decide +kernel
theorem dX6_counts_17 : decode cX6_counts 17 = .ok (.iconst 0, 1) := by decide +kernel
theorem dX6_counts_18 : decode cX6_counts 18 = .ok (.istore_n 3, 1) := by decide +kernel
theorem dX6_counts_19 : decode cX6_counts 19 = .ok (.iload_n 3, 1) := by decide +kernel
theorem dX6_counts_20 : decode cX6_counts 20 = .ok (.aload_n 0, 1) := by decide +kernel
theorem dX6_counts_21 : decode cX6_counts 21 = .ok (.getfield 48, 3) := by decide +kernel
theorem dX6_counts_24 : decode cX6_counts 24 = .ok (.getfield 268, 3) := by decide +kernel
theorem dX6_counts_27 : decode cX6_counts 27 = .ok (.if_icmp .ge 115, 3) := by decide +kernel
theorem dX6_counts_30 : decode cX6_counts 30 = .ok (.aload_n 0, 1) := by decide +kernel
theorem dX6_counts_31 : decode cX6_counts 31 = .ok (.getfield 48, 3) := by decide +kernel
theorem dX6_counts_34 : decode cX6_counts 34 = .ok (.getfield 312, 3) := by decide +kernel
theorem dX6_counts_37 : decode cX6_counts 37 = .ok (.iload_n 3, 1) := by decide +kernel
theorem dX6_counts_38 : decode cX6_counts 38 = .ok (.iaload, 1) := by decide +kernel
theorem dX6_counts_39 : decode cX6_counts 39 = .ok (.aload_n 0, 1) := by decide +kernel
theorem dX6_counts_40 : decode cX6_counts 40 = .ok (.getfield 55, 3) := by decide +kernel
theorem dX6_counts_43 : decode cX6_counts 43 = .ok (.getfield 260, 3) := by decide +kernel
theorem dX6_counts_46 : decode cX6_counts 46 = .ok (.iload_n 1, 1) := by decide +kernel
theorem dX6_counts_47 : decode cX6_counts 47 = .ok (.iaload, 1) := by decide +kernel
theorem dX6_counts_48 : decode cX6_counts 48 = .ok (.if_icmp .eq 24, 3) := by decide +kernel
theorem dX6_counts_51 : decode cX6_counts 51 = .ok (.aload_n 0, 1) := by decide +kernel
theorem dX6_counts_52 : decode cX6_counts 52 = .ok (.getfield 48, 3) := by decide +kernel
theorem dX6_counts_55 : decode cX6_counts 55 = .ok (.getfield 312, 3) := by decide +kernel
theorem dX6_counts_58 : decode cX6_counts 58 = .ok (.iload_n 3, 1) := by decide +kernel
theorem dX6_counts_59 : decode cX6_counts 59 = .ok (.iaload, 1) := by decide +kernel
theorem dX6_counts_60 : decode cX6_counts 60 = .ok (.aload_n 0, 1) := by decide +kernel
theorem dX6_counts_61 : decode cX6_counts 61 = .ok (.getfield 55, 3) := by decide +kernel
theorem dX6_counts_64 : decode cX6_counts 64 = .ok (.getfield 260, 3) := by decide +kernel
theorem dX6_counts_67 : decode cX6_counts 67 = .ok (.iload_n 2, 1) := by decide +kernel
theorem dX6_counts_68 : decode cX6_counts 68 = .ok (.iaload, 1) := by decide +kernel
theorem dX6_counts_69 : decode cX6_counts 69 = .ok (.if_icmp .ne 7, 3) := by decide +kernel
theorem dX6_counts_72 : decode cX6_counts 72 = .ok (.iconst 1, 1) := by decide +kernel
theorem dX6_counts_73 : decode cX6_counts 73 = .ok (.goto 4, 3) := by decide +kernel
theorem dX6_counts_76 : decode cX6_counts 76 = .ok (.iconst 0, 1) := by decide +kernel
theorem dX6_counts_77 : decode cX6_counts 77 = .ok (.istore 4, 2) := by decide +kernel
theorem dX6_counts_79 : decode cX6_counts 79 = .ok (.iload 4, 2) := by decide +kernel
theorem dX6_counts_81 : decode cX6_counts 81 = .ok (.ifCond .eq 55, 3) := by decide +kernel
theorem dX6_counts_84 : decode cX6_counts 84 = .ok (.aload_n 0, 1) := by decide +kernel
theorem dX6_counts_85 : decode cX6_counts 85 = .ok (.getfield 48, 3) := by decide +kernel
theorem dX6_counts_88 : decode cX6_counts 88 = .ok (.getfield 313, 3) := by decide +kernel
theorem dX6_counts_91 : decode cX6_counts 91 = .ok (.iload_n 3, 1) := by decide +kernel
theorem dX6_counts_92 : decode cX6_counts 92 = .ok (.iaload, 1) := by decide +kernel
theorem dX6_counts_93 : decode cX6_counts 93 = .ok (.aload_n 0, 1) := by decide +kernel
theorem dX6_counts_94 : decode cX6_counts 94 = .ok (.getfield 55, 3) := by decide +kernel
theorem dX6_counts_97 : decode cX6_counts 97 = .ok (.getfield 314, 3) := by decide +kernel
theorem dX6_counts_100 : decode cX6_counts 100 = .ok (.iload_n 1, 1) := by decide +kernel
theorem dX6_counts_101 : decode cX6_counts 101 = .ok (.iaload, 1) := by decide +kernel
theorem dX6_counts_102 : decode cX6_counts 102 = .ok (.if_icmp .ne 34, 3) := by decide +kernel
theorem dX6_counts_105 : decode cX6_counts 105 = .ok (.aload_n 0, 1) := by decide +kernel
theorem dX6_counts_106 : decode cX6_counts 106 = .ok (.getfield 48, 3) := by decide +kernel
theorem dX6_counts_109 : decode cX6_counts 109 = .ok (.iload_n 3, 1) := by decide +kernel
theorem dX6_counts_110 : decode cX6_counts 110 = .ok (.aload_n 0, 1) := by decide +kernel
theorem dX6_counts_111 : decode cX6_counts 111 = .ok (.getfield 55, 3) := by decide +kernel
theorem dX6_counts_114 : decode cX6_counts 114 = .ok (.getfield 245, 3) := by decide +kernel
theorem dX6_counts_117 : decode cX6_counts 117 = .ok (.iload_n 1, 1) := by decide +kernel
theorem dX6_counts_118 : decode cX6_counts 118 = .ok (.iaload, 1) := by decide +kernel
theorem dX6_counts_119 : decode cX6_counts 119 = .ok (.aload_n 0, 1) := by decide +kernel
theorem dX6_counts_120 : decode cX6_counts 120 = .ok (.getfield 55, 3) := by decide +kernel
theorem dX6_counts_123 : decode cX6_counts 123 = .ok (.getfield 251, 3) := by decide +kernel
theorem dX6_counts_126 : decode cX6_counts 126 = .ok (.iload_n 1, 1) := by decide +kernel
theorem dX6_counts_127 : decode cX6_counts 127 = .ok (.iaload, 1) := by decide +kernel
theorem dX6_counts_128 : decode cX6_counts 128 = .ok (.invokevirtual 315, 3) := by decide +kernel
theorem dX6_counts_131 : decode cX6_counts 131 = .ok (.ifCond .eq 5, 3) := by decide +kernel
theorem dX6_counts_134 : decode cX6_counts 134 = .ok (.iconst 1, 1) := by decide +kernel
theorem dX6_counts_135 : decode cX6_counts 135 = .ok (.ireturn, 1) := by decide +kernel
theorem dX6_counts_136 : decode cX6_counts 136 = .ok (.iinc 3 1, 3) := by decide +kernel
theorem dX6_counts_139 : decode cX6_counts 139 = .ok (.goto (-120), 3) := by decide +kernel
theorem dX6_counts_142 : decode cX6_counts 142 = .ok (.iconst 0, 1) := by decide +kernel
theorem dX6_counts_143 : decode cX6_counts 143 = .ok (.ireturn, 1) := by decide +kernel
theorem dX7_init_0 : decode cX7_init 0 = .ok (.aload_n 0, 1) := by decide +kernel
theorem dX7_init_1 : decode cX7_init 1 = .ok (.invokespecial 1, 3) := by decide +kernel
theorem dX7_init_4 : decode cX7_init 4 = .ok (.aload_n 0, 1) := by decide +kernel
theorem dX7_init_5 : decode cX7_init 5 = .ok (.bipush 50, 2) := by decide +kernel
theorem dX7_init_7 : decode cX7_init 7 = .ok (.putfield 7, 3) := by decide +kernel
theorem dX7_init_10 : decode cX7_init 10 = .ok (.aload_n 0, 1) := by decide +kernel
theorem dX7_init_11 : decode cX7_init 11 = .ok (.bipush 48, 2) := by decide +kernel
theorem dX7_init_13 : decode cX7_init 13 = .ok (.newarray .int, 2) := by decide +kernel
theorem dX7_init_15 : decode cX7_init 15 = .ok (.putfield 13, 3) := by decide +kernel
theorem dX7_init_18 : decode cX7_init 18 = .ok (.aload_n 0, 1) := by decide +kernel
theorem dX7_init_19 : decode cX7_init 19 = .ok (.bipush 48, 2) := by decide +kernel
theorem dX7_init_21 : decode cX7_init 21 = .ok (.newarray .int, 2) := by decide +kernel
theorem dX7_init_23 : decode cX7_init 23 = .ok (.putfield 17, 3) := by decide +kernel
theorem dX7_init_26 : decode cX7_init 26 = .ok (.aload_n 0, 1) := by decide +kernel
theorem dX7_init_27 : decode cX7_init 27 = .ok (.bipush 48, 2) := by decide +kernel
theorem dX7_init_29 : decode cX7_init 29 = .ok (.newarray .boolean, 2) := by decide +kernel
theorem dX7_init_31 : decode cX7_init 31 = .ok (.putfield 20, 3) := by decide +kernel
theorem dX7_init_34 : decode cX7_init 34 = .ok (.aload_n 0, 1) := by decide +kernel
theorem dX7_init_35 : decode cX7_init 35 = .ok (.bipush 48, 2) := by decide +kernel
theorem dX7_init_37 : decode cX7_init 37 = .ok (.newarray .int, 2) := by decide +kernel
theorem dX7_init_39 : decode cX7_init 39 = .ok (.putfield 24, 3) := by decide +kernel
theorem dX7_init_42 : decode cX7_init 42 = .ok (.aload_n 0, 1) := by decide +kernel
theorem dX7_init_43 : decode cX7_init 43 = .ok (.bipush 12, 2) := by decide +kernel
theorem dX7_init_45 : decode cX7_init 45 = .ok (.newarray .int, 2) := by decide +kernel
theorem dX7_init_47 : decode cX7_init 47 = .ok (.putfield 27, 3) := by decide +kernel
theorem dX7_init_50 : decode cX7_init 50 = .ok (.aload_n 0, 1) := by decide +kernel
theorem dX7_init_51 : decode cX7_init 51 = .ok (.bipush 12, 2) := by decide +kernel
theorem dX7_init_53 : decode cX7_init 53 = .ok (.newarray .int, 2) := by decide +kernel
theorem dX7_init_55 : decode cX7_init 55 = .ok (.putfield 30, 3) := by decide +kernel
theorem dX7_init_58 : decode cX7_init 58 = .ok (.aload_n 0, 1) := by decide +kernel
theorem dX7_init_59 : decode cX7_init 59 = .ok (.bipush 12, 2) := by decide +kernel
theorem dX7_init_61 : decode cX7_init 61 = .ok (.newarray .int, 2) := by decide +kernel
theorem dX7_init_63 : decode cX7_init 63 = .ok (.putfield 33, 3) := by decide +kernel
theorem dX7_init_66 : decode cX7_init 66 = .ok (.aload_n 0, 1) := by decide +kernel
theorem dX7_init_67 : decode cX7_init 67 = .ok (.bipush 12, 2) := by decide +kernel
theorem dX7_init_69 : decode cX7_init 69 = .ok (.newarray .int, 2) := by decide +kernel
theorem dX7_init_71 : decode cX7_init 71 = .ok (.putfield 36, 3) := by decide +kernel
theorem dX7_init_74 : decode cX7_init 74 = .ok (.aload_n 0, 1) := by decide +kernel
theorem dX7_init_75 : decode cX7_init 75 = .ok (.bipush 6, 2) := by decide +kernel
theorem dX7_init_77 : decode cX7_init 77 = .ok (.newarray .int, 2) := by decide +kernel
theorem dX7_init_79 : decode cX7_init 79 = .ok (.putfield 39, 3) := by decide +kernel
theorem dX7_init_82 : decode cX7_init 82 = .ok (.aload_n 0, 1) := by decide +kernel
theorem dX7_init_83 : decode cX7_init 83 = .ok (.bipush 6, 2) := by decide +kernel
theorem dX7_init_85 : decode cX7_init 85 = .ok (.newarray .int, 2) := by decide +kernel
theorem dX7_init_87 : decode cX7_init 87 = .ok (.putfield 42, 3) := by decide +kernel
theorem dX7_init_90 : decode cX7_init 90 = .ok (.aload_n 0, 1) := by decide +kernel
theorem dX7_init_91 : decode cX7_init 91 = .ok (.bipush 6, 2) := by decide +kernel
theorem dX7_init_93 : decode cX7_init 93 = .ok (.newarray .int, 2) := by decide +kernel
theorem dX7_init_95 : decode cX7_init 95 = .ok (.putfield 45, 3) := by decide +kernel
theorem dX7_init_98 : decode cX7_init 98 = .ok (.aload_n 0, 1) := by decide +kernel
theorem dX7_init_99 : decode cX7_init 99 = .ok (.bipush 60, 2) := by decide +kernel
theorem dX7_init_101 : decode cX7_init 101 = .ok (.newarray .int, 2) := by decide +kernel
theorem dX7_init_103 : decode cX7_init 103 = .ok (.putfield 48, 3) := by decide +kernel
theorem dX7_init_106 : decode cX7_init 106 = .ok (.aload_n 0, 1) := by decide +kernel
theorem dX7_init_107 : decode cX7_init 107 = .ok (.bipush 60, 2) := by decide +kernel
theorem dX7_init_109 : decode cX7_init 109 = .ok (.newarray .int, 2) := by decide +kernel
theorem dX7_init_111 : decode cX7_init 111 = .ok (.putfield 51, 3) := by decide +kernel
theorem dX7_init_114 : decode cX7_init 114 = .ok (.aload_n 0, 1) := by decide +kernel
theorem dX7_init_115 : decode cX7_init 115 = .ok (.bipush 60, 2) := by decide +kernel
theorem dX7_init_117 : decode cX7_init 117 = .ok (.newarray .int, 2) := by decide +kernel
theorem dX7_init_119 : decode cX7_init 119 = .ok (.putfield 54, 3) := by decide +kernel
theorem dX7_init_122 : decode cX7_init 122 = .ok (.aload_n 0, 1) := by decide +kernel
theorem dX7_init_123 : decode cX7_init 123 = .ok (.bipush 60, 2) := by decide +kernel
theorem dX7_init_125 : decode cX7_init 125 = .ok (.newarray .int, 2) := by decide +kernel
theorem dX7_init_127 : decode cX7_init 127 = .ok (.putfield 57, 3) := by decide +kernel
theorem dX7_init_130 : decode cX7_init 130 = .ok (.aload_n 0, 1) := by decide +kernel
theorem dX7_init_131 : decode cX7_init 131 = .ok (.bipush 60, 2) := by decide +kernel
theorem dX7_init_133 : decode cX7_init 133 = .ok (.newarray .int, 2) := by decide +kernel
theorem dX7_init_135 : decode cX7_init 135 = .ok (.putfield 60, 3) := by decide +kernel
theorem dX7_init_138 : decode cX7_init 138 = .ok (.aload_n 0, 1) := by decide +kernel
theorem dX7_init_139 : decode cX7_init 139 = .ok (.bipush 80, 2) := by decide +kernel
theorem dX7_init_141 : decode cX7_init 141 = .ok (.newarray .int, 2) := by decide +kernel
theorem dX7_init_143 : decode cX7_init 143 = .ok (.putfield 63, 3) := by decide +kernel
theorem dX7_init_146 : decode cX7_init 146 = .ok (.aload_n 0, 1) := by decide +kernel
theorem dX7_init_147 : decode cX7_init 147 = .ok (.bipush 80, 2) := by decide +kernel
theorem dX7_init_149 : decode cX7_init 149 = .ok (.newarray .int, 2) := by decide +kernel
theorem dX7_init_151 : decode cX7_init 151 = .ok (.putfield 66, 3) := by decide +kernel
theorem dX7_init_154 : decode cX7_init 154 = .ok (.aload_n 0, 1) := by decide +kernel
theorem dX7_init_155 : decode cX7_init 155 = .ok (.bipush 80, 2) := by decide +kernel
theorem dX7_init_157 : decode cX7_init 157 = .ok (.newarray .int, 2) := by decide +kernel
theorem dX7_init_159 : decode cX7_init 159 = .ok (.putfield 69, 3) := by decide +kernel
theorem dX7_init_162 : decode cX7_init 162 = .ok (.aload_n 0, 1) := by decide +kernel
theorem dX7_init_163 : decode cX7_init 163 = .ok (.bipush 80, 2) := by decide +kernel
theorem dX7_init_165 : decode cX7_init 165 = .ok (.newarray .int, 2) := by decide +kernel
theorem dX7_init_167 : decode cX7_init 167 = .ok (.putfield 72, 3) := by decide +kernel
theorem dX7_init_170 : decode cX7_init 170 = .ok (.aload_n 0, 1) := by decide +kernel
theorem dX7_init_171 : decode cX7_init 171 = .ok (.bipush 80, 2) := by decide +kernel
theorem dX7_init_173 : decode cX7_init 173 = .ok (.newarray .int, 2) := by decide +kernel
theorem dX7_init_175 : decode cX7_init 175 = .ok (.putfield 75, 3) := by decide +kernel
theorem dX7_init_178 : decode cX7_init 178 = .ok (.return_, 1) := by decide +kernel
theorem dX7_thrown_0 : decode cX7_thrown 0 = .ok (.aload_n 0, 1) := by decide +kernel
theorem dX7_thrown_1 : decode cX7_thrown 1 = .ok (.getfield 78, 3) := by decide +kernel
theorem dX7_thrown_4 : decode cX7_thrown 4 = .ok (.ireturn, 1) := by decide +kernel
theorem dX7_goesWell_0 : decode cX7_goesWell 0 = .ok (.aload_n 0, 1) := by decide +kernel
theorem dX7_goesWell_1 : decode cX7_goesWell 1 = .ok (.iload_n 1, 1) := by decide +kernel
theorem dX7_goesWell_2 : decode cX7_goesWell 2 = .ok (.putfield 78, 3) := by decide +kernel
theorem dX7_goesWell_5 : decode cX7_goesWell 5 = .ok (.iload_n 1, 1) := by decide +kernel
theorem dX7_goesWell_6 : decode cX7_goesWell 6 = .ok (.ifCond .ne 7, 3) := by decide +kernel
theorem dX7_goesWell_9 : decode cX7_goesWell 9 = .ok (.iconst 1, 1) := by decide +kernel
theorem dX7_goesWell_10 : decode cX7_goesWell 10 = .ok (.goto 4, 3) := by decide +kernel
theorem dX7_goesWell_13 : decode cX7_goesWell 13 = .ok (.iconst 0, 1) := by decide +kernel
theorem dX7_goesWell_14 : decode cX7_goesWell 14 = .ok (.ireturn, 1) := by decide +kernel
theorem dX7_in_0 : decode cX7_in 0 = .ok (.iload_n 0, 1) := by decide +kernel
theorem dX7_in_1 : decode cX7_in 1 = .ok (.iload_n 1, 1) := by decide +kernel
theorem dX7_in_2 : decode cX7_in 2 = .ok (.if_icmp .lt 12, 3) := by decide +kernel
theorem dX7_in_5 : decode cX7_in 5 = .ok (.iload_n 0, 1) := by decide +kernel
theorem dX7_in_6 : decode cX7_in 6 = .ok (.iload_n 2, 1) := by decide +kernel
theorem dX7_in_7 : decode cX7_in 7 = .ok (.if_icmp .gt 7, 3) := by decide +kernel
theorem dX7_in_10 : decode cX7_in 10 = .ok (.iconst 1, 1) := by decide +kernel
theorem dX7_in_11 : decode cX7_in 11 = .ok (.goto 4, 3) := by decide +kernel
theorem dX7_in_14 : decode cX7_in 14 = .ok (.iconst 0, 1) := by decide +kernel
theorem dX7_in_15 : decode cX7_in 15 = .ok (.ireturn, 1) := by decide +kernel
theorem dX7_isPlace_0 : decode cX7_isPlace 0 = .ok (.iload_n 0, 1) := by decide +kernel
theorem dX7_isPlace_1 : decode cX7_isPlace 1 = .ok (.iconst 0, 1) := by decide +kernel
theorem dX7_isPlace_2 : decode cX7_isPlace 2 = .ok (.bipush 47, 2) := by decide +kernel
theorem dX7_isPlace_4 : decode cX7_isPlace 4 = .ok (.invokestatic 81, 3) := by decide +kernel
theorem dX7_isPlace_7 : decode cX7_isPlace 7 = .ok (.ireturn, 1) := by decide +kernel
theorem dX7_isOn_0 : decode cX7_isOn 0 = .ok (.iload_n 0, 1) := by decide +kernel
theorem dX7_isOn_1 : decode cX7_isOn 1 = .ok (.bipush 10, 2) := by decide +kernel
theorem dX7_isOn_3 : decode cX7_isOn 3 = .ok (.sipush 300, 3) := by decide +kernel
theorem dX7_isOn_6 : decode cX7_isOn 6 = .ok (.invokestatic 81, 3) := by decide +kernel
theorem dX7_isOn_9 : decode cX7_isOn 9 = .ok (.ireturn, 1) := by decide +kernel
theorem dX7_isStation_0 : decode cX7_isStation 0 = .ok (.iload_n 1, 1) := by decide +kernel
theorem dX7_isStation_1 : decode cX7_isStation 1 = .ok (.iconst 0, 1) := by decide +kernel
theorem dX7_isStation_2 : decode cX7_isStation 2 = .ok (.aload_n 0, 1) := by decide +kernel
theorem dX7_isStation_3 : decode cX7_isStation 3 = .ok (.getfield 85, 3) := by decide +kernel
theorem dX7_isStation_6 : decode cX7_isStation 6 = .ok (.iconst 1, 1) := by decide +kernel
theorem dX7_isStation_7 : decode cX7_isStation 7 = .ok (.isub, 1) := by decide +kernel
theorem dX7_isStation_8 : decode cX7_isStation 8 = .ok (.invokestatic 81, 3) := by decide +kernel
theorem dX7_isStation_11 : decode cX7_isStation 11 = .ok (.ireturn, 1) := by decide +kernel
theorem dX7_gap_0 : decode cX7_gap 0 = .ok (.iload_n 0, 1) := by decide +kernel
theorem dX7_gap_1 : decode cX7_gap 1 = .ok (.iload_n 1, 1) := by decide +kernel
theorem dX7_gap_2 : decode cX7_gap 2 = .ok (.if_icmp .le 9, 3) := by decide +kernel
theorem dX7_gap_5 : decode cX7_gap 5 = .ok (.iload_n 0, 1) := by decide +kernel
theorem dX7_gap_6 : decode cX7_gap 6 = .ok (.iload_n 1, 1) := by decide +kernel
theorem dX7_gap_7 : decode cX7_gap 7 = .ok (.isub, 1) := by decide +kernel
theorem dX7_gap_8 : decode cX7_gap 8 = .ok (.goto 6, 3) := by decide +kernel
theorem dX7_gap_11 : decode cX7_gap 11 = .ok (.iload_n 1, 1) := by decide +kernel
theorem dX7_gap_12 : decode cX7_gap 12 = .ok (.iload_n 0, 1) := by decide +kernel
theorem dX7_gap_13 : decode cX7_gap 13 = .ok (.isub, 1) := by decide +kernel
theorem dX7_gap_14 : decode cX7_gap 14 = .ok (.istore_n 2, 1) := by decide +kernel
theorem dX7_gap_15 : decode cX7_gap 15 = .ok (.iload_n 2, 1) := by decide +kernel
theorem dX7_gap_16 : decode cX7_gap 16 = .ok (.bipush 24, 2) := by decide +kernel
theorem dX7_gap_18 : decode cX7_gap 18 = .ok (.if_icmp .le 10, 3) := by decide +kernel
theorem dX7_gap_21 : decode cX7_gap 21 = .ok (.bipush 48, 2) := by decide +kernel
theorem dX7_gap_23 : decode cX7_gap 23 = .ok (.iload_n 2, 1) := by decide +kernel
theorem dX7_gap_24 : decode cX7_gap 24 = .ok (.isub, 1) := by decide +kernel
theorem dX7_gap_25 : decode cX7_gap 25 = .ok (.goto 4, 3) := by decide +kernel
theorem dX7_gap_28 : decode cX7_gap 28 = .ok (.iload_n 2, 1) := by decide +kernel
theorem dX7_gap_29 : decode cX7_gap 29 = .ok (.ireturn, 1) := by decide +kernel
theorem dX7_sun_0 : decode cX7_sun 0 = .ok (.aload_n 0, 1) := by decide +kernel
theorem dX7_sun_1 : decode cX7_sun 1 = .ok (.iload_n 1, 1) := by decide +kernel
theorem dX7_sun_2 : decode cX7_sun 2 = .ok (.iconst 0, 1) := by decide +kernel
theorem dX7_sun_3 : decode cX7_sun 3 = .ok (.bipush 100, 2) := by decide +kernel
theorem dX7_sun_5 : decode cX7_sun 5 = .ok (.invokestatic 81, 3) := by decide +kernel
theorem dX7_sun_8 : decode cX7_sun 8 = .ok (.ifCond .eq 7, 3) := by decide +kernel
theorem dX7_sun_11 : decode cX7_sun 11 = .ok (.iconst 0, 1) := by decide +kernel
theorem dX7_sun_12 : decode cX7_sun 12 = .ok (.goto 4, 3) := by decide +kernel
theorem dX7_sun_15 : decode cX7_sun 15 = .ok (.iconst 1, 1) := by decide +kernel
theorem dX7_sun_16 : decode cX7_sun 16 = .ok (.invokevirtual 88, 3) := by decide +kernel
theorem dX7_sun_19 : decode cX7_sun 19 = .ok (.ifCond .ne 5, 3) := by decide +kernel
theorem dX7_sun_22 : decode cX7_sun 22 = .ok (.iconst 0, 1) := by decide +kernel
theorem dX7_sun_23 : decode cX7_sun 23 = .ok (.ireturn, 1) := by decide +kernel
theorem dX7_sun_24 : decode cX7_sun 24 = .ok (.aload_n 0, 1) := by decide +kernel
theorem dX7_sun_25 : decode cX7_sun 25 = .ok (.getfield 7, 3) := by decide +kernel
theorem dX7_sun_28 : decode cX7_sun 28 = .ok (.istore_n 2, 1) := by decide +kernel
theorem dX7_sun_29 : decode cX7_sun 29 = .ok (.aload_n 0, 1) := by decide +kernel
theorem dX7_sun_30 : decode cX7_sun 30 = .ok (.iload_n 1, 1) := by decide +kernel
theorem dX7_sun_31 : decode cX7_sun 31 = .ok (.putfield 7, 3) := by decide +kernel
theorem dX7_sun_34 : decode cX7_sun 34 = .ok (.iload_n 2, 1) := by decide +kernel
theorem dX7_sun_35 : decode cX7_sun 35 = .ok (.ireturn, 1) := by decide +kernel
theorem dX7_storm_0 : decode cX7_storm 0 = .ok (.aload_n 0, 1) := by decide +kernel
theorem dX7_storm_1 : decode cX7_storm 1 = .ok (.iload_n 1, 1) := by decide +kernel
theorem dX7_storm_2 : decode cX7_storm 2 = .ok (.iconst 1, 1) := by decide +kernel
theorem dX7_storm_3 : decode cX7_storm 3 = .ok (.bipush 60, 2) := by decide +kernel
theorem dX7_storm_5 : decode cX7_storm 5 = .ok (.invokestatic 81, 3) := by decide +kernel
theorem dX7_storm_8 : decode cX7_storm 8 = .ok (.ifCond .eq 17, 3) := by decide +kernel
theorem dX7_storm_11 : decode cX7_storm 11 = .ok (.iload_n 2, 1) := by decide +kernel
theorem dX7_storm_12 : decode cX7_storm 12 = .ok (.iconst 1, 1) := by decide +kernel
theorem dX7_storm_13 : decode cX7_storm 13 = .ok (.bipush 72, 2) := by decide +kernel
theorem dX7_storm_15 : decode cX7_storm 15 = .ok (.invokestatic 81, 3) := by decide +kernel
theorem dX7_storm_18 : decode cX7_storm 18 = .ok (.ifCond .eq 7, 3) := by decide +kernel
theorem dX7_storm_21 : decode cX7_storm 21 = .ok (.iconst 0, 1) := by decide +kernel
theorem dX7_storm_22 : decode cX7_storm 22 = .ok (.goto 4, 3) := by decide +kernel
theorem dX7_storm_25 : decode cX7_storm 25 = .ok (.iconst 1, 1) := by decide +kernel
theorem dX7_storm_26 : decode cX7_storm 26 = .ok (.invokevirtual 88, 3) := by decide +kernel
theorem dX7_storm_29 : decode cX7_storm 29 = .ok (.ifCond .eq 13, 3) := by decide +kernel
theorem dX7_storm_32 : decode cX7_storm 32 = .ok (.aload_n 0, 1) := by decide +kernel
theorem dX7_storm_33 : decode cX7_storm 33 = .ok (.iload_n 1, 1) := by decide +kernel
theorem dX7_storm_34 : decode cX7_storm 34 = .ok (.putfield 92, 3) := by decide +kernel
theorem dX7_storm_37 : decode cX7_storm 37 = .ok (.aload_n 0, 1) := by decide +kernel
theorem dX7_storm_38 : decode cX7_storm 38 = .ok (.iload_n 2, 1) := by decide +kernel
theorem dX7_storm_39 : decode cX7_storm 39 = .ok (.putfield 95, 3) := by decide +kernel
theorem dX7_storm_42 : decode cX7_storm 42 = .ok (.return_, 1) := by decide +kernel
theorem dX7_flare_0 : decode cX7_flare 0 = .ok (.aload_n 0, 1) := by decide +kernel
theorem dX7_flare_1 : decode cX7_flare 1 = .ok (.iload_n 1, 1) := by decide +kernel
theorem dX7_flare_2 : decode cX7_flare 2 = .ok (.iconst 1, 1) := by decide +kernel
theorem dX7_flare_3 : decode cX7_flare 3 = .ok (.bipush 80, 2) := by decide +kernel
theorem dX7_flare_5 : decode cX7_flare 5 = .ok (.invokestatic 81, 3) := by decide +kernel
theorem dX7_flare_8 : decode cX7_flare 8 = .ok (.ifCond .eq 7, 3) := by decide +kernel
theorem dX7_flare_11 : decode cX7_flare 11 = .ok (.iconst 0, 1) := by decide +kernel
theorem dX7_flare_12 : decode cX7_flare 12 = .ok (.goto 4, 3) := by decide +kernel
theorem dX7_flare_15 : decode cX7_flare 15 = .ok (.iconst 1, 1) := by decide +kernel
theorem dX7_flare_16 : decode cX7_flare 16 = .ok (.invokevirtual 88, 3) := by decide +kernel
theorem dX7_flare_19 : decode cX7_flare 19 = .ok (.ifCond .ne 5, 3) := by decide +kernel
theorem dX7_flare_22 : decode cX7_flare 22 = .ok (.iconst 0, 1) := by decide +kernel
theorem dX7_flare_23 : decode cX7_flare 23 = .ok (.ireturn, 1) := by decide +kernel
theorem dX7_flare_24 : decode cX7_flare 24 = .ok (.aload_n 0, 1) := by decide +kernel
theorem dX7_flare_25 : decode cX7_flare 25 = .ok (.getfield 98, 3) := by decide +kernel
theorem dX7_flare_28 : decode cX7_flare 28 = .ok (.istore_n 2, 1) := by decide +kernel
theorem dX7_flare_29 : decode cX7_flare 29 = .ok (.aload_n 0, 1) := by decide +kernel
theorem dX7_flare_30 : decode cX7_flare 30 = .ok (.iload_n 1, 1) := by decide +kernel
theorem dX7_flare_31 : decode cX7_flare 31 = .ok (.putfield 98, 3) := by decide +kernel
theorem dX7_flare_34 : decode cX7_flare 34 = .ok (.iload_n 2, 1) := by decide +kernel
theorem dX7_flare_35 : decode cX7_flare 35 = .ok (.ireturn, 1) := by decide +kernel
theorem dX7_cloud_0 : decode cX7_cloud 0 = .ok (.iload_n 1, 1) := by decide +kernel
theorem dX7_cloud_1 : decode cX7_cloud 1 = .ok (.invokestatic 101, 3) := by decide +kernel
theorem dX7_cloud_4 : decode cX7_cloud 4 = .ok (.istore 4, 2) := by decide +kernel
theorem dX7_cloud_6 : decode cX7_cloud 6 = .ok (.aload_n 0, 1) := by decide +kernel
theorem dX7_cloud_7 : decode cX7_cloud 7 = .ok (.iload 4, 2) := by decide +kernel
theorem dX7_cloud_9 : decode cX7_cloud 9 = .ok (.ifCond .ne 7, 3) := by decide +kernel
theorem dX7_cloud_12 : decode cX7_cloud 12 = .ok (.iconst 1, 1) := by decide +kernel
theorem dX7_cloud_13 : decode cX7_cloud 13 = .ok (.goto 28, 3) := by decide +kernel
theorem dX7_cloud_16 : decode cX7_cloud 16 = .ok (.iload_n 2, 1) := by decide +kernel
theorem dX7_cloud_17 : decode cX7_cloud 17 = .ok (.iconst 1, 1) := by decide +kernel
theorem dX7_cloud_18 : decode cX7_cloud 18 = .ok (.bipush 100, 2) := by decide +kernel
theorem dX7_cloud_20 : decode cX7_cloud 20 = .ok (.invokestatic 81, 3) := by decide +kernel
theorem dX7_cloud_23 : decode cX7_cloud 23 = .ok (.ifCond .eq 17, 3) := by decide +kernel
theorem dX7_cloud_26 : decode cX7_cloud 26 = .ok (.iload_n 3, 1) := by decide +kernel
theorem dX7_cloud_27 : decode cX7_cloud 27 = .ok (.iconst 1, 1) := by decide +kernel
theorem dX7_cloud_28 : decode cX7_cloud 28 = .ok (.bipush 24, 2) := by decide +kernel
theorem dX7_cloud_30 : decode cX7_cloud 30 = .ok (.invokestatic 81, 3) := by decide +kernel
theorem dX7_cloud_33 : decode cX7_cloud 33 = .ok (.ifCond .eq 7, 3) := by decide +kernel
theorem dX7_cloud_36 : decode cX7_cloud 36 = .ok (.iconst 0, 1) := by decide +kernel
theorem dX7_cloud_37 : decode cX7_cloud 37 = .ok (.goto 4, 3) := by decide +kernel
theorem dX7_cloud_40 : decode cX7_cloud 40 = .ok (.iconst 2, 1) := by decide +kernel
theorem dX7_cloud_41 : decode cX7_cloud 41 = .ok (.invokevirtual 88, 3) := by decide +kernel
theorem dX7_cloud_44 : decode cX7_cloud 44 = .ok (.ifCond .eq 17, 3) := by decide +kernel
theorem dX7_cloud_47 : decode cX7_cloud 47 = .ok (.aload_n 0, 1) := by decide +kernel
theorem dX7_cloud_48 : decode cX7_cloud 48 = .ok (.getfield 13, 3) := by decide +kernel
theorem dX7_cloud_51 : decode cX7_cloud 51 = .ok (.iload_n 1, 1) := by decide +kernel
theorem dX7_cloud_52 : decode cX7_cloud 52 = .ok (.iload_n 2, 1) := by decide +kernel
theorem dX7_cloud_53 : decode cX7_cloud 53 = .ok (.iastore, 1) := by decide +kernel
theorem dX7_cloud_54 : decode cX7_cloud 54 = .ok (.aload_n 0, 1) := by decide +kernel
theorem dX7_cloud_55 : decode cX7_cloud 55 = .ok (.getfield 17, 3) := by decide +kernel
theorem dX7_cloud_58 : decode cX7_cloud 58 = .ok (.iload_n 1, 1) := by decide +kernel
theorem dX7_cloud_59 : decode cX7_cloud 59 = .ok (.iload_n 3, 1) := by decide +kernel
theorem dX7_cloud_60 : decode cX7_cloud 60 = .ok (.iastore, 1) := by decide +kernel
theorem dX7_cloud_61 : decode cX7_cloud 61 = .ok (.return_, 1) := by decide +kernel
theorem dX7_sea_0 : decode cX7_sea 0 = .ok (.aload_n 0, 1) := by decide +kernel
theorem dX7_sea_1 : decode cX7_sea 1 = .ok (.iload_n 1, 1) := by decide +kernel
theorem dX7_sea_2 : decode cX7_sea 2 = .ok (.invokestatic 101, 3) := by decide +kernel
theorem dX7_sea_5 : decode cX7_sea 5 = .ok (.ifCond .eq 7, 3) := by decide +kernel
theorem dX7_sea_8 : decode cX7_sea 8 = .ok (.iconst 0, 1) := by decide +kernel
theorem dX7_sea_9 : decode cX7_sea 9 = .ok (.goto 4, 3) := by decide +kernel
theorem dX7_sea_12 : decode cX7_sea 12 = .ok (.iconst 1, 1) := by decide +kernel
theorem dX7_sea_13 : decode cX7_sea 13 = .ok (.invokevirtual 88, 3) := by decide +kernel
theorem dX7_sea_16 : decode cX7_sea 16 = .ok (.ifCond .ne 5, 3) := by decide +kernel
theorem dX7_sea_19 : decode cX7_sea 19 = .ok (.iconst 0, 1) := by decide +kernel
theorem dX7_sea_20 : decode cX7_sea 20 = .ok (.ireturn, 1) := by decide +kernel
theorem dX7_sea_21 : decode cX7_sea 21 = .ok (.aload_n 0, 1) := by decide +kernel
theorem dX7_sea_22 : decode cX7_sea 22 = .ok (.getfield 20, 3) := by decide +kernel
theorem dX7_sea_25 : decode cX7_sea 25 = .ok (.iload_n 1, 1) := by decide +kernel
theorem dX7_sea_26 : decode cX7_sea 26 = .ok (.baload, 1) := by decide +kernel
theorem dX7_sea_27 : decode cX7_sea 27 = .ok (.istore_n 3, 1) := by decide +kernel
theorem dX7_sea_28 : decode cX7_sea 28 = .ok (.aload_n 0, 1) := by decide +kernel
theorem dX7_sea_29 : decode cX7_sea 29 = .ok (.getfield 20, 3) := by decide +kernel
theorem dX7_sea_32 : decode cX7_sea 32 = .ok (.iload_n 1, 1) := by decide +kernel
theorem dX7_sea_33 : decode cX7_sea 33 = .ok (.iload_n 2, 1) := by decide +kernel
theorem dX7_sea_34 : decode cX7_sea 34 = .ok (.bastore, 1) := by decide +kernel
theorem dX7_sea_35 : decode cX7_sea 35 = .ok (.iload_n 3, 1) := by decide +kernel
theorem dX7_sea_36 : decode cX7_sea 36 = .ok (.ireturn, 1) := by decide +kernel
theorem dX7_noise_0 : decode cX7_noise 0 = .ok (.iload_n 1, 1) := by decide +kernel
theorem dX7_noise_1 : decode cX7_noise 1 = .ok (.invokestatic 101, 3) := by decide +kernel
theorem dX7_noise_4 : decode cX7_noise 4 = .ok (.istore_n 3, 1) := by decide +kernel
theorem dX7_noise_5 : decode cX7_noise 5 = .ok (.aload_n 0, 1) := by decide +kernel
theorem dX7_noise_6 : decode cX7_noise 6 = .ok (.iload_n 3, 1) := by decide +kernel
theorem dX7_noise_7 : decode cX7_noise 7 = .ok (.ifCond .ne 7, 3) := by decide +kernel
theorem dX7_noise_10 : decode cX7_noise 10 = .ok (.iconst 1, 1) := by decide +kernel
theorem dX7_noise_11 : decode cX7_noise 11 = .ok (.goto 18, 3) := by decide +kernel
theorem dX7_noise_14 : decode cX7_noise 14 = .ok (.iload_n 2, 1) := by decide +kernel
theorem dX7_noise_15 : decode cX7_noise 15 = .ok (.iconst 0, 1) := by decide +kernel
theorem dX7_noise_16 : decode cX7_noise 16 = .ok (.bipush 40, 2) := by decide +kernel
theorem dX7_noise_18 : decode cX7_noise 18 = .ok (.invokestatic 81, 3) := by decide +kernel
theorem dX7_noise_21 : decode cX7_noise 21 = .ok (.ifCond .eq 7, 3) := by decide +kernel
theorem dX7_noise_24 : decode cX7_noise 24 = .ok (.iconst 0, 1) := by decide +kernel
theorem dX7_noise_25 : decode cX7_noise 25 = .ok (.goto 4, 3) := by decide +kernel
theorem dX7_noise_28 : decode cX7_noise 28 = .ok (.iconst 2, 1) := by decide +kernel
theorem dX7_noise_29 : decode cX7_noise 29 = .ok (.invokevirtual 88, 3) := by decide +kernel
theorem dX7_noise_32 : decode cX7_noise 32 = .ok (.ifCond .ne 5, 3) := by decide +kernel
theorem dX7_noise_35 : decode cX7_noise 35 = .ok (.iconst 0, 1) := by decide +kernel
theorem dX7_noise_36 : decode cX7_noise 36 = .ok (.ireturn, 1) := by decide +kernel
theorem dX7_noise_37 : decode cX7_noise 37 = .ok (.aload_n 0, 1) := by decide +kernel
theorem dX7_noise_38 : decode cX7_noise 38 = .ok (.getfield 24, 3) := by decide +kernel
theorem dX7_noise_41 : decode cX7_noise 41 = .ok (.iload_n 1, 1) := by decide +kernel
theorem dX7_noise_42 : decode cX7_noise 42 = .ok (.iaload, 1) := by decide +kernel
theorem dX7_noise_43 : decode cX7_noise 43 = .ok (.istore 4, 2) := by decide +kernel
theorem dX7_noise_45 : decode cX7_noise 45 = .ok (.aload_n 0, 1) := by decide +kernel
theorem dX7_noise_46 : decode cX7_noise 46 = .ok (.getfield 24, 3) := by decide +kernel
theorem dX7_noise_49 : decode cX7_noise 49 = .ok (.iload_n 1, 1) := by decide +kernel
theorem dX7_noise_50 : decode cX7_noise 50 = .ok (.iload_n 2, 1) := by decide +kernel
theorem dX7_noise_51 : decode cX7_noise 51 = .ok (.iastore, 1) := by decide +kernel
theorem dX7_noise_52 : decode cX7_noise 52 = .ok (.iload 4, 2) := by decide +kernel
theorem dX7_noise_54 : decode cX7_noise 54 = .ok (.ireturn, 1) := by decide +kernel
theorem dX7_passOne_0 : decode cX7_passOne 0 = .ok (.aload_n 0, 1) := by decide +kernel
theorem dX7_passOne_1 : decode cX7_passOne 1 = .ok (.dup, 1) := by decide +kernel
theorem dX7_passOne_2 : decode cX7_passOne 2 = .ok (.getfield 104, 3) := by decide +kernel
theorem dX7_passOne_5 : decode cX7_passOne 5 = .ok (.iconst 1, 1) := by decide +kernel
theorem dX7_passOne_6 : decode cX7_passOne 6 = .ok (.iadd, 1) := by decide +kernel
theorem dX7_passOne_7 : decode cX7_passOne 7 = .ok (.putfield 104, 3) := by decide +kernel
theorem dX7_passOne_10 : decode cX7_passOne 10 = .ok (.aload_n 0, 1) := by decide +kernel
theorem dX7_passOne_11 : decode cX7_passOne 11 = .ok (.dup, 1) := by decide +kernel
theorem dX7_passOne_12 : decode cX7_passOne 12 = .ok (.getfield 98, 3) := by decide +kernel
theorem dX7_passOne_15 : decode cX7_passOne 15 = .ok (.iconst 2, 1) := by decide +kernel
theorem dX7_passOne_16 : decode cX7_passOne 16 = .ok (.idiv, 1) := by decide +kernel
theorem dX7_passOne_17 : decode cX7_passOne 17 = .ok (.putfield 98, 3) := by decide +kernel
theorem dX7_passOne_20 : decode cX7_passOne 20 = .ok (.aload_n 0, 1) := by decide +kernel
theorem dX7_passOne_21 : decode cX7_passOne 21 = .ok (.dup, 1) := by decide +kernel
theorem dX7_passOne_22 : decode cX7_passOne 22 = .ok (.getfield 95, 3) := by decide +kernel
theorem dX7_passOne_25 : decode cX7_passOne 25 = .ok (.aload_n 0, 1) := by decide +kernel
theorem dX7_passOne_26 : decode cX7_passOne 26 = .ok (.getfield 95, 3) := by decide +kernel
theorem dX7_passOne_29 : decode cX7_passOne 29 = .ok (.ifCond .le 7, 3) := by decide +kernel
theorem dX7_passOne_32 : decode cX7_passOne 32 = .ok (.iconst 1, 1) := by decide +kernel
theorem dX7_passOne_33 : decode cX7_passOne 33 = .ok (.goto 4, 3) := by decide +kernel
theorem dX7_passOne_36 : decode cX7_passOne 36 = .ok (.iconst 0, 1) := by decide +kernel
theorem dX7_passOne_37 : decode cX7_passOne 37 = .ok (.isub, 1) := by decide +kernel
theorem dX7_passOne_38 : decode cX7_passOne 38 = .ok (.putfield 95, 3) := by decide +kernel
theorem dX7_passOne_41 : decode cX7_passOne 41 = .ok (.aload_n 0, 1) := by decide +kernel
theorem dX7_passOne_42 : decode cX7_passOne 42 = .ok (.aload_n 0, 1) := by decide +kernel
theorem dX7_passOne_43 : decode cX7_passOne 43 = .ok (.getfield 95, 3) := by decide +kernel
theorem dX7_passOne_46 : decode cX7_passOne 46 = .ok (.ifCond .le 10, 3) := by decide +kernel
theorem dX7_passOne_49 : decode cX7_passOne 49 = .ok (.aload_n 0, 1) := by decide +kernel
theorem dX7_passOne_50 : decode cX7_passOne 50 = .ok (.getfield 92, 3) := by decide +kernel
theorem dX7_passOne_53 : decode cX7_passOne 53 = .ok (.goto 4, 3) := by decide +kernel
theorem dX7_passOne_56 : decode cX7_passOne 56 = .ok (.iconst 0, 1) := by decide +kernel
theorem dX7_passOne_57 : decode cX7_passOne 57 = .ok (.putfield 92, 3) := by decide +kernel
theorem dX7_passOne_60 : decode cX7_passOne 60 = .ok (.iconst 0, 1) := by decide +kernel
theorem dX7_passOne_61 : decode cX7_passOne 61 = .ok (.istore_n 1, 1) := by decide +kernel
theorem dX7_passOne_62 : decode cX7_passOne 62 = .ok (.iload_n 1, 1) := by decide +kernel
theorem dX7_passOne_63 : decode cX7_passOne 63 = .ok (.bipush 48, 2) := by decide +kernel
theorem dX7_passOne_65 : decode cX7_passOne 65 = .ok (.if_icmp .ge 57, 3) := by decide +kernel
theorem dX7_passOne_68 : decode cX7_passOne 68 = .ok (.aload_n 0, 1) := by decide +kernel
theorem dX7_passOne_69 : decode cX7_passOne 69 = .ok (.getfield 17, 3) := by decide +kernel
theorem dX7_passOne_72 : decode cX7_passOne 72 = .ok (.iload_n 1, 1) := by decide +kernel
theorem dX7_passOne_73 : decode cX7_passOne 73 = .ok (.dup2, 1) := by decide +kernel
theorem dX7_passOne_74 : decode cX7_passOne 74 = .ok (.iaload, 1) := by decide +kernel
theorem dX7_passOne_75 : decode cX7_passOne 75 = .ok (.aload_n 0, 1) := by decide +kernel
theorem dX7_passOne_76 : decode cX7_passOne 76 = .ok (.getfield 17, 3) := by decide +kernel
theorem dX7_passOne_79 : decode cX7_passOne 79 = .ok (.iload_n 1, 1) := by decide +kernel
theorem dX7_passOne_80 : decode cX7_passOne 80 = .ok (.iaload, 1) := by decide +kernel
theorem dX7_passOne_81 : decode cX7_passOne 81 = .ok (.ifCond .le 7, 3) := by decide +kernel
theorem dX7_passOne_84 : decode cX7_passOne 84 = .ok (.iconst 1, 1) := by decide +kernel
theorem dX7_passOne_85 : decode cX7_passOne 85 = .ok (.goto 4, 3) := by decide +kernel
theorem dX7_passOne_88 : decode cX7_passOne 88 = .ok (.iconst 0, 1) := by decide +kernel
theorem dX7_passOne_89 : decode cX7_passOne 89 = .ok (.isub, 1) := by decide +kernel
theorem dX7_passOne_90 : decode cX7_passOne 90 = .ok (.iastore, 1) := by decide +kernel
theorem dX7_passOne_91 : decode cX7_passOne 91 = .ok (.aload_n 0, 1) := by decide +kernel
theorem dX7_passOne_92 : decode cX7_passOne 92 = .ok (.getfield 13, 3) := by decide +kernel
theorem dX7_passOne_95 : decode cX7_passOne 95 = .ok (.iload_n 1, 1) := by decide +kernel
theorem dX7_passOne_96 : decode cX7_passOne 96 = .ok (.aload_n 0, 1) := by decide +kernel
theorem dX7_passOne_97 : decode cX7_passOne 97 = .ok (.getfield 17, 3) := by decide +kernel
theorem dX7_passOne_100 : decode cX7_passOne 100 = .ok (.iload_n 1, 1) := by decide +kernel
theorem dX7_passOne_101 : decode cX7_passOne 101 = .ok (.iaload, 1) := by decide +kernel
theorem dX7_passOne_102 : decode cX7_passOne 102 = .ok (.ifCond .le 12, 3) := by decide +kernel
theorem dX7_passOne_105 : decode cX7_passOne 105 = .ok (.aload_n 0, 1) := by decide +kernel
theorem dX7_passOne_106 : decode cX7_passOne 106 = .ok (.getfield 13, 3) := by decide +kernel
theorem dX7_passOne_109 : decode cX7_passOne 109 = .ok (.iload_n 1, 1) := by decide +kernel
theorem dX7_passOne_110 : decode cX7_passOne 110 = .ok (.iaload, 1) := by decide +kernel
theorem dX7_passOne_111 : decode cX7_passOne 111 = .ok (.goto 4, 3) := by decide +kernel
theorem dX7_passOne_114 : decode cX7_passOne 114 = .ok (.iconst 0, 1) := by decide +kernel
theorem dX7_passOne_115 : decode cX7_passOne 115 = .ok (.iastore, 1) := by decide +kernel
theorem dX7_passOne_116 : decode cX7_passOne 116 = .ok (.iinc 1 1, 3) := by decide +kernel
theorem dX7_passOne_119 : decode cX7_passOne 119 = .ok (.goto (-57), 3) := by decide +kernel
theorem dX7_passOne_122 : decode cX7_passOne 122 = .ok (.return_, 1) := by decide +kernel
theorem dX7_pass_0 : decode cX7_pass 0 = .ok (.iload_n 1, 1) := by decide +kernel
theorem dX7_pass_1 : decode cX7_pass 1 = .ok (.iconst 1, 1) := by decide +kernel
theorem dX7_pass_2 : decode cX7_pass 2 = .ok (.bipush 48, 2) := by decide +kernel
theorem dX7_pass_4 : decode cX7_pass 4 = .ok (.invokestatic 81, 3) := by decide +kernel
theorem dX7_pass_7 : decode cX7_pass 7 = .ok (.istore_n 2, 1) := by decide +kernel
theorem dX7_pass_8 : decode cX7_pass 8 = .ok (.aload_n 0, 1) := by decide +kernel
theorem dX7_pass_9 : decode cX7_pass 9 = .ok (.iload_n 2, 1) := by decide +kernel
theorem dX7_pass_10 : decode cX7_pass 10 = .ok (.ifCond .ne 7, 3) := by decide +kernel
theorem dX7_pass_13 : decode cX7_pass 13 = .ok (.iconst 1, 1) := by decide +kernel
theorem dX7_pass_14 : decode cX7_pass 14 = .ok (.goto 20, 3) := by decide +kernel
theorem dX7_pass_17 : decode cX7_pass 17 = .ok (.aload_n 0, 1) := by decide +kernel
theorem dX7_pass_18 : decode cX7_pass 18 = .ok (.getfield 104, 3) := by decide +kernel
theorem dX7_pass_21 : decode cX7_pass 21 = .ok (.iload_n 1, 1) := by decide +kernel
theorem dX7_pass_22 : decode cX7_pass 22 = .ok (.iadd, 1) := by decide +kernel
theorem dX7_pass_23 : decode cX7_pass 23 = .ok (.sipush 5000, 3) := by decide +kernel
theorem dX7_pass_26 : decode cX7_pass 26 = .ok (.if_icmp .le 7, 3) := by decide +kernel
theorem dX7_pass_29 : decode cX7_pass 29 = .ok (.iconst 2, 1) := by decide +kernel
theorem dX7_pass_30 : decode cX7_pass 30 = .ok (.goto 4, 3) := by decide +kernel
theorem dX7_pass_33 : decode cX7_pass 33 = .ok (.iconst 0, 1) := by decide +kernel
theorem dX7_pass_34 : decode cX7_pass 34 = .ok (.invokevirtual 88, 3) := by decide +kernel
theorem dX7_pass_37 : decode cX7_pass 37 = .ok (.ifCond .ne 5, 3) := by decide +kernel
theorem dX7_pass_40 : decode cX7_pass 40 = .ok (.iconst 0, 1) := by decide +kernel
theorem dX7_pass_41 : decode cX7_pass 41 = .ok (.ireturn, 1) := by decide +kernel
theorem dX7_pass_42 : decode cX7_pass 42 = .ok (.iconst 0, 1) := by decide +kernel
theorem dX7_pass_43 : decode cX7_pass 43 = .ok (.istore_n 3, 1) := by decide +kernel
theorem dX7_pass_44 : decode cX7_pass 44 = .ok (.iload_n 3, 1) := by decide +kernel
theorem dX7_pass_45 : decode cX7_pass 45 = .ok (.iload_n 1, 1) := by decide +kernel
theorem dX7_pass_46 : decode cX7_pass 46 = .ok (.if_icmp .ge 13, 3) := by decide +kernel
theorem dX7_pass_49 : decode cX7_pass 49 = .ok (.aload_n 0, 1) := by decide +kernel
theorem dX7_pass_50 : decode cX7_pass 50 = .ok (.invokevirtual 107, 3) := by decide +kernel
theorem dX7_pass_53 : decode cX7_pass 53 = .ok (.iinc 3 1, 3) := by decide +kernel
theorem dX7_pass_56 : decode cX7_pass 56 = .ok (.goto (-12), 3) := by decide +kernel
theorem dX7_pass_59 : decode cX7_pass 59 = .ok (.aload_n 0, 1) := by decide +kernel
theorem dX7_pass_60 : decode cX7_pass 60 = .ok (.getfield 104, 3) := by decide +kernel
theorem dX7_pass_63 : decode cX7_pass 63 = .ok (.ireturn, 1) := by decide +kernel
theorem dX7_lightOf_0 : decode cX7_lightOf 0 = .ok (.aload_n 0, 1) := by decide +kernel
theorem dX7_lightOf_1 : decode cX7_lightOf 1 = .ok (.getfield 104, 3) := by decide +kernel
theorem dX7_lightOf_4 : decode cX7_lightOf 4 = .ok (.iload_n 2, 1) := by decide +kernel
theorem dX7_lightOf_5 : decode cX7_lightOf 5 = .ok (.iadd, 1) := by decide +kernel
theorem dX7_lightOf_6 : decode cX7_lightOf 6 = .ok (.iload_n 1, 1) := by decide +kernel
theorem dX7_lightOf_7 : decode cX7_lightOf 7 = .ok (.iconst 2, 1) := by decide +kernel
theorem dX7_lightOf_8 : decode cX7_lightOf 8 = .ok (.idiv, 1) := by decide +kernel
theorem dX7_lightOf_9 : decode cX7_lightOf 9 = .ok (.iadd, 1) := by decide +kernel
theorem dX7_lightOf_10 : decode cX7_lightOf 10 = .ok (.bipush 24, 2) := by decide +kernel
theorem dX7_lightOf_12 : decode cX7_lightOf 12 = .ok (.irem, 1) := by decide +kernel
theorem dX7_lightOf_13 : decode cX7_lightOf 13 = .ok (.bipush 12, 2) := by decide +kernel
theorem dX7_lightOf_15 : decode cX7_lightOf 15 = .ok (.isub, 1) := by decide +kernel
theorem dX7_lightOf_16 : decode cX7_lightOf 16 = .ok (.istore_n 3, 1) := by decide +kernel
theorem dX7_lightOf_17 : decode cX7_lightOf 17 = .ok (.iload_n 3, 1) := by decide +kernel
theorem dX7_lightOf_18 : decode cX7_lightOf 18 = .ok (.ifCond .ge 8, 3) := by decide +kernel
theorem dX7_lightOf_21 : decode cX7_lightOf 21 = .ok (.iload_n 3, 1) := by decide +kernel
theorem dX7_lightOf_22 : decode cX7_lightOf 22 = .ok (.ineg, 1) := by decide +kernel
theorem dX7_lightOf_23 : decode cX7_lightOf 23 = .ok (.goto 4, 3) := by decide +kernel
theorem dX7_lightOf_26 : decode cX7_lightOf 26 = .ok (.iload_n 3, 1) := by decide +kernel
theorem dX7_lightOf_27 : decode cX7_lightOf 27 = .ok (.istore 4, 2) := by decide +kernel
theorem dX7_lightOf_29 : decode cX7_lightOf 29 = .ok (.iload 4, 2) := by decide +kernel
theorem dX7_lightOf_31 : decode cX7_lightOf 31 = .ok (.bipush 6, 2) := by decide +kernel
theorem dX7_lightOf_33 : decode cX7_lightOf 33 = .ok (.if_icmp .ge 11, 3) := by decide +kernel
theorem dX7_lightOf_36 : decode cX7_lightOf 36 = .ok (.bipush 6, 2) := by decide +kernel
theorem dX7_lightOf_38 : decode cX7_lightOf 38 = .ok (.iload 4, 2) := by decide +kernel
theorem dX7_lightOf_40 : decode cX7_lightOf 40 = .ok (.isub, 1) := by decide +kernel
theorem dX7_lightOf_41 : decode cX7_lightOf 41 = .ok (.goto 4, 3) := by decide +kernel
theorem dX7_lightOf_44 : decode cX7_lightOf 44 = .ok (.iconst 0, 1) := by decide +kernel
theorem dX7_lightOf_45 : decode cX7_lightOf 45 = .ok (.ireturn, 1) := by decide +kernel
theorem dX7_dense_0 : decode cX7_dense 0 = .ok (.aload_n 0, 1) := by decide +kernel
theorem dX7_dense_1 : decode cX7_dense 1 = .ok (.iload_n 1, 1) := by decide +kernel
theorem dX7_dense_2 : decode cX7_dense 2 = .ok (.iconst 0, 1) := by decide +kernel
theorem dX7_dense_3 : decode cX7_dense 3 = .ok (.invokevirtual 110, 3) := by decide +kernel
theorem dX7_dense_6 : decode cX7_dense 6 = .ok (.istore_n 3, 1) := by decide +kernel
theorem dX7_dense_7 : decode cX7_dense 7 = .ok (.iload_n 2, 1) := by decide +kernel
theorem dX7_dense_8 : decode cX7_dense 8 = .ok (.ifCond .ne 27, 3) := by decide +kernel
theorem dX7_dense_11 : decode cX7_dense 11 = .ok (.iconst 2, 1) := by decide +kernel
theorem dX7_dense_12 : decode cX7_dense 12 = .ok (.iload_n 3, 1) := by decide +kernel
theorem dX7_dense_13 : decode cX7_dense 13 = .ok (.imul, 1) := by decide +kernel
theorem dX7_dense_14 : decode cX7_dense 14 = .ok (.iload_n 3, 1) := by decide +kernel
theorem dX7_dense_15 : decode cX7_dense 15 = .ok (.ifCond .le 17, 3) := by decide +kernel
theorem dX7_dense_18 : decode cX7_dense 18 = .ok (.aload_n 0, 1) := by decide +kernel
theorem dX7_dense_19 : decode cX7_dense 19 = .ok (.getfield 114, 3) := by decide +kernel
theorem dX7_dense_22 : decode cX7_dense 22 = .ok (.ifCond .ne 10, 3) := by decide +kernel
theorem dX7_dense_25 : decode cX7_dense 25 = .ok (.aload_n 0, 1) := by decide +kernel
theorem dX7_dense_26 : decode cX7_dense 26 = .ok (.getfield 98, 3) := by decide +kernel
theorem dX7_dense_29 : decode cX7_dense 29 = .ok (.goto 4, 3) := by decide +kernel
theorem dX7_dense_32 : decode cX7_dense 32 = .ok (.iconst 0, 1) := by decide +kernel
theorem dX7_dense_33 : decode cX7_dense 33 = .ok (.iadd, 1) := by decide +kernel
theorem dX7_dense_34 : decode cX7_dense 34 = .ok (.ireturn, 1) := by decide +kernel
theorem dX7_dense_35 : decode cX7_dense 35 = .ok (.iload_n 2, 1) := by decide +kernel
theorem dX7_dense_36 : decode cX7_dense 36 = .ok (.iconst 1, 1) := by decide +kernel
theorem dX7_dense_37 : decode cX7_dense 37 = .ok (.if_icmp .ne 29, 3) := by decide +kernel
theorem dX7_dense_40 : decode cX7_dense 40 = .ok (.bipush 10, 2) := by decide +kernel
theorem dX7_dense_42 : decode cX7_dense 42 = .ok (.bipush 6, 2) := by decide +kernel
theorem dX7_dense_44 : decode cX7_dense 44 = .ok (.iload_n 3, 1) := by decide +kernel
theorem dX7_dense_45 : decode cX7_dense 45 = .ok (.imul, 1) := by decide +kernel
theorem dX7_dense_46 : decode cX7_dense 46 = .ok (.iadd, 1) := by decide +kernel
theorem dX7_dense_47 : decode cX7_dense 47 = .ok (.aload_n 0, 1) := by decide +kernel
theorem dX7_dense_48 : decode cX7_dense 48 = .ok (.getfield 114, 3) := by decide +kernel
theorem dX7_dense_51 : decode cX7_dense 51 = .ok (.ifCond .eq 7, 3) := by decide +kernel
theorem dX7_dense_54 : decode cX7_dense 54 = .ok (.iconst 0, 1) := by decide +kernel
theorem dX7_dense_55 : decode cX7_dense 55 = .ok (.goto 9, 3) := by decide +kernel
theorem dX7_dense_58 : decode cX7_dense 58 = .ok (.aload_n 0, 1) := by decide +kernel
theorem dX7_dense_59 : decode cX7_dense 59 = .ok (.getfield 13, 3) := by decide +kernel
theorem dX7_dense_62 : decode cX7_dense 62 = .ok (.iload_n 1, 1) := by decide +kernel
theorem dX7_dense_63 : decode cX7_dense 63 = .ok (.iaload, 1) := by decide +kernel
theorem dX7_dense_64 : decode cX7_dense 64 = .ok (.iadd, 1) := by decide +kernel
theorem dX7_dense_65 : decode cX7_dense 65 = .ok (.ireturn, 1) := by decide +kernel
theorem dX7_dense_66 : decode cX7_dense 66 = .ok (.bipush 30, 2) := by decide +kernel
theorem dX7_dense_68 : decode cX7_dense 68 = .ok (.iconst 5, 1) := by decide +kernel
theorem dX7_dense_69 : decode cX7_dense 69 = .ok (.iload_n 3, 1) := by decide +kernel
theorem dX7_dense_70 : decode cX7_dense 70 = .ok (.imul, 1) := by decide +kernel
theorem dX7_dense_71 : decode cX7_dense 71 = .ok (.iadd, 1) := by decide +kernel
theorem dX7_dense_72 : decode cX7_dense 72 = .ok (.aload_n 0, 1) := by decide +kernel
theorem dX7_dense_73 : decode cX7_dense 73 = .ok (.getfield 7, 3) := by decide +kernel
theorem dX7_dense_76 : decode cX7_dense 76 = .ok (.iload_n 3, 1) := by decide +kernel
theorem dX7_dense_77 : decode cX7_dense 77 = .ok (.ifCond .le 7, 3) := by decide +kernel
theorem dX7_dense_80 : decode cX7_dense 80 = .ok (.iconst 2, 1) := by decide +kernel
theorem dX7_dense_81 : decode cX7_dense 81 = .ok (.goto 4, 3) := by decide +kernel
theorem dX7_dense_84 : decode cX7_dense 84 = .ok (.iconst 4, 1) := by decide +kernel
theorem dX7_dense_85 : decode cX7_dense 85 = .ok (.idiv, 1) := by decide +kernel
theorem dX7_dense_86 : decode cX7_dense 86 = .ok (.iadd, 1) := by decide +kernel
theorem dX7_dense_87 : decode cX7_dense 87 = .ok (.aload_n 0, 1) := by decide +kernel
theorem dX7_dense_88 : decode cX7_dense 88 = .ok (.getfield 114, 3) := by decide +kernel
theorem dX7_dense_91 : decode cX7_dense 91 = .ok (.ifCond .eq 7, 3) := by decide +kernel
theorem dX7_dense_94 : decode cX7_dense 94 = .ok (.iconst 0, 1) := by decide +kernel
theorem dX7_dense_95 : decode cX7_dense 95 = .ok (.goto 7, 3) := by decide +kernel
theorem dX7_dense_98 : decode cX7_dense 98 = .ok (.aload_n 0, 1) := by decide +kernel
theorem dX7_dense_99 : decode cX7_dense 99 = .ok (.getfield 92, 3) := by decide +kernel
theorem dX7_dense_102 : decode cX7_dense 102 = .ok (.isub, 1) := by decide +kernel
theorem dX7_dense_103 : decode cX7_dense 103 = .ok (.istore 4, 2) := by decide +kernel
theorem dX7_dense_105 : decode cX7_dense 105 = .ok (.iload 4, 2) := by decide +kernel
theorem dX7_dense_107 : decode cX7_dense 107 = .ok (.iconst 5, 1) := by decide +kernel
theorem dX7_dense_108 : decode cX7_dense 108 = .ok (.if_icmp .ge 7, 3) := by decide +kernel
theorem dX7_dense_111 : decode cX7_dense 111 = .ok (.iconst 5, 1) := by decide +kernel
theorem dX7_dense_112 : decode cX7_dense 112 = .ok (.goto 5, 3) := by decide +kernel
theorem dX7_dense_115 : decode cX7_dense 115 = .ok (.iload 4, 2) := by decide +kernel
theorem dX7_dense_117 : decode cX7_dense 117 = .ok (.ireturn, 1) := by decide +kernel
theorem dX7_on_0 : decode cX7_on 0 = .ok (.iload_n 0, 1) := by decide +kernel
theorem dX7_on_1 : decode cX7_on 1 = .ok (.iload_n 1, 1) := by decide +kernel
theorem dX7_on_2 : decode cX7_on 2 = .ok (.ifCond .eq 7, 3) := by decide +kernel
theorem dX7_on_5 : decode cX7_on 5 = .ok (.iload_n 2, 1) := by decide +kernel
theorem dX7_on_6 : decode cX7_on 6 = .ok (.goto 7, 3) := by decide +kernel
theorem dX7_on_9 : decode cX7_on 9 = .ok (.bipush 48, 2) := by decide +kernel
theorem dX7_on_11 : decode cX7_on 11 = .ok (.iload_n 2, 1) := by decide +kernel
theorem dX7_on_12 : decode cX7_on 12 = .ok (.isub, 1) := by decide +kernel
theorem dX7_on_13 : decode cX7_on 13 = .ok (.iadd, 1) := by decide +kernel
theorem dX7_on_14 : decode cX7_on 14 = .ok (.bipush 48, 2) := by decide +kernel
theorem dX7_on_16 : decode cX7_on 16 = .ok (.irem, 1) := by decide +kernel
theorem dX7_on_17 : decode cX7_on 17 = .ok (.ireturn, 1) := by decide +kernel
theorem dX7_bends_0 : decode cX7_bends 0 = .ok (.bipush 10, 2) := by decide +kernel
theorem dX7_bends_2 : decode cX7_bends 2 = .ok (.iload 4, 2) := by decide +kernel
theorem dX7_bends_4 : decode cX7_bends 4 = .ok (.imul, 1) := by decide +kernel
theorem dX7_bends_5 : decode cX7_bends 5 = .ok (.aload_n 0, 1) := by decide +kernel
theorem dX7_bends_6 : decode cX7_bends 6 = .ok (.iload_n 1, 1) := by decide +kernel
theorem dX7_bends_7 : decode cX7_bends 7 = .ok (.iload_n 2, 1) := by decide +kernel
theorem dX7_bends_8 : decode cX7_bends 8 = .ok (.invokevirtual 118, 3) := by decide +kernel
theorem dX7_bends_11 : decode cX7_bends 11 = .ok (.bipush 46, 2) := by decide +kernel
theorem dX7_bends_13 : decode cX7_bends 13 = .ok (.iconst 4, 1) := by decide +kernel
theorem dX7_bends_14 : decode cX7_bends 14 = .ok (.iload_n 3, 1) := by decide +kernel
theorem dX7_bends_15 : decode cX7_bends 15 = .ok (.imul, 1) := by decide +kernel
theorem dX7_bends_16 : decode cX7_bends 16 = .ok (.isub, 1) := by decide +kernel
theorem dX7_bends_17 : decode cX7_bends 17 = .ok (.imul, 1) := by decide +kernel
theorem dX7_bends_18 : decode cX7_bends 18 = .ok (.if_icmp .gt 7, 3) := by decide +kernel
theorem dX7_bends_21 : decode cX7_bends 21 = .ok (.iconst 1, 1) := by decide +kernel
theorem dX7_bends_22 : decode cX7_bends 22 = .ok (.goto 4, 3) := by decide +kernel
theorem dX7_bends_25 : decode cX7_bends 25 = .ok (.iconst 0, 1) := by decide +kernel
theorem dX7_bends_26 : decode cX7_bends 26 = .ok (.ireturn, 1) := by decide +kernel
theorem dX7_layerOf_0 : decode cX7_layerOf 0 = .ok (.aload_n 0, 1) := by decide +kernel
theorem dX7_layerOf_1 : decode cX7_layerOf 1 = .ok (.iload_n 1, 1) := by decide +kernel
theorem dX7_layerOf_2 : decode cX7_layerOf 2 = .ok (.iload_n 2, 1) := by decide +kernel
theorem dX7_layerOf_3 : decode cX7_layerOf 3 = .ok (.bipush 10, 2) := by decide +kernel
theorem dX7_layerOf_5 : decode cX7_layerOf 5 = .ok (.iload_n 3, 1) := by decide +kernel
theorem dX7_layerOf_6 : decode cX7_layerOf 6 = .ok (.isub, 1) := by decide +kernel
theorem dX7_layerOf_7 : decode cX7_layerOf 7 = .ok (.iconst 4, 1) := by decide +kernel
theorem dX7_layerOf_8 : decode cX7_layerOf 8 = .ok (.idiv, 1) := by decide +kernel
theorem dX7_layerOf_9 : decode cX7_layerOf 9 = .ok (.iconst 2, 1) := by decide +kernel
theorem dX7_layerOf_10 : decode cX7_layerOf 10 = .ok (.idiv, 1) := by decide +kernel
theorem dX7_layerOf_11 : decode cX7_layerOf 11 = .ok (.invokestatic 121, 3) := by decide +kernel
theorem dX7_layerOf_14 : decode cX7_layerOf 14 = .ok (.iconst 1, 1) := by decide +kernel
theorem dX7_layerOf_15 : decode cX7_layerOf 15 = .ok (.iload_n 3, 1) := by decide +kernel
theorem dX7_layerOf_16 : decode cX7_layerOf 16 = .ok (.iload 4, 2) := by decide +kernel
theorem dX7_layerOf_18 : decode cX7_layerOf 18 = .ok (.invokevirtual 125, 3) := by decide +kernel
theorem dX7_layerOf_21 : decode cX7_layerOf 21 = .ok (.ifCond .eq 5, 3) := by decide +kernel
theorem dX7_layerOf_24 : decode cX7_layerOf 24 = .ok (.iconst 1, 1) := by decide +kernel
theorem dX7_layerOf_25 : decode cX7_layerOf 25 = .ok (.ireturn, 1) := by decide +kernel
theorem dX7_layerOf_26 : decode cX7_layerOf 26 = .ok (.aload_n 0, 1) := by decide +kernel
theorem dX7_layerOf_27 : decode cX7_layerOf 27 = .ok (.iload_n 1, 1) := by decide +kernel
theorem dX7_layerOf_28 : decode cX7_layerOf 28 = .ok (.iload_n 2, 1) := by decide +kernel
theorem dX7_layerOf_29 : decode cX7_layerOf 29 = .ok (.bipush 11, 2) := by decide +kernel
theorem dX7_layerOf_31 : decode cX7_layerOf 31 = .ok (.iload_n 3, 1) := by decide +kernel
theorem dX7_layerOf_32 : decode cX7_layerOf 32 = .ok (.isub, 1) := by decide +kernel
theorem dX7_layerOf_33 : decode cX7_layerOf 33 = .ok (.iconst 2, 1) := by decide +kernel
theorem dX7_layerOf_34 : decode cX7_layerOf 34 = .ok (.idiv, 1) := by decide +kernel
theorem dX7_layerOf_35 : decode cX7_layerOf 35 = .ok (.iconst 2, 1) := by decide +kernel
theorem dX7_layerOf_36 : decode cX7_layerOf 36 = .ok (.idiv, 1) := by decide +kernel
theorem dX7_layerOf_37 : decode cX7_layerOf 37 = .ok (.invokestatic 121, 3) := by decide +kernel
theorem dX7_layerOf_40 : decode cX7_layerOf 40 = .ok (.iconst 2, 1) := by decide +kernel
theorem dX7_layerOf_41 : decode cX7_layerOf 41 = .ok (.iload_n 3, 1) := by decide +kernel
theorem dX7_layerOf_42 : decode cX7_layerOf 42 = .ok (.iload 4, 2) := by decide +kernel
theorem dX7_layerOf_44 : decode cX7_layerOf 44 = .ok (.invokevirtual 125, 3) := by decide +kernel
theorem dX7_layerOf_47 : decode cX7_layerOf 47 = .ok (.ifCond .eq 7, 3) := by decide +kernel
theorem dX7_layerOf_50 : decode cX7_layerOf 50 = .ok (.iconst 2, 1) := by decide +kernel
theorem dX7_layerOf_51 : decode cX7_layerOf 51 = .ok (.goto 4, 3) := by decide +kernel
theorem dX7_layerOf_54 : decode cX7_layerOf 54 = .ok (.iconst 0, 1) := by decide +kernel
theorem dX7_layerOf_55 : decode cX7_layerOf 55 = .ok (.ireturn, 1) := by decide +kernel
theorem dX7_lengthOf_0 : decode cX7_lengthOf 0 = .ok (.iload_n 0, 1) := by decide +kernel
theorem dX7_lengthOf_1 : decode cX7_lengthOf 1 = .ok (.iconst 1, 1) := by decide +kernel
theorem dX7_lengthOf_2 : decode cX7_lengthOf 2 = .ok (.if_icmp .ne 12, 3) := by decide +kernel
theorem dX7_lengthOf_5 : decode cX7_lengthOf 5 = .ok (.bipush 10, 2) := by decide +kernel
theorem dX7_lengthOf_7 : decode cX7_lengthOf 7 = .ok (.iload_n 1, 1) := by decide +kernel
theorem dX7_lengthOf_8 : decode cX7_lengthOf 8 = .ok (.isub, 1) := by decide +kernel
theorem dX7_lengthOf_9 : decode cX7_lengthOf 9 = .ok (.iconst 4, 1) := by decide +kernel
theorem dX7_lengthOf_10 : decode cX7_lengthOf 10 = .ok (.idiv, 1) := by decide +kernel
theorem dX7_lengthOf_11 : decode cX7_lengthOf 11 = .ok (.goto 9, 3) := by decide +kernel
theorem dX7_lengthOf_14 : decode cX7_lengthOf 14 = .ok (.bipush 11, 2) := by decide +kernel
theorem dX7_lengthOf_16 : decode cX7_lengthOf 16 = .ok (.iload_n 1, 1) := by decide +kernel
theorem dX7_lengthOf_17 : decode cX7_lengthOf 17 = .ok (.isub, 1) := by decide +kernel
theorem dX7_lengthOf_18 : decode cX7_lengthOf 18 = .ok (.iconst 2, 1) := by decide +kernel
theorem dX7_lengthOf_19 : decode cX7_lengthOf 19 = .ok (.idiv, 1) := by decide +kernel
theorem dX7_lengthOf_20 : decode cX7_lengthOf 20 = .ok (.ireturn, 1) := by decide +kernel
theorem dX7_follow_0 : decode cX7_follow 0 = .ok (.iload_n 1, 1) := by decide +kernel
theorem dX7_follow_1 : decode cX7_follow 1 = .ok (.istore 7, 2) := by decide +kernel
theorem dX7_follow_3 : decode cX7_follow 3 = .ok (.aload_n 0, 1) := by decide +kernel
theorem dX7_follow_4 : decode cX7_follow 4 = .ok (.iconst 0, 1) := by decide +kernel
theorem dX7_follow_5 : decode cX7_follow 5 = .ok (.putfield 129, 3) := by decide +kernel
theorem dX7_follow_8 : decode cX7_follow 8 = .ok (.aload_n 0, 1) := by decide +kernel
theorem dX7_follow_9 : decode cX7_follow 9 = .ok (.iconst 0, 1) := by decide +kernel
theorem dX7_follow_10 : decode cX7_follow 10 = .ok (.putfield 132, 3) := by decide +kernel
theorem dX7_follow_13 : decode cX7_follow 13 = .ok (.aload_n 0, 1) := by decide +kernel
theorem dX7_follow_14 : decode cX7_follow 14 = .ok (.iload 6, 2) := by decide +kernel
theorem dX7_follow_16 : decode cX7_follow 16 = .ok (.putfield 135, 3) := by decide +kernel
theorem dX7_follow_19 : decode cX7_follow 19 = .ok (.aload_n 0, 1) := by decide +kernel
theorem dX7_follow_20 : decode cX7_follow 20 = .ok (.iconst 0, 1) := by decide +kernel
theorem dX7_follow_21 : decode cX7_follow 21 = .ok (.putfield 138, 3) := by decide +kernel
theorem dX7_follow_24 : decode cX7_follow 24 = .ok (.aload_n 0, 1) := by decide +kernel
theorem dX7_follow_25 : decode cX7_follow 25 = .ok (.getfield 129, 3) := by decide +kernel
theorem dX7_follow_28 : decode cX7_follow 28 = .ok (.bipush 10, 2) := by decide +kernel
theorem dX7_follow_30 : decode cX7_follow 30 = .ok (.if_icmp .ge 207, 3) := by decide +kernel
theorem dX7_follow_33 : decode cX7_follow 33 = .ok (.aload_n 0, 1) := by decide +kernel
theorem dX7_follow_34 : decode cX7_follow 34 = .ok (.getfield 135, 3) := by decide +kernel
theorem dX7_follow_37 : decode cX7_follow 37 = .ok (.ifCond .lt 200, 3) := by decide +kernel
theorem dX7_follow_40 : decode cX7_follow 40 = .ok (.aload_n 0, 1) := by decide +kernel
theorem dX7_follow_41 : decode cX7_follow 41 = .ok (.iload 7, 2) := by decide +kernel
theorem dX7_follow_43 : decode cX7_follow 43 = .ok (.iload_n 3, 1) := by decide +kernel
theorem dX7_follow_44 : decode cX7_follow 44 = .ok (.iload 4, 2) := by decide +kernel
theorem dX7_follow_46 : decode cX7_follow 46 = .ok (.iload 5, 2) := by decide +kernel
theorem dX7_follow_48 : decode cX7_follow 48 = .ok (.invokevirtual 141, 3) := by decide +kernel
theorem dX7_follow_51 : decode cX7_follow 51 = .ok (.istore 8, 2) := by decide +kernel
theorem dX7_follow_53 : decode cX7_follow 53 = .ok (.iload 8, 2) := by decide +kernel
theorem dX7_follow_55 : decode cX7_follow 55 = .ok (.ifCond .ne 5, 3) := by decide +kernel
theorem dX7_follow_58 : decode cX7_follow 58 = .ok (.iconst 0, 1) := by decide +kernel
theorem dX7_follow_59 : decode cX7_follow 59 = .ok (.ireturn, 1) := by decide +kernel
theorem dX7_follow_60 : decode cX7_follow 60 = .ok (.aload_n 0, 1) := by decide +kernel
theorem dX7_follow_61 : decode cX7_follow 61 = .ok (.dup, 1) := by decide +kernel
theorem dX7_follow_62 : decode cX7_follow 62 = .ok (.getfield 135, 3) := by decide +kernel
theorem dX7_follow_65 : decode cX7_follow 65 = .ok (.aload_n 0, 1) := by decide +kernel
theorem dX7_follow_66 : decode cX7_follow 66 = .ok (.getfield 129, 3) := by decide +kernel
theorem dX7_follow_69 : decode cX7_follow 69 = .ok (.ifCond .ne 7, 3) := by decide +kernel
theorem dX7_follow_72 : decode cX7_follow 72 = .ok (.iconst 0, 1) := by decide +kernel
theorem dX7_follow_73 : decode cX7_follow 73 = .ok (.goto 19, 3) := by decide +kernel
theorem dX7_follow_76 : decode cX7_follow 76 = .ok (.aload_n 0, 1) := by decide +kernel
theorem dX7_follow_77 : decode cX7_follow 77 = .ok (.getfield 20, 3) := by decide +kernel
theorem dX7_follow_80 : decode cX7_follow 80 = .ok (.iload 7, 2) := by decide +kernel
theorem dX7_follow_82 : decode cX7_follow 82 = .ok (.baload, 1) := by decide +kernel
theorem dX7_follow_83 : decode cX7_follow 83 = .ok (.ifCond .eq 7, 3) := by decide +kernel
theorem dX7_follow_86 : decode cX7_follow 86 = .ok (.iconst 3, 1) := by decide +kernel
theorem dX7_follow_87 : decode cX7_follow 87 = .ok (.goto 5, 3) := by decide +kernel
theorem dX7_follow_90 : decode cX7_follow 90 = .ok (.bipush 6, 2) := by decide +kernel
theorem dX7_follow_92 : decode cX7_follow 92 = .ok (.isub, 1) := by decide +kernel
theorem dX7_follow_93 : decode cX7_follow 93 = .ok (.putfield 135, 3) := by decide +kernel
theorem dX7_follow_96 : decode cX7_follow 96 = .ok (.aload_n 0, 1) := by decide +kernel
theorem dX7_follow_97 : decode cX7_follow 97 = .ok (.getfield 135, 3) := by decide +kernel
theorem dX7_follow_100 : decode cX7_follow 100 = .ok (.ifCond .ge 5, 3) := by decide +kernel
theorem dX7_follow_103 : decode cX7_follow 103 = .ok (.iconst 0, 1) := by decide +kernel
theorem dX7_follow_104 : decode cX7_follow 104 = .ok (.ireturn, 1) := by decide +kernel
theorem dX7_follow_105 : decode cX7_follow 105 = .ok (.iload 8, 2) := by decide +kernel
theorem dX7_follow_107 : decode cX7_follow 107 = .ok (.iload 4, 2) := by decide +kernel
theorem dX7_follow_109 : decode cX7_follow 109 = .ok (.invokestatic 145, 3) := by decide +kernel
theorem dX7_follow_112 : decode cX7_follow 112 = .ok (.istore 9, 2) := by decide +kernel
theorem dX7_follow_114 : decode cX7_follow 114 = .ok (.iload 7, 2) := by decide +kernel
theorem dX7_follow_116 : decode cX7_follow 116 = .ok (.iload_n 3, 1) := by decide +kernel
theorem dX7_follow_117 : decode cX7_follow 117 = .ok (.iload 9, 2) := by decide +kernel
theorem dX7_follow_119 : decode cX7_follow 119 = .ok (.invokestatic 121, 3) := by decide +kernel
theorem dX7_follow_122 : decode cX7_follow 122 = .ok (.istore 10, 2) := by decide +kernel
theorem dX7_follow_124 : decode cX7_follow 124 = .ok (.aload_n 0, 1) := by decide +kernel
theorem dX7_follow_125 : decode cX7_follow 125 = .ok (.dup, 1) := by decide +kernel
theorem dX7_follow_126 : decode cX7_follow 126 = .ok (.getfield 135, 3) := by decide +kernel
theorem dX7_follow_129 : decode cX7_follow 129 = .ok (.iconst 2, 1) := by decide +kernel
theorem dX7_follow_130 : decode cX7_follow 130 = .ok (.iload 9, 2) := by decide +kernel
theorem dX7_follow_132 : decode cX7_follow 132 = .ok (.iadd, 1) := by decide +kernel
theorem dX7_follow_133 : decode cX7_follow 133 = .ok (.aload_n 0, 1) := by decide +kernel
theorem dX7_follow_134 : decode cX7_follow 134 = .ok (.iload 7, 2) := by decide +kernel
theorem dX7_follow_136 : decode cX7_follow 136 = .ok (.iconst 0, 1) := by decide +kernel
theorem dX7_follow_137 : decode cX7_follow 137 = .ok (.invokevirtual 118, 3) := by decide +kernel
theorem dX7_follow_140 : decode cX7_follow 140 = .ok (.aload_n 0, 1) := by decide +kernel
theorem dX7_follow_141 : decode cX7_follow 141 = .ok (.iload 10, 2) := by decide +kernel
theorem dX7_follow_143 : decode cX7_follow 143 = .ok (.iconst 0, 1) := by decide +kernel
theorem dX7_follow_144 : decode cX7_follow 144 = .ok (.invokevirtual 118, 3) := by decide +kernel
theorem dX7_follow_147 : decode cX7_follow 147 = .ok (.iadd, 1) := by decide +kernel
theorem dX7_follow_148 : decode cX7_follow 148 = .ok (.bipush 40, 2) := by decide +kernel
theorem dX7_follow_150 : decode cX7_follow 150 = .ok (.imul, 1) := by decide +kernel
theorem dX7_follow_151 : decode cX7_follow 151 = .ok (.iload 5, 2) := by decide +kernel
theorem dX7_follow_153 : decode cX7_follow 153 = .ok (.idiv, 1) := by decide +kernel
theorem dX7_follow_154 : decode cX7_follow 154 = .ok (.iadd, 1) := by decide +kernel
theorem dX7_follow_155 : decode cX7_follow 155 = .ok (.isub, 1) := by decide +kernel
theorem dX7_follow_156 : decode cX7_follow 156 = .ok (.putfield 135, 3) := by decide +kernel
theorem dX7_follow_159 : decode cX7_follow 159 = .ok (.aload_n 0, 1) := by decide +kernel
theorem dX7_follow_160 : decode cX7_follow 160 = .ok (.dup, 1) := by decide +kernel
theorem dX7_follow_161 : decode cX7_follow 161 = .ok (.getfield 138, 3) := by decide +kernel
theorem dX7_follow_164 : decode cX7_follow 164 = .ok (.bipush 10, 2) := by decide +kernel
theorem dX7_follow_166 : decode cX7_follow 166 = .ok (.iload 9, 2) := by decide +kernel
theorem dX7_follow_168 : decode cX7_follow 168 = .ok (.imul, 1) := by decide +kernel
theorem dX7_follow_169 : decode cX7_follow 169 = .ok (.iload 8, 2) := by decide +kernel
theorem dX7_follow_171 : decode cX7_follow 171 = .ok (.iconst 1, 1) := by decide +kernel
theorem dX7_follow_172 : decode cX7_follow 172 = .ok (.if_icmp .ne 7, 3) := by decide +kernel
theorem dX7_follow_175 : decode cX7_follow 175 = .ok (.iconst 2, 1) := by decide +kernel
theorem dX7_follow_176 : decode cX7_follow 176 = .ok (.goto 4, 3) := by decide +kernel
theorem dX7_follow_179 : decode cX7_follow 179 = .ok (.iconst 5, 1) := by decide +kernel
theorem dX7_follow_180 : decode cX7_follow 180 = .ok (.iadd, 1) := by decide +kernel
theorem dX7_follow_181 : decode cX7_follow 181 = .ok (.iadd, 1) := by decide +kernel
theorem dX7_follow_182 : decode cX7_follow 182 = .ok (.putfield 138, 3) := by decide +kernel
theorem dX7_follow_185 : decode cX7_follow 185 = .ok (.aload_n 0, 1) := by decide +kernel
theorem dX7_follow_186 : decode cX7_follow 186 = .ok (.dup, 1) := by decide +kernel
theorem dX7_follow_187 : decode cX7_follow 187 = .ok (.getfield 132, 3) := by decide +kernel
theorem dX7_follow_190 : decode cX7_follow 190 = .ok (.iload 8, 2) := by decide +kernel
theorem dX7_follow_192 : decode cX7_follow 192 = .ok (.iconst 1, 1) := by decide +kernel
theorem dX7_follow_193 : decode cX7_follow 193 = .ok (.if_icmp .ne 7, 3) := by decide +kernel
theorem dX7_follow_196 : decode cX7_follow 196 = .ok (.iconst 1, 1) := by decide +kernel
theorem dX7_follow_197 : decode cX7_follow 197 = .ok (.goto 4, 3) := by decide +kernel
theorem dX7_follow_200 : decode cX7_follow 200 = .ok (.iconst 0, 1) := by decide +kernel
theorem dX7_follow_201 : decode cX7_follow 201 = .ok (.iadd, 1) := by decide +kernel
theorem dX7_follow_202 : decode cX7_follow 202 = .ok (.putfield 132, 3) := by decide +kernel
theorem dX7_follow_205 : decode cX7_follow 205 = .ok (.aload_n 0, 1) := by decide +kernel
theorem dX7_follow_206 : decode cX7_follow 206 = .ok (.dup, 1) := by decide +kernel
theorem dX7_follow_207 : decode cX7_follow 207 = .ok (.getfield 129, 3) := by decide +kernel
theorem dX7_follow_210 : decode cX7_follow 210 = .ok (.iconst 1, 1) := by decide +kernel
theorem dX7_follow_211 : decode cX7_follow 211 = .ok (.iadd, 1) := by decide +kernel
theorem dX7_follow_212 : decode cX7_follow 212 = .ok (.putfield 129, 3) := by decide +kernel
theorem dX7_follow_215 : decode cX7_follow 215 = .ok (.iload 10, 2) := by decide +kernel
theorem dX7_follow_217 : decode cX7_follow 217 = .ok (.istore 7, 2) := by decide +kernel
theorem dX7_follow_219 : decode cX7_follow 219 = .ok (.aload_n 0, 1) := by decide +kernel
theorem dX7_follow_220 : decode cX7_follow 220 = .ok (.getfield 135, 3) := by decide +kernel
theorem dX7_follow_223 : decode cX7_follow 223 = .ok (.ifCond .lt 11, 3) := by decide +kernel
theorem dX7_follow_226 : decode cX7_follow 226 = .ok (.iload 7, 2) := by decide +kernel
theorem dX7_follow_228 : decode cX7_follow 228 = .ok (.iload_n 2, 1) := by decide +kernel
theorem dX7_follow_229 : decode cX7_follow 229 = .ok (.if_icmp .ne 5, 3) := by decide +kernel
theorem dX7_follow_232 : decode cX7_follow 232 = .ok (.iconst 1, 1) := by decide +kernel
theorem dX7_follow_233 : decode cX7_follow 233 = .ok (.ireturn, 1) := by decide +kernel
theorem dX7_follow_234 : decode cX7_follow 234 = .ok (.goto (-210), 3) := by decide +kernel
theorem dX7_follow_237 : decode cX7_follow 237 = .ok (.iconst 0, 1) := by decide +kernel
theorem dX7_follow_238 : decode cX7_follow 238 = .ok (.ireturn, 1) := by decide +kernel
theorem dX7_followBy_0 : decode cX7_followBy 0 = .ok (.aload_n 0, 1) := by decide +kernel
theorem dX7_followBy_1 : decode cX7_followBy 1 = .ok (.iload_n 1, 1) := by decide +kernel
theorem dX7_followBy_2 : decode cX7_followBy 2 = .ok (.iload_n 2, 1) := by decide +kernel
theorem dX7_followBy_3 : decode cX7_followBy 3 = .ok (.iload_n 3, 1) := by decide +kernel
theorem dX7_followBy_4 : decode cX7_followBy 4 = .ok (.bipush 9, 2) := by decide +kernel
theorem dX7_followBy_6 : decode cX7_followBy 6 = .ok (.if_icmp .ge 7, 3) := by decide +kernel
theorem dX7_followBy_9 : decode cX7_followBy 9 = .ok (.iconst 1, 1) := by decide +kernel
theorem dX7_followBy_10 : decode cX7_followBy 10 = .ok (.goto 4, 3) := by decide +kernel
theorem dX7_followBy_13 : decode cX7_followBy 13 = .ok (.iconst 0, 1) := by decide +kernel
theorem dX7_followBy_14 : decode cX7_followBy 14 = .ok (.iload_n 3, 1) := by decide +kernel
theorem dX7_followBy_15 : decode cX7_followBy 15 = .ok (.bipush 9, 2) := by decide +kernel
theorem dX7_followBy_17 : decode cX7_followBy 17 = .ok (.irem, 1) := by decide +kernel
theorem dX7_followBy_18 : decode cX7_followBy 18 = .ok (.iconst 1, 1) := by decide +kernel
theorem dX7_followBy_19 : decode cX7_followBy 19 = .ok (.iadd, 1) := by decide +kernel
theorem dX7_followBy_20 : decode cX7_followBy 20 = .ok (.iload 4, 2) := by decide +kernel
theorem dX7_followBy_22 : decode cX7_followBy 22 = .ok (.iload 5, 2) := by decide +kernel
theorem dX7_followBy_24 : decode cX7_followBy 24 = .ok (.invokevirtual 148, 3) := by decide +kernel
theorem dX7_followBy_27 : decode cX7_followBy 27 = .ok (.ireturn, 1) := by decide +kernel
theorem dX7_landed_0 : decode cX7_landed 0 = .ok (.iload_n 1, 1) := by decide +kernel
theorem dX7_landed_1 : decode cX7_landed 1 = .ok (.istore 6, 2) := by decide +kernel
theorem dX7_landed_3 : decode cX7_landed 3 = .ok (.iconst 0, 1) := by decide +kernel
theorem dX7_landed_4 : decode cX7_landed 4 = .ok (.istore 7, 2) := by decide +kernel
theorem dX7_landed_6 : decode cX7_landed 6 = .ok (.iload 7, 2) := by decide +kernel
theorem dX7_landed_8 : decode cX7_landed 8 = .ok (.iload 5, 2) := by decide +kernel
theorem dX7_landed_10 : decode cX7_landed 10 = .ok (.if_icmp .ge 42, 3) := by decide +kernel
theorem dX7_landed_13 : decode cX7_landed 13 = .ok (.aload_n 0, 1) := by decide +kernel
theorem dX7_landed_14 : decode cX7_landed 14 = .ok (.iload 6, 2) := by decide +kernel
theorem dX7_landed_16 : decode cX7_landed 16 = .ok (.iload_n 2, 1) := by decide +kernel
theorem dX7_landed_17 : decode cX7_landed 17 = .ok (.iload_n 3, 1) := by decide +kernel
theorem dX7_landed_18 : decode cX7_landed 18 = .ok (.iload 4, 2) := by decide +kernel
theorem dX7_landed_20 : decode cX7_landed 20 = .ok (.invokevirtual 141, 3) := by decide +kernel
theorem dX7_landed_23 : decode cX7_landed 23 = .ok (.istore 8, 2) := by decide +kernel
theorem dX7_landed_25 : decode cX7_landed 25 = .ok (.iload 8, 2) := by decide +kernel
theorem dX7_landed_27 : decode cX7_landed 27 = .ok (.ifCond .ne 5, 3) := by decide +kernel
theorem dX7_landed_30 : decode cX7_landed 30 = .ok (.iconst (-1), 1) := by decide +kernel
theorem dX7_landed_31 : decode cX7_landed 31 = .ok (.ireturn, 1) := by decide +kernel
theorem dX7_landed_32 : decode cX7_landed 32 = .ok (.iload 6, 2) := by decide +kernel
theorem dX7_landed_34 : decode cX7_landed 34 = .ok (.iload_n 2, 1) := by decide +kernel
theorem dX7_landed_35 : decode cX7_landed 35 = .ok (.iload 8, 2) := by decide +kernel
theorem dX7_landed_37 : decode cX7_landed 37 = .ok (.iload_n 3, 1) := by decide +kernel
theorem dX7_landed_38 : decode cX7_landed 38 = .ok (.invokestatic 145, 3) := by decide +kernel
theorem dX7_landed_41 : decode cX7_landed 41 = .ok (.invokestatic 121, 3) := by decide +kernel
theorem dX7_landed_44 : decode cX7_landed 44 = .ok (.istore 6, 2) := by decide +kernel
theorem dX7_landed_46 : decode cX7_landed 46 = .ok (.iinc 7 1, 3) := by decide +kernel
theorem dX7_landed_49 : decode cX7_landed 49 = .ok (.goto (-43), 3) := by decide +kernel
theorem dX7_landed_52 : decode cX7_landed 52 = .ok (.iload 6, 2) := by decide +kernel
theorem dX7_landed_54 : decode cX7_landed 54 = .ok (.ireturn, 1) := by decide +kernel
theorem dX7_landing_0 : decode cX7_landing 0 = .ok (.iload_n 1, 1) := by decide +kernel
theorem dX7_landing_1 : decode cX7_landing 1 = .ok (.invokestatic 101, 3) := by decide +kernel
theorem dX7_landing_4 : decode cX7_landing 4 = .ok (.istore 6, 2) := by decide +kernel
theorem dX7_landing_6 : decode cX7_landing 6 = .ok (.iload_n 3, 1) := by decide +kernel
theorem dX7_landing_7 : decode cX7_landing 7 = .ok (.iconst 1, 1) := by decide +kernel
theorem dX7_landing_8 : decode cX7_landing 8 = .ok (.bipush 9, 2) := by decide +kernel
theorem dX7_landing_10 : decode cX7_landing 10 = .ok (.invokestatic 81, 3) := by decide +kernel
theorem dX7_landing_13 : decode cX7_landing 13 = .ok (.ifCond .eq 26, 3) := by decide +kernel
theorem dX7_landing_16 : decode cX7_landing 16 = .ok (.iload 4, 2) := by decide +kernel
theorem dX7_landing_18 : decode cX7_landing 18 = .ok (.invokestatic 152, 3) := by decide +kernel
theorem dX7_landing_21 : decode cX7_landing 21 = .ok (.ifCond .eq 18, 3) := by decide +kernel
theorem dX7_landing_24 : decode cX7_landing 24 = .ok (.iload 5, 2) := by decide +kernel
theorem dX7_landing_26 : decode cX7_landing 26 = .ok (.iconst 1, 1) := by decide +kernel
theorem dX7_landing_27 : decode cX7_landing 27 = .ok (.bipush 10, 2) := by decide +kernel
theorem dX7_landing_29 : decode cX7_landing 29 = .ok (.invokestatic 81, 3) := by decide +kernel
theorem dX7_landing_32 : decode cX7_landing 32 = .ok (.ifCond .eq 7, 3) := by decide +kernel
theorem dX7_landing_35 : decode cX7_landing 35 = .ok (.iconst 1, 1) := by decide +kernel
theorem dX7_landing_36 : decode cX7_landing 36 = .ok (.goto 4, 3) := by decide +kernel
theorem dX7_landing_39 : decode cX7_landing 39 = .ok (.iconst 0, 1) := by decide +kernel
theorem dX7_landing_40 : decode cX7_landing 40 = .ok (.istore 7, 2) := by decide +kernel
theorem dX7_landing_42 : decode cX7_landing 42 = .ok (.aload_n 0, 1) := by decide +kernel
theorem dX7_landing_43 : decode cX7_landing 43 = .ok (.iload 6, 2) := by decide +kernel
theorem dX7_landing_45 : decode cX7_landing 45 = .ok (.ifCond .ne 7, 3) := by decide +kernel
theorem dX7_landing_48 : decode cX7_landing 48 = .ok (.iconst 1, 1) := by decide +kernel
theorem dX7_landing_49 : decode cX7_landing 49 = .ok (.goto 13, 3) := by decide +kernel
theorem dX7_landing_52 : decode cX7_landing 52 = .ok (.iload 7, 2) := by decide +kernel
theorem dX7_landing_54 : decode cX7_landing 54 = .ok (.ifCond .eq 7, 3) := by decide +kernel
theorem dX7_landing_57 : decode cX7_landing 57 = .ok (.iconst 0, 1) := by decide +kernel
theorem dX7_landing_58 : decode cX7_landing 58 = .ok (.goto 4, 3) := by decide +kernel
theorem dX7_landing_61 : decode cX7_landing 61 = .ok (.iconst 2, 1) := by decide +kernel
theorem dX7_landing_62 : decode cX7_landing 62 = .ok (.invokevirtual 88, 3) := by decide +kernel
theorem dX7_landing_65 : decode cX7_landing 65 = .ok (.ifCond .eq 17, 3) := by decide +kernel
theorem dX7_landing_68 : decode cX7_landing 68 = .ok (.aload_n 0, 1) := by decide +kernel
theorem dX7_landing_69 : decode cX7_landing 69 = .ok (.iload_n 1, 1) := by decide +kernel
theorem dX7_landing_70 : decode cX7_landing 70 = .ok (.iload_n 2, 1) := by decide +kernel
theorem dX7_landing_71 : decode cX7_landing 71 = .ok (.iload_n 3, 1) := by decide +kernel
theorem dX7_landing_72 : decode cX7_landing 72 = .ok (.iload 4, 2) := by decide +kernel
theorem dX7_landing_74 : decode cX7_landing 74 = .ok (.iload 5, 2) := by decide +kernel
theorem dX7_landing_76 : decode cX7_landing 76 = .ok (.invokevirtual 155, 3) := by decide +kernel
theorem dX7_landing_79 : decode cX7_landing 79 = .ok (.goto 4, 3) := by decide +kernel
theorem dX7_landing_82 : decode cX7_landing 82 = .ok (.iconst 0, 1) := by decide +kernel
theorem dX7_landing_83 : decode cX7_landing 83 = .ok (.ireturn, 1) := by decide +kernel
theorem dX7_landingAnew_0 : decode cX7_landingAnew 0 = .ok (.iload_n 1, 1) := by decide +kernel
theorem dX7_landingAnew_1 : decode cX7_landingAnew 1 = .ok (.invokestatic 101, 3) := by decide +kernel
theorem dX7_landingAnew_4 : decode cX7_landingAnew 4 = .ok (.istore 6, 2) := by decide +kernel
theorem dX7_landingAnew_6 : decode cX7_landingAnew 6 = .ok (.iload_n 3, 1) := by decide +kernel
theorem dX7_landingAnew_7 : decode cX7_landingAnew 7 = .ok (.iconst 1, 1) := by decide +kernel
theorem dX7_landingAnew_8 : decode cX7_landingAnew 8 = .ok (.bipush 9, 2) := by decide +kernel
theorem dX7_landingAnew_10 : decode cX7_landingAnew 10 = .ok (.invokestatic 81, 3) := by decide +kernel
theorem dX7_landingAnew_13 : decode cX7_landingAnew 13 = .ok (.ifCond .eq 26, 3) := by decide +kernel
theorem dX7_landingAnew_16 : decode cX7_landingAnew 16 = .ok (.iload 4, 2) := by decide +kernel
theorem dX7_landingAnew_18 : decode cX7_landingAnew 18 = .ok (.invokestatic 152, 3) := by decide +kernel
theorem dX7_landingAnew_21 : decode cX7_landingAnew 21 = .ok (.ifCond .eq 18, 3) := by decide +kernel
theorem dX7_landingAnew_24 : decode cX7_landingAnew 24 = .ok (.iload 5, 2) := by decide +kernel
theorem dX7_landingAnew_26 : decode cX7_landingAnew 26 = .ok (.iconst 1, 1) := by decide +kernel
theorem dX7_landingAnew_27 : decode cX7_landingAnew 27 = .ok (.bipush 10, 2) := by decide +kernel
theorem dX7_landingAnew_29 : decode cX7_landingAnew 29 = .ok (.invokestatic 81, 3) := by decide +kernel
theorem dX7_landingAnew_32 : decode cX7_landingAnew 32 = .ok (.ifCond .eq 7, 3) := by decide +kernel
theorem dX7_landingAnew_35 : decode cX7_landingAnew 35 = .ok (.iconst 1, 1) := by decide +kernel
theorem dX7_landingAnew_36 : decode cX7_landingAnew 36 = .ok (.goto 4, 3) := by decide +kernel
theorem dX7_landingAnew_39 : decode cX7_landingAnew 39 = .ok (.iconst 0, 1) := by decide +kernel
theorem dX7_landingAnew_40 : decode cX7_landingAnew 40 = .ok (.istore 7, 2) := by decide +kernel
theorem dX7_landingAnew_42 : decode cX7_landingAnew 42 = .ok (.aload_n 0, 1) := by decide +kernel
theorem dX7_landingAnew_43 : decode cX7_landingAnew 43 = .ok (.iload 6, 2) := by decide +kernel
theorem dX7_landingAnew_45 : decode cX7_landingAnew 45 = .ok (.ifCond .ne 7, 3) := by decide +kernel
theorem dX7_landingAnew_48 : decode cX7_landingAnew 48 = .ok (.iconst 1, 1) := by decide +kernel
theorem dX7_landingAnew_49 : decode cX7_landingAnew 49 = .ok (.goto 13, 3) := by decide +kernel
theorem dX7_landingAnew_52 : decode cX7_landingAnew 52 = .ok (.iload 7, 2) := by decide +kernel
theorem dX7_landingAnew_54 : decode cX7_landingAnew 54 = .ok (.ifCond .eq 7, 3) := by decide +kernel
theorem dX7_landingAnew_57 : decode cX7_landingAnew 57 = .ok (.iconst 0, 1) := by decide +kernel
theorem dX7_landingAnew_58 : decode cX7_landingAnew 58 = .ok (.goto 4, 3) := by decide +kernel
theorem dX7_landingAnew_61 : decode cX7_landingAnew 61 = .ok (.iconst 2, 1) := by decide +kernel
theorem dX7_landingAnew_62 : decode cX7_landingAnew 62 = .ok (.invokevirtual 88, 3) := by decide +kernel
theorem dX7_landingAnew_65 : decode cX7_landingAnew 65 = .ok (.ifCond .eq 17, 3) := by decide +kernel
theorem dX7_landingAnew_68 : decode cX7_landingAnew 68 = .ok (.aload_n 0, 1) := by decide +kernel
theorem dX7_landingAnew_69 : decode cX7_landingAnew 69 = .ok (.iload_n 1, 1) := by decide +kernel
theorem dX7_landingAnew_70 : decode cX7_landingAnew 70 = .ok (.iload_n 2, 1) := by decide +kernel
theorem dX7_landingAnew_71 : decode cX7_landingAnew 71 = .ok (.iload_n 3, 1) := by decide +kernel
theorem dX7_landingAnew_72 : decode cX7_landingAnew 72 = .ok (.iload 4, 2) := by decide +kernel
theorem dX7_landingAnew_74 : decode cX7_landingAnew 74 = .ok (.iload 5, 2) := by decide +kernel
theorem dX7_landingAnew_76 : decode cX7_landingAnew 76 = .ok (.invokevirtual 155, 3) := by decide +kernel
theorem dX7_landingAnew_79 : decode cX7_landingAnew 79 = .ok (.goto 4, 3) := by decide +kernel
theorem dX7_landingAnew_82 : decode cX7_landingAnew 82 = .ok (.iconst 0, 1) := by decide +kernel
theorem dX7_landingAnew_83 : decode cX7_landingAnew 83 = .ok (.ireturn, 1) := by decide +kernel
theorem dX7_pathsOf_0 : decode cX7_pathsOf 0 = .ok (.iconst 0, 1) := by decide +kernel
theorem dX7_pathsOf_1 : decode cX7_pathsOf 1 = .ok (.istore 5, 2) := by decide +kernel
theorem dX7_pathsOf_3 : decode cX7_pathsOf 3 = .ok (.iconst 0, 1) := by decide +kernel
theorem dX7_pathsOf_4 : decode cX7_pathsOf 4 = .ok (.istore 6, 2) := by decide +kernel
theorem dX7_pathsOf_6 : decode cX7_pathsOf 6 = .ok (.iload 6, 2) := by decide +kernel
theorem dX7_pathsOf_8 : decode cX7_pathsOf 8 = .ok (.bipush 18, 2) := by decide +kernel
theorem dX7_pathsOf_10 : decode cX7_pathsOf 10 = .ok (.if_icmp .ge 33, 3) := by decide +kernel
theorem dX7_pathsOf_13 : decode cX7_pathsOf 13 = .ok (.iload 5, 2) := by decide +kernel
theorem dX7_pathsOf_15 : decode cX7_pathsOf 15 = .ok (.aload_n 0, 1) := by decide +kernel
theorem dX7_pathsOf_16 : decode cX7_pathsOf 16 = .ok (.iload_n 1, 1) := by decide +kernel
theorem dX7_pathsOf_17 : decode cX7_pathsOf 17 = .ok (.iload_n 2, 1) := by decide +kernel
theorem dX7_pathsOf_18 : decode cX7_pathsOf 18 = .ok (.iload 6, 2) := by decide +kernel
theorem dX7_pathsOf_20 : decode cX7_pathsOf 20 = .ok (.iload_n 3, 1) := by decide +kernel
theorem dX7_pathsOf_21 : decode cX7_pathsOf 21 = .ok (.iload 4, 2) := by decide +kernel
theorem dX7_pathsOf_23 : decode cX7_pathsOf 23 = .ok (.invokevirtual 159, 3) := by decide +kernel
theorem dX7_pathsOf_26 : decode cX7_pathsOf 26 = .ok (.ifCond .eq 7, 3) := by decide +kernel
theorem dX7_pathsOf_29 : decode cX7_pathsOf 29 = .ok (.iconst 1, 1) := by decide +kernel
theorem dX7_pathsOf_30 : decode cX7_pathsOf 30 = .ok (.goto 4, 3) := by decide +kernel
theorem dX7_pathsOf_33 : decode cX7_pathsOf 33 = .ok (.iconst 0, 1) := by decide +kernel
theorem dX7_pathsOf_34 : decode cX7_pathsOf 34 = .ok (.iadd, 1) := by decide +kernel
theorem dX7_pathsOf_35 : decode cX7_pathsOf 35 = .ok (.istore 5, 2) := by decide +kernel
theorem dX7_pathsOf_37 : decode cX7_pathsOf 37 = .ok (.iinc 6 1, 3) := by decide +kernel
theorem dX7_pathsOf_40 : decode cX7_pathsOf 40 = .ok (.goto (-34), 3) := by decide +kernel
theorem dX7_pathsOf_43 : decode cX7_pathsOf 43 = .ok (.iload 5, 2) := by decide +kernel
theorem dX7_pathsOf_45 : decode cX7_pathsOf 45 = .ok (.ireturn, 1) := by decide +kernel
theorem dX7_paths_0 : decode cX7_paths 0 = .ok (.iload_n 1, 1) := by decide +kernel
theorem dX7_paths_1 : decode cX7_paths 1 = .ok (.invokestatic 101, 3) := by decide +kernel
theorem dX7_paths_4 : decode cX7_paths 4 = .ok (.ifCond .eq 14, 3) := by decide +kernel
theorem dX7_paths_7 : decode cX7_paths 7 = .ok (.iload_n 2, 1) := by decide +kernel
theorem dX7_paths_8 : decode cX7_paths 8 = .ok (.invokestatic 101, 3) := by decide +kernel
theorem dX7_paths_11 : decode cX7_paths 11 = .ok (.ifCond .eq 7, 3) := by decide +kernel
theorem dX7_paths_14 : decode cX7_paths 14 = .ok (.iconst 1, 1) := by decide +kernel
theorem dX7_paths_15 : decode cX7_paths 15 = .ok (.goto 4, 3) := by decide +kernel
theorem dX7_paths_18 : decode cX7_paths 18 = .ok (.iconst 0, 1) := by decide +kernel
theorem dX7_paths_19 : decode cX7_paths 19 = .ok (.istore 5, 2) := by decide +kernel
theorem dX7_paths_21 : decode cX7_paths 21 = .ok (.aload_n 0, 1) := by decide +kernel
theorem dX7_paths_22 : decode cX7_paths 22 = .ok (.iload 5, 2) := by decide +kernel
theorem dX7_paths_24 : decode cX7_paths 24 = .ok (.ifCond .ne 7, 3) := by decide +kernel
theorem dX7_paths_27 : decode cX7_paths 27 = .ok (.iconst 1, 1) := by decide +kernel
theorem dX7_paths_28 : decode cX7_paths 28 = .ok (.goto 26, 3) := by decide +kernel
theorem dX7_paths_31 : decode cX7_paths 31 = .ok (.iload_n 3, 1) := by decide +kernel
theorem dX7_paths_32 : decode cX7_paths 32 = .ok (.invokestatic 152, 3) := by decide +kernel
theorem dX7_paths_35 : decode cX7_paths 35 = .ok (.ifCond .eq 18, 3) := by decide +kernel
theorem dX7_paths_38 : decode cX7_paths 38 = .ok (.iload 4, 2) := by decide +kernel
theorem dX7_paths_40 : decode cX7_paths 40 = .ok (.iconst 0, 1) := by decide +kernel
theorem dX7_paths_41 : decode cX7_paths 41 = .ok (.bipush 100, 2) := by decide +kernel
theorem dX7_paths_43 : decode cX7_paths 43 = .ok (.invokestatic 81, 3) := by decide +kernel
theorem dX7_paths_46 : decode cX7_paths 46 = .ok (.ifCond .eq 7, 3) := by decide +kernel
theorem dX7_paths_49 : decode cX7_paths 49 = .ok (.iconst 0, 1) := by decide +kernel
theorem dX7_paths_50 : decode cX7_paths 50 = .ok (.goto 4, 3) := by decide +kernel
theorem dX7_paths_53 : decode cX7_paths 53 = .ok (.iconst 2, 1) := by decide +kernel
theorem dX7_paths_54 : decode cX7_paths 54 = .ok (.invokevirtual 88, 3) := by decide +kernel
theorem dX7_paths_57 : decode cX7_paths 57 = .ok (.ifCond .eq 15, 3) := by decide +kernel
theorem dX7_paths_60 : decode cX7_paths 60 = .ok (.aload_n 0, 1) := by decide +kernel
theorem dX7_paths_61 : decode cX7_paths 61 = .ok (.iload_n 1, 1) := by decide +kernel
theorem dX7_paths_62 : decode cX7_paths 62 = .ok (.iload_n 2, 1) := by decide +kernel
theorem dX7_paths_63 : decode cX7_paths 63 = .ok (.iload_n 3, 1) := by decide +kernel
theorem dX7_paths_64 : decode cX7_paths 64 = .ok (.iload 4, 2) := by decide +kernel
theorem dX7_paths_66 : decode cX7_paths 66 = .ok (.invokevirtual 163, 3) := by decide +kernel
theorem dX7_paths_69 : decode cX7_paths 69 = .ok (.goto 4, 3) := by decide +kernel
theorem dX7_paths_72 : decode cX7_paths 72 = .ok (.iconst 0, 1) := by decide +kernel
theorem dX7_paths_73 : decode cX7_paths 73 = .ok (.ireturn, 1) := by decide +kernel
theorem dX7_path_0 : decode cX7_path 0 = .ok (.iload_n 1, 1) := by decide +kernel
theorem dX7_path_1 : decode cX7_path 1 = .ok (.invokestatic 101, 3) := by decide +kernel
theorem dX7_path_4 : decode cX7_path 4 = .ok (.ifCond .eq 14, 3) := by decide +kernel
theorem dX7_path_7 : decode cX7_path 7 = .ok (.iload_n 2, 1) := by decide +kernel
theorem dX7_path_8 : decode cX7_path 8 = .ok (.invokestatic 101, 3) := by decide +kernel
theorem dX7_path_11 : decode cX7_path 11 = .ok (.ifCond .eq 7, 3) := by decide +kernel
theorem dX7_path_14 : decode cX7_path 14 = .ok (.iconst 1, 1) := by decide +kernel
theorem dX7_path_15 : decode cX7_path 15 = .ok (.goto 4, 3) := by decide +kernel
theorem dX7_path_18 : decode cX7_path 18 = .ok (.iconst 0, 1) := by decide +kernel
theorem dX7_path_19 : decode cX7_path 19 = .ok (.istore 7, 2) := by decide +kernel
theorem dX7_path_21 : decode cX7_path 21 = .ok (.iload 7, 2) := by decide +kernel
theorem dX7_path_23 : decode cX7_path 23 = .ok (.ifCond .eq 35, 3) := by decide +kernel
theorem dX7_path_26 : decode cX7_path 26 = .ok (.iload_n 3, 1) := by decide +kernel
theorem dX7_path_27 : decode cX7_path 27 = .ok (.invokestatic 152, 3) := by decide +kernel
theorem dX7_path_30 : decode cX7_path 30 = .ok (.ifCond .eq 28, 3) := by decide +kernel
theorem dX7_path_33 : decode cX7_path 33 = .ok (.iload 4, 2) := by decide +kernel
theorem dX7_path_35 : decode cX7_path 35 = .ok (.iconst 0, 1) := by decide +kernel
theorem dX7_path_36 : decode cX7_path 36 = .ok (.bipush 100, 2) := by decide +kernel
theorem dX7_path_38 : decode cX7_path 38 = .ok (.invokestatic 81, 3) := by decide +kernel
theorem dX7_path_41 : decode cX7_path 41 = .ok (.ifCond .eq 17, 3) := by decide +kernel
theorem dX7_path_44 : decode cX7_path 44 = .ok (.iload 6, 2) := by decide +kernel
theorem dX7_path_46 : decode cX7_path 46 = .ok (.iconst 0, 1) := by decide +kernel
theorem dX7_path_47 : decode cX7_path 47 = .ok (.iconst 5, 1) := by decide +kernel
theorem dX7_path_48 : decode cX7_path 48 = .ok (.invokestatic 81, 3) := by decide +kernel
theorem dX7_path_51 : decode cX7_path 51 = .ok (.ifCond .eq 7, 3) := by decide +kernel
theorem dX7_path_54 : decode cX7_path 54 = .ok (.iconst 1, 1) := by decide +kernel
theorem dX7_path_55 : decode cX7_path 55 = .ok (.goto 4, 3) := by decide +kernel
theorem dX7_path_58 : decode cX7_path 58 = .ok (.iconst 0, 1) := by decide +kernel
theorem dX7_path_59 : decode cX7_path 59 = .ok (.istore 8, 2) := by decide +kernel
theorem dX7_path_61 : decode cX7_path 61 = .ok (.iload 8, 2) := by decide +kernel
theorem dX7_path_63 : decode cX7_path 63 = .ok (.ifCond .eq 27, 3) := by decide +kernel
theorem dX7_path_66 : decode cX7_path 66 = .ok (.iload 5, 2) := by decide +kernel
theorem dX7_path_68 : decode cX7_path 68 = .ok (.iconst 0, 1) := by decide +kernel
theorem dX7_path_69 : decode cX7_path 69 = .ok (.aload_n 0, 1) := by decide +kernel
theorem dX7_path_70 : decode cX7_path 70 = .ok (.iload_n 1, 1) := by decide +kernel
theorem dX7_path_71 : decode cX7_path 71 = .ok (.iload_n 2, 1) := by decide +kernel
theorem dX7_path_72 : decode cX7_path 72 = .ok (.iload_n 3, 1) := by decide +kernel
theorem dX7_path_73 : decode cX7_path 73 = .ok (.iload 4, 2) := by decide +kernel
theorem dX7_path_75 : decode cX7_path 75 = .ok (.invokevirtual 163, 3) := by decide +kernel
theorem dX7_path_78 : decode cX7_path 78 = .ok (.iconst 1, 1) := by decide +kernel
theorem dX7_path_79 : decode cX7_path 79 = .ok (.isub, 1) := by decide +kernel
theorem dX7_path_80 : decode cX7_path 80 = .ok (.invokestatic 81, 3) := by decide +kernel
theorem dX7_path_83 : decode cX7_path 83 = .ok (.ifCond .eq 7, 3) := by decide +kernel
theorem dX7_path_86 : decode cX7_path 86 = .ok (.iconst 1, 1) := by decide +kernel
theorem dX7_path_87 : decode cX7_path 87 = .ok (.goto 4, 3) := by decide +kernel
theorem dX7_path_90 : decode cX7_path 90 = .ok (.iconst 0, 1) := by decide +kernel
theorem dX7_path_91 : decode cX7_path 91 = .ok (.istore 9, 2) := by decide +kernel
theorem dX7_path_93 : decode cX7_path 93 = .ok (.aload_n 0, 1) := by decide +kernel
theorem dX7_path_94 : decode cX7_path 94 = .ok (.iload 7, 2) := by decide +kernel
theorem dX7_path_96 : decode cX7_path 96 = .ok (.ifCond .ne 7, 3) := by decide +kernel
theorem dX7_path_99 : decode cX7_path 99 = .ok (.iconst 1, 1) := by decide +kernel
theorem dX7_path_100 : decode cX7_path 100 = .ok (.goto 22, 3) := by decide +kernel
theorem dX7_path_103 : decode cX7_path 103 = .ok (.iload 8, 2) := by decide +kernel
theorem dX7_path_105 : decode cX7_path 105 = .ok (.ifCond .ne 7, 3) := by decide +kernel
theorem dX7_path_108 : decode cX7_path 108 = .ok (.iconst 2, 1) := by decide +kernel
theorem dX7_path_109 : decode cX7_path 109 = .ok (.goto 13, 3) := by decide +kernel
theorem dX7_path_112 : decode cX7_path 112 = .ok (.iload 9, 2) := by decide +kernel
theorem dX7_path_114 : decode cX7_path 114 = .ok (.ifCond .eq 7, 3) := by decide +kernel
theorem dX7_path_117 : decode cX7_path 117 = .ok (.iconst 0, 1) := by decide +kernel
theorem dX7_path_118 : decode cX7_path 118 = .ok (.goto 4, 3) := by decide +kernel
theorem dX7_path_121 : decode cX7_path 121 = .ok (.iconst 1, 1) := by decide +kernel
theorem dX7_path_122 : decode cX7_path 122 = .ok (.invokevirtual 88, 3) := by decide +kernel
theorem dX7_path_125 : decode cX7_path 125 = .ok (.ifCond .ne 5, 3) := by decide +kernel
theorem dX7_path_128 : decode cX7_path 128 = .ok (.iconst 0, 1) := by decide +kernel
theorem dX7_path_129 : decode cX7_path 129 = .ok (.ireturn, 1) := by decide +kernel
theorem dX7_path_130 : decode cX7_path 130 = .ok (.iconst (-1), 1) := by decide +kernel
theorem dX7_path_131 : decode cX7_path 131 = .ok (.istore 10, 2) := by decide +kernel
theorem dX7_path_133 : decode cX7_path 133 = .ok (.iconst (-1), 1) := by decide +kernel
theorem dX7_path_134 : decode cX7_path 134 = .ok (.istore 11, 2) := by decide +kernel
theorem dX7_path_136 : decode cX7_path 136 = .ok (.iload 10, 2) := by decide +kernel
theorem dX7_path_138 : decode cX7_path 138 = .ok (.iload 5, 2) := by decide +kernel
theorem dX7_path_140 : decode cX7_path 140 = .ok (.if_icmp .ge 33, 3) := by decide +kernel
theorem dX7_path_143 : decode cX7_path 143 = .ok (.iinc 11 1, 3) := by decide +kernel
theorem dX7_path_146 : decode cX7_path 146 = .ok (.iload 10, 2) := by decide +kernel
theorem dX7_path_148 : decode cX7_path 148 = .ok (.aload_n 0, 1) := by decide +kernel
theorem dX7_path_149 : decode cX7_path 149 = .ok (.iload_n 1, 1) := by decide +kernel
theorem dX7_path_150 : decode cX7_path 150 = .ok (.iload_n 2, 1) := by decide +kernel
theorem dX7_path_151 : decode cX7_path 151 = .ok (.iload 11, 2) := by decide +kernel
theorem dX7_path_153 : decode cX7_path 153 = .ok (.iload_n 3, 1) := by decide +kernel
theorem dX7_path_154 : decode cX7_path 154 = .ok (.iload 4, 2) := by decide +kernel
theorem dX7_path_156 : decode cX7_path 156 = .ok (.invokevirtual 159, 3) := by decide +kernel
theorem dX7_path_159 : decode cX7_path 159 = .ok (.ifCond .eq 7, 3) := by decide +kernel
theorem dX7_path_162 : decode cX7_path 162 = .ok (.iconst 1, 1) := by decide +kernel
theorem dX7_path_163 : decode cX7_path 163 = .ok (.goto 4, 3) := by decide +kernel
theorem dX7_path_166 : decode cX7_path 166 = .ok (.iconst 0, 1) := by decide +kernel
theorem dX7_path_167 : decode cX7_path 167 = .ok (.iadd, 1) := by decide +kernel
theorem dX7_path_168 : decode cX7_path 168 = .ok (.istore 10, 2) := by decide +kernel
theorem dX7_path_170 : decode cX7_path 170 = .ok (.goto (-34), 3) := by decide +kernel
theorem dX7_path_173 : decode cX7_path 173 = .ok (.iload 6, 2) := by decide +kernel
theorem dX7_path_175 : decode cX7_path 175 = .ok (.ifCond .ne 11, 3) := by decide +kernel
theorem dX7_path_178 : decode cX7_path 178 = .ok (.iload 11, 2) := by decide +kernel
theorem dX7_path_180 : decode cX7_path 180 = .ok (.bipush 9, 2) := by decide +kernel
theorem dX7_path_182 : decode cX7_path 182 = .ok (.idiv, 1) := by decide +kernel
theorem dX7_path_183 : decode cX7_path 183 = .ok (.goto 62, 3) := by decide +kernel
theorem dX7_path_186 : decode cX7_path 186 = .ok (.iload 6, 2) := by decide +kernel
theorem dX7_path_188 : decode cX7_path 188 = .ok (.iconst 1, 1) := by decide +kernel
theorem dX7_path_189 : decode cX7_path 189 = .ok (.if_icmp .ne 13, 3) := by decide +kernel
theorem dX7_path_192 : decode cX7_path 192 = .ok (.iload 11, 2) := by decide +kernel
theorem dX7_path_194 : decode cX7_path 194 = .ok (.bipush 9, 2) := by decide +kernel
theorem dX7_path_196 : decode cX7_path 196 = .ok (.irem, 1) := by decide +kernel
theorem dX7_path_197 : decode cX7_path 197 = .ok (.iconst 1, 1) := by decide +kernel
theorem dX7_path_198 : decode cX7_path 198 = .ok (.iadd, 1) := by decide +kernel
theorem dX7_path_199 : decode cX7_path 199 = .ok (.goto 46, 3) := by decide +kernel
theorem dX7_path_202 : decode cX7_path 202 = .ok (.iload 6, 2) := by decide +kernel
theorem dX7_path_204 : decode cX7_path 204 = .ok (.iconst 2, 1) := by decide +kernel
theorem dX7_path_205 : decode cX7_path 205 = .ok (.if_icmp .ne 10, 3) := by decide +kernel
theorem dX7_path_208 : decode cX7_path 208 = .ok (.aload_n 0, 1) := by decide +kernel
theorem dX7_path_209 : decode cX7_path 209 = .ok (.getfield 129, 3) := by decide +kernel
theorem dX7_path_212 : decode cX7_path 212 = .ok (.goto 33, 3) := by decide +kernel
theorem dX7_path_215 : decode cX7_path 215 = .ok (.iload 6, 2) := by decide +kernel
theorem dX7_path_217 : decode cX7_path 217 = .ok (.iconst 3, 1) := by decide +kernel
theorem dX7_path_218 : decode cX7_path 218 = .ok (.if_icmp .ne 10, 3) := by decide +kernel
theorem dX7_path_221 : decode cX7_path 221 = .ok (.aload_n 0, 1) := by decide +kernel
theorem dX7_path_222 : decode cX7_path 222 = .ok (.getfield 132, 3) := by decide +kernel
theorem dX7_path_225 : decode cX7_path 225 = .ok (.goto 20, 3) := by decide +kernel
theorem dX7_path_228 : decode cX7_path 228 = .ok (.iload 6, 2) := by decide +kernel
theorem dX7_path_230 : decode cX7_path 230 = .ok (.iconst 4, 1) := by decide +kernel
theorem dX7_path_231 : decode cX7_path 231 = .ok (.if_icmp .ne 10, 3) := by decide +kernel
theorem dX7_path_234 : decode cX7_path 234 = .ok (.aload_n 0, 1) := by decide +kernel
theorem dX7_path_235 : decode cX7_path 235 = .ok (.getfield 135, 3) := by decide +kernel
theorem dX7_path_238 : decode cX7_path 238 = .ok (.goto 7, 3) := by decide +kernel
theorem dX7_path_241 : decode cX7_path 241 = .ok (.aload_n 0, 1) := by decide +kernel
theorem dX7_path_242 : decode cX7_path 242 = .ok (.getfield 138, 3) := by decide +kernel
theorem dX7_path_245 : decode cX7_path 245 = .ok (.ireturn, 1) := by decide +kernel
theorem dX7_explain_0 : decode cX7_explain 0 = .ok (.iload_n 1, 1) := by decide +kernel
theorem dX7_explain_1 : decode cX7_explain 1 = .ok (.invokestatic 101, 3) := by decide +kernel
theorem dX7_explain_4 : decode cX7_explain 4 = .ok (.ifCond .eq 14, 3) := by decide +kernel
theorem dX7_explain_7 : decode cX7_explain 7 = .ok (.iload_n 2, 1) := by decide +kernel
theorem dX7_explain_8 : decode cX7_explain 8 = .ok (.invokestatic 101, 3) := by decide +kernel
theorem dX7_explain_11 : decode cX7_explain 11 = .ok (.ifCond .eq 7, 3) := by decide +kernel
theorem dX7_explain_14 : decode cX7_explain 14 = .ok (.iconst 1, 1) := by decide +kernel
theorem dX7_explain_15 : decode cX7_explain 15 = .ok (.goto 4, 3) := by decide +kernel
theorem dX7_explain_18 : decode cX7_explain 18 = .ok (.iconst 0, 1) := by decide +kernel
theorem dX7_explain_19 : decode cX7_explain 19 = .ok (.istore 6, 2) := by decide +kernel
theorem dX7_explain_21 : decode cX7_explain 21 = .ok (.iload_n 3, 1) := by decide +kernel
theorem dX7_explain_22 : decode cX7_explain 22 = .ok (.invokestatic 152, 3) := by decide +kernel
theorem dX7_explain_25 : decode cX7_explain 25 = .ok (.ifCond .eq 30, 3) := by decide +kernel
theorem dX7_explain_28 : decode cX7_explain 28 = .ok (.iload 4, 2) := by decide +kernel
theorem dX7_explain_30 : decode cX7_explain 30 = .ok (.iconst 0, 1) := by decide +kernel
theorem dX7_explain_31 : decode cX7_explain 31 = .ok (.bipush 100, 2) := by decide +kernel
theorem dX7_explain_33 : decode cX7_explain 33 = .ok (.invokestatic 81, 3) := by decide +kernel
theorem dX7_explain_36 : decode cX7_explain 36 = .ok (.ifCond .eq 19, 3) := by decide +kernel
theorem dX7_explain_39 : decode cX7_explain 39 = .ok (.iload 5, 2) := by decide +kernel
theorem dX7_explain_41 : decode cX7_explain 41 = .ok (.iconst 0, 1) := by decide +kernel
theorem dX7_explain_42 : decode cX7_explain 42 = .ok (.sipush 1000, 3) := by decide +kernel
theorem dX7_explain_45 : decode cX7_explain 45 = .ok (.invokestatic 81, 3) := by decide +kernel
theorem dX7_explain_48 : decode cX7_explain 48 = .ok (.ifCond .eq 7, 3) := by decide +kernel
theorem dX7_explain_51 : decode cX7_explain 51 = .ok (.iconst 1, 1) := by decide +kernel
theorem dX7_explain_52 : decode cX7_explain 52 = .ok (.goto 4, 3) := by decide +kernel
theorem dX7_explain_55 : decode cX7_explain 55 = .ok (.iconst 0, 1) := by decide +kernel
theorem dX7_explain_56 : decode cX7_explain 56 = .ok (.istore 7, 2) := by decide +kernel
theorem dX7_explain_58 : decode cX7_explain 58 = .ok (.aload_n 0, 1) := by decide +kernel
theorem dX7_explain_59 : decode cX7_explain 59 = .ok (.iload 6, 2) := by decide +kernel
theorem dX7_explain_61 : decode cX7_explain 61 = .ok (.ifCond .ne 7, 3) := by decide +kernel
theorem dX7_explain_64 : decode cX7_explain 64 = .ok (.iconst 1, 1) := by decide +kernel
theorem dX7_explain_65 : decode cX7_explain 65 = .ok (.goto 13, 3) := by decide +kernel
