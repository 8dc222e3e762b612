theorem dX6_needPlace_20 : decode cX6_needPlace 20 = .ok (.athrow, 1) := by decide +kernel
theorem dX6_needPlace_21 : decode cX6_needPlace 21 = .ok (.return_, 1) := by decide +kernel
theorem dX6_needRange_0 : decode cX6_needRange 0 = .ok (.iload_n 0, 1) := by decide +kernel
theorem dX6_needRange_1 : decode cX6_needRange 1 = .ok (.iload_n 1, 1) := by decide +kernel
theorem dX6_needRange_2 : decode cX6_needRange 2 = .ok (.if_icmp .lt 8, 3) := by decide +kernel
theorem dX6_needRange_5 : decode cX6_needRange 5 = .ok (.iload_n 0, 1) := by decide +kernel
theorem dX6_needRange_6 : decode cX6_needRange 6 = .ok (.iload_n 2, 1) := by decide +kernel
theorem dX6_needRange_7 : decode cX6_needRange 7 = .ok (.if_icmp .le 14, 3) := by decide +kernel
theorem dX6_needRange_10 : decode cX6_needRange 10 = .ok (.new 274, 3) := by decide +kernel
theorem dX6_needRange_13 : decode cX6_needRange 13 = .ok (.dup, 1) := by decide +kernel
theorem dX6_needRange_14 : decode cX6_needRange 14 = .ok (.ldc_w 276, 3) := by decide +kernel
theorem dX6_needRange_17 : decode cX6_needRange 17 = .ok (.invokespecial 278, 3) := by decide +kernel
theorem dX6_needRange_20 : decode cX6_needRange 20 = .ok (.athrow, 1) := by decide +kernel
theorem dX6_needRange_21 : decode cX6_needRange 21 = .ok (.return_, 1) := by decide +kernel
theorem dX6_needFrequency_0 : decode cX6_needFrequency 0 = .ok (.iload_n 0, 1) := by decide +kernel
theorem dX6_needFrequency_1 : decode cX6_needFrequency 1 = .ok (.bipush 10, 2) := by decide +kernel
theorem dX6_needFrequency_3 : decode cX6_needFrequency 3 = .ok (.sipush 300, 3) := by decide +kernel
theorem dX6_needFrequency_6 : decode cX6_needFrequency 6 = .ok (.invokestatic 59, 3) := by decide +kernel
theorem dX6_needFrequency_9 : decode cX6_needFrequency 9 = .ok (.return_, 1) := by decide +kernel
theorem dX6_needStrength_0 : decode cX6_needStrength 0 = .ok (.iload_n 0, 1) := by decide +kernel
theorem dX6_needStrength_1 : decode cX6_needStrength 1 = .ok (.iconst 0, 1) := by decide +kernel
theorem dX6_needStrength_2 : decode cX6_needStrength 2 = .ok (.bipush 100, 2) := by decide +kernel
theorem dX6_needStrength_4 : decode cX6_needStrength 4 = .ok (.invokestatic 59, 3) := by decide +kernel
theorem dX6_needStrength_7 : decode cX6_needStrength 7 = .ok (.return_, 1) := by decide +kernel
theorem dX6_needDifferent_0 : decode cX6_needDifferent 0 = .ok (.iload_n 0, 1) := by decide +kernel
theorem dX6_needDifferent_1 : decode cX6_needDifferent 1 = .ok (.iload_n 1, 1) := by decide +kernel
theorem dX6_needDifferent_2 : decode cX6_needDifferent 2 = .ok (.if_icmp .ne 14, 3) := by decide +kernel
theorem dX6_needDifferent_5 : decode cX6_needDifferent 5 = .ok (.new 274, 3) := by decide +kernel
theorem dX6_needDifferent_8 : decode cX6_needDifferent 8 = .ok (.dup, 1) := by decide +kernel
theorem dX6_needDifferent_9 : decode cX6_needDifferent 9 = .ok (.ldc_w 279, 3) := by decide +kernel
theorem dX6_needDifferent_12 : decode cX6_needDifferent 12 = .ok (.invokespecial 278, 3) := by decide +kernel
theorem dX6_needDifferent_15 : decode cX6_needDifferent 15 = .ok (.athrow, 1) := by decide +kernel
theorem dX6_needDifferent_16 : decode cX6_needDifferent 16 = .ok (.return_, 1) := by decide +kernel
theorem dX6_needRay_0 : decode cX6_needRay 0 = .ok (.iload_n 0, 1) := by decide +kernel
theorem dX6_needRay_1 : decode cX6_needRay 1 = .ok (.invokestatic 80, 3) := by decide +kernel
theorem dX6_needRay_4 : decode cX6_needRay 4 = .ok (.iload_n 1, 1) := by decide +kernel
theorem dX6_needRay_5 : decode cX6_needRay 5 = .ok (.iconst 1, 1) := by decide +kernel
theorem dX6_needRay_6 : decode cX6_needRay 6 = .ok (.bipush 9, 2) := by decide +kernel
theorem dX6_needRay_8 : decode cX6_needRay 8 = .ok (.invokestatic 59, 3) := by decide +kernel
theorem dX6_needRay_11 : decode cX6_needRay 11 = .ok (.iload_n 2, 1) := by decide +kernel
theorem dX6_needRay_12 : decode cX6_needRay 12 = .ok (.invokestatic 117, 3) := by decide +kernel
theorem dX6_needRay_15 : decode cX6_needRay 15 = .ok (.iload_n 3, 1) := by decide +kernel
theorem dX6_needRay_16 : decode cX6_needRay 16 = .ok (.iconst 1, 1) := by decide +kernel
theorem dX6_needRay_17 : decode cX6_needRay 17 = .ok (.bipush 10, 2) := by decide +kernel
theorem dX6_needRay_19 : decode cX6_needRay 19 = .ok (.invokestatic 59, 3) := by decide +kernel
theorem dX6_needRay_22 : decode cX6_needRay 22 = .ok (.return_, 1) := by decide +kernel
theorem dX6_needPath_0 : decode cX6_needPath 0 = .ok (.iload_n 0, 1) := by decide +kernel
theorem dX6_needPath_1 : decode cX6_needPath 1 = .ok (.invokestatic 80, 3) := by decide +kernel
theorem dX6_needPath_4 : decode cX6_needPath 4 = .ok (.iload_n 1, 1) := by decide +kernel
theorem dX6_needPath_5 : decode cX6_needPath 5 = .ok (.invokestatic 80, 3) := by decide +kernel
theorem dX6_needPath_8 : decode cX6_needPath 8 = .ok (.iload_n 2, 1) := by decide +kernel
theorem dX6_needPath_9 : decode cX6_needPath 9 = .ok (.invokestatic 117, 3) := by decide +kernel
theorem dX6_needPath_12 : decode cX6_needPath 12 = .ok (.iload_n 3, 1) := by decide +kernel
theorem dX6_needPath_13 : decode cX6_needPath 13 = .ok (.invokestatic 216, 3) := by decide +kernel
theorem dX6_needPath_16 : decode cX6_needPath 16 = .ok (.return_, 1) := by decide +kernel
theorem dX6_needStation_0 : decode cX6_needStation 0 = .ok (.aload_n 0, 1) := by decide +kernel
theorem dX6_needStation_1 : decode cX6_needStation 1 = .ok (.getfield 38, 3) := by decide +kernel
theorem dX6_needStation_4 : decode cX6_needStation 4 = .ok (.iload_n 1, 1) := by decide +kernel
theorem dX6_needStation_5 : decode cX6_needStation 5 = .ok (.invokevirtual 281, 3) := by decide +kernel
theorem dX6_needStation_8 : decode cX6_needStation 8 = .ok (.ifCond .ne 14, 3) := by decide +kernel
theorem dX6_needStation_11 : decode cX6_needStation 11 = .ok (.new 203, 3) := by decide +kernel
theorem dX6_needStation_14 : decode cX6_needStation 14 = .ok (.dup, 1) := by decide +kernel
theorem dX6_needStation_15 : decode cX6_needStation 15 = .ok (.ldc_w 282, 3) := by decide +kernel
theorem dX6_needStation_18 : decode cX6_needStation 18 = .ok (.invokespecial 207, 3) := by decide +kernel
theorem dX6_needStation_21 : decode cX6_needStation 21 = .ok (.athrow, 1) := by decide +kernel
theorem dX6_needStation_22 : decode cX6_needStation 22 = .ok (.return_, 1) := by decide +kernel
theorem dX6_ring_0 : decode cX6_ring 0 = .ok (.iload_n 0, 1) := by decide +kernel
theorem dX6_ring_1 : decode cX6_ring 1 = .ok (.bipush 48, 2) := by decide +kernel
theorem dX6_ring_3 : decode cX6_ring 3 = .ok (.irem, 1) := by decide +kernel
theorem dX6_ring_4 : decode cX6_ring 4 = .ok (.istore_n 1, 1) := by decide +kernel
theorem dX6_ring_5 : decode cX6_ring 5 = .ok (.iload_n 1, 1) := by decide +kernel
theorem dX6_ring_6 : decode cX6_ring 6 = .ok (.ifCond .ge 10, 3) := by decide +kernel
theorem dX6_ring_9 : decode cX6_ring 9 = .ok (.iload_n 1, 1) := by decide +kernel
theorem dX6_ring_10 : decode cX6_ring 10 = .ok (.bipush 48, 2) := by decide +kernel
theorem dX6_ring_12 : decode cX6_ring 12 = .ok (.iadd, 1) := by decide +kernel
theorem dX6_ring_13 : decode cX6_ring 13 = .ok (.goto 4, 3) := by decide +kernel
theorem dX6_ring_16 : decode cX6_ring 16 = .ok (.iload_n 1, 1) := by decide +kernel
theorem dX6_ring_17 : decode cX6_ring 17 = .ok (.ireturn, 1) := by decide +kernel
theorem dX6_distance_0 : decode cX6_distance 0 = .ok (.iload_n 0, 1) := by decide +kernel
theorem dX6_distance_1 : decode cX6_distance 1 = .ok (.iload_n 1, 1) := by decide +kernel
theorem dX6_distance_2 : decode cX6_distance 2 = .ok (.isub, 1) := by decide +kernel
theorem dX6_distance_3 : decode cX6_distance 3 = .ok (.invokestatic 211, 3) := by decide +kernel
theorem dX6_distance_6 : decode cX6_distance 6 = .ok (.istore_n 2, 1) := by decide +kernel
theorem dX6_distance_7 : decode cX6_distance 7 = .ok (.iload_n 2, 1) := by decide +kernel
theorem dX6_distance_8 : decode cX6_distance 8 = .ok (.bipush 48, 2) := by decide +kernel
theorem dX6_distance_10 : decode cX6_distance 10 = .ok (.iload_n 2, 1) := by decide +kernel
theorem dX6_distance_11 : decode cX6_distance 11 = .ok (.isub, 1) := by decide +kernel
theorem dX6_distance_12 : decode cX6_distance 12 = .ok (.invokestatic 223, 3) := by decide +kernel
theorem dX6_distance_15 : decode cX6_distance 15 = .ok (.ireturn, 1) := by decide +kernel
theorem dX6_lightIn_0 : decode cX6_lightIn 0 = .ok (.iload_n 0, 1) := by decide +kernel
theorem dX6_lightIn_1 : decode cX6_lightIn 1 = .ok (.iload_n 1, 1) := by decide +kernel
theorem dX6_lightIn_2 : decode cX6_lightIn 2 = .ok (.iconst 2, 1) := by decide +kernel
theorem dX6_lightIn_3 : decode cX6_lightIn 3 = .ok (.idiv, 1) := by decide +kernel
theorem dX6_lightIn_4 : decode cX6_lightIn 4 = .ok (.iadd, 1) := by decide +kernel
theorem dX6_lightIn_5 : decode cX6_lightIn 5 = .ok (.bipush 24, 2) := by decide +kernel
theorem dX6_lightIn_7 : decode cX6_lightIn 7 = .ok (.irem, 1) := by decide +kernel
theorem dX6_lightIn_8 : decode cX6_lightIn 8 = .ok (.istore_n 2, 1) := by decide +kernel
theorem dX6_lightIn_9 : decode cX6_lightIn 9 = .ok (.iconst 0, 1) := by decide +kernel
theorem dX6_lightIn_10 : decode cX6_lightIn 10 = .ok (.bipush 6, 2) := by decide +kernel
theorem dX6_lightIn_12 : decode cX6_lightIn 12 = .ok (.iload_n 2, 1) := by decide +kernel
theorem dX6_lightIn_13 : decode cX6_lightIn 13 = .ok (.bipush 12, 2) := by decide +kernel
theorem dX6_lightIn_15 : decode cX6_lightIn 15 = .ok (.isub, 1) := by decide +kernel
theorem dX6_lightIn_16 : decode cX6_lightIn 16 = .ok (.invokestatic 211, 3) := by decide +kernel
theorem dX6_lightIn_19 : decode cX6_lightIn 19 = .ok (.isub, 1) := by decide +kernel
theorem dX6_lightIn_20 : decode cX6_lightIn 20 = .ok (.invokestatic 226, 3) := by decide +kernel
theorem dX6_lightIn_23 : decode cX6_lightIn 23 = .ok (.ireturn, 1) := by decide +kernel
theorem dX6_lengthBy_0 : decode cX6_lengthBy 0 = .ok (.iload_n 0, 1) := by decide +kernel
theorem dX6_lengthBy_1 : decode cX6_lengthBy 1 = .ok (.iconst 1, 1) := by decide +kernel
theorem dX6_lengthBy_2 : decode cX6_lengthBy 2 = .ok (.if_icmp .ne 12, 3) := by decide +kernel
theorem dX6_lengthBy_5 : decode cX6_lengthBy 5 = .ok (.bipush 10, 2) := by decide +kernel
theorem dX6_lengthBy_7 : decode cX6_lengthBy 7 = .ok (.iload_n 1, 1) := by decide +kernel
theorem dX6_lengthBy_8 : decode cX6_lengthBy 8 = .ok (.isub, 1) := by decide +kernel
theorem dX6_lengthBy_9 : decode cX6_lengthBy 9 = .ok (.iconst 4, 1) := by decide +kernel
theorem dX6_lengthBy_10 : decode cX6_lengthBy 10 = .ok (.idiv, 1) := by decide +kernel
theorem dX6_lengthBy_11 : decode cX6_lengthBy 11 = .ok (.goto 9, 3) := by decide +kernel
theorem dX6_lengthBy_14 : decode cX6_lengthBy 14 = .ok (.bipush 11, 2) := by decide +kernel
theorem dX6_lengthBy_16 : decode cX6_lengthBy 16 = .ok (.iload_n 1, 1) := by decide +kernel
theorem dX6_lengthBy_17 : decode cX6_lengthBy 17 = .ok (.isub, 1) := by decide +kernel
theorem dX6_lengthBy_18 : decode cX6_lengthBy 18 = .ok (.iconst 2, 1) := by decide +kernel
theorem dX6_lengthBy_19 : decode cX6_lengthBy 19 = .ok (.idiv, 1) := by decide +kernel
theorem dX6_lengthBy_20 : decode cX6_lengthBy 20 = .ok (.ireturn, 1) := by decide +kernel
theorem dX6_bends_0 : decode cX6_bends 0 = .ok (.bipush 10, 2) := by decide +kernel
theorem dX6_bends_2 : decode cX6_bends 2 = .ok (.iload_n 2, 1) := by decide +kernel
theorem dX6_bends_3 : decode cX6_bends 3 = .ok (.imul, 1) := by decide +kernel
theorem dX6_bends_4 : decode cX6_bends 4 = .ok (.iload_n 0, 1) := by decide +kernel
theorem dX6_bends_5 : decode cX6_bends 5 = .ok (.bipush 46, 2) := by decide +kernel
theorem dX6_bends_7 : decode cX6_bends 7 = .ok (.iconst 4, 1) := by decide +kernel
theorem dX6_bends_8 : decode cX6_bends 8 = .ok (.iload_n 1, 1) := by decide +kernel
theorem dX6_bends_9 : decode cX6_bends 9 = .ok (.imul, 1) := by decide +kernel
theorem dX6_bends_10 : decode cX6_bends 10 = .ok (.isub, 1) := by decide +kernel
theorem dX6_bends_11 : decode cX6_bends 11 = .ok (.imul, 1) := by decide +kernel
theorem dX6_bends_12 : decode cX6_bends 12 = .ok (.if_icmp .gt 7, 3) := by decide +kernel
theorem dX6_bends_15 : decode cX6_bends 15 = .ok (.iconst 1, 1) := by decide +kernel
theorem dX6_bends_16 : decode cX6_bends 16 = .ok (.goto 4, 3) := by decide +kernel
theorem dX6_bends_19 : decode cX6_bends 19 = .ok (.iconst 0, 1) := by decide +kernel
theorem dX6_bends_20 : decode cX6_bends 20 = .ok (.ireturn, 1) := by decide +kernel
theorem dX6_legAnew_0 : decode cX6_legAnew 0 = .ok (.iconst 1, 1) := by decide +kernel
theorem dX6_legAnew_1 : decode cX6_legAnew 1 = .ok (.istore 5, 2) := by decide +kernel
theorem dX6_legAnew_3 : decode cX6_legAnew 3 = .ok (.iload 5, 2) := by decide +kernel
theorem dX6_legAnew_5 : decode cX6_legAnew 5 = .ok (.iconst 2, 1) := by decide +kernel
theorem dX6_legAnew_6 : decode cX6_legAnew 6 = .ok (.if_icmp .gt 53, 3) := by decide +kernel
theorem dX6_legAnew_9 : decode cX6_legAnew 9 = .ok (.iload 5, 2) := by decide +kernel
theorem dX6_legAnew_11 : decode cX6_legAnew 11 = .ok (.iload_n 3, 1) := by decide +kernel
theorem dX6_legAnew_12 : decode cX6_legAnew 12 = .ok (.invokestatic 179, 3) := by decide +kernel
theorem dX6_legAnew_15 : decode cX6_legAnew 15 = .ok (.istore 6, 2) := by decide +kernel
theorem dX6_legAnew_17 : decode cX6_legAnew 17 = .ok (.iload_n 1, 1) := by decide +kernel
theorem dX6_legAnew_18 : decode cX6_legAnew 18 = .ok (.iload_n 2, 1) := by decide +kernel
theorem dX6_legAnew_19 : decode cX6_legAnew 19 = .ok (.iload 6, 2) := by decide +kernel
theorem dX6_legAnew_21 : decode cX6_legAnew 21 = .ok (.iconst 2, 1) := by decide +kernel
theorem dX6_legAnew_22 : decode cX6_legAnew 22 = .ok (.idiv, 1) := by decide +kernel
theorem dX6_legAnew_23 : decode cX6_legAnew 23 = .ok (.invokestatic 189, 3) := by decide +kernel
theorem dX6_legAnew_26 : decode cX6_legAnew 26 = .ok (.istore 7, 2) := by decide +kernel
theorem dX6_legAnew_28 : decode cX6_legAnew 28 = .ok (.aload_n 0, 1) := by decide +kernel
theorem dX6_legAnew_29 : decode cX6_legAnew 29 = .ok (.getfield 12, 3) := by decide +kernel
theorem dX6_legAnew_32 : decode cX6_legAnew 32 = .ok (.getfield 168, 3) := by decide +kernel
theorem dX6_legAnew_35 : decode cX6_legAnew 35 = .ok (.iload 5, 2) := by decide +kernel
theorem dX6_legAnew_37 : decode cX6_legAnew 37 = .ok (.aaload, 1) := by decide +kernel
theorem dX6_legAnew_38 : decode cX6_legAnew 38 = .ok (.iload 7, 2) := by decide +kernel
theorem dX6_legAnew_40 : decode cX6_legAnew 40 = .ok (.iaload, 1) := by decide +kernel
theorem dX6_legAnew_41 : decode cX6_legAnew 41 = .ok (.iload_n 3, 1) := by decide +kernel
theorem dX6_legAnew_42 : decode cX6_legAnew 42 = .ok (.iload 4, 2) := by decide +kernel
theorem dX6_legAnew_44 : decode cX6_legAnew 44 = .ok (.invokestatic 284, 3) := by decide +kernel
theorem dX6_legAnew_47 : decode cX6_legAnew 47 = .ok (.ifCond .eq 6, 3) := by decide +kernel
theorem dX6_legAnew_50 : decode cX6_legAnew 50 = .ok (.iload 6, 2) := by decide +kernel
theorem dX6_legAnew_52 : decode cX6_legAnew 52 = .ok (.ireturn, 1) := by decide +kernel
theorem dX6_legAnew_53 : decode cX6_legAnew 53 = .ok (.iinc 5 1, 3) := by decide +kernel
theorem dX6_legAnew_56 : decode cX6_legAnew 56 = .ok (.goto (-53), 3) := by decide +kernel
theorem dX6_legAnew_59 : decode cX6_legAnew 59 = .ok (.iconst (-1), 1) := by decide +kernel
theorem dX6_legAnew_60 : decode cX6_legAnew 60 = .ok (.ireturn, 1) := by decide +kernel
theorem dX6_walked_0 : decode cX6_walked 0 = .ok (.iload_n 0, 1) := by decide +kernel
theorem dX6_walked_1 : decode cX6_walked 1 = .ok (.istore_n 3, 1) := by decide +kernel
theorem dX6_walked_2 : decode cX6_walked 2 = .ok (.iconst 0, 1) := by decide +kernel
theorem dX6_walked_3 : decode cX6_walked 3 = .ok (.istore 4, 2) := by decide +kernel
theorem dX6_walked_5 : decode cX6_walked 5 = .ok (.iload 4, 2) := by decide +kernel
theorem dX6_walked_7 : decode cX6_walked 7 = .ok (.iload_n 2, 1) := by decide +kernel
theorem dX6_walked_8 : decode cX6_walked 8 = .ok (.if_icmp .ge 43, 3) := by decide +kernel
theorem dX6_walked_11 : decode cX6_walked 11 = .ok (.iload_n 1, 1) := by decide +kernel
theorem dX6_walked_12 : decode cX6_walked 12 = .ok (.ifCond .eq 20, 3) := by decide +kernel
theorem dX6_walked_15 : decode cX6_walked 15 = .ok (.iload_n 3, 1) := by decide +kernel
theorem dX6_walked_16 : decode cX6_walked 16 = .ok (.bipush 47, 2) := by decide +kernel
theorem dX6_walked_18 : decode cX6_walked 18 = .ok (.if_icmp .lt 7, 3) := by decide +kernel
theorem dX6_walked_21 : decode cX6_walked 21 = .ok (.iconst 0, 1) := by decide +kernel
theorem dX6_walked_22 : decode cX6_walked 22 = .ok (.goto 6, 3) := by decide +kernel
theorem dX6_walked_25 : decode cX6_walked 25 = .ok (.iload_n 3, 1) := by decide +kernel
theorem dX6_walked_26 : decode cX6_walked 26 = .ok (.iconst 1, 1) := by decide +kernel
theorem dX6_walked_27 : decode cX6_walked 27 = .ok (.iadd, 1) := by decide +kernel
theorem dX6_walked_28 : decode cX6_walked 28 = .ok (.istore_n 3, 1) := by decide +kernel
theorem dX6_walked_29 : decode cX6_walked 29 = .ok (.goto 16, 3) := by decide +kernel
theorem dX6_walked_32 : decode cX6_walked 32 = .ok (.iload_n 3, 1) := by decide +kernel
theorem dX6_walked_33 : decode cX6_walked 33 = .ok (.ifCond .gt 8, 3) := by decide +kernel
theorem dX6_walked_36 : decode cX6_walked 36 = .ok (.bipush 47, 2) := by decide +kernel
theorem dX6_walked_38 : decode cX6_walked 38 = .ok (.goto 6, 3) := by decide +kernel
theorem dX6_walked_41 : decode cX6_walked 41 = .ok (.iload_n 3, 1) := by decide +kernel
theorem dX6_walked_42 : decode cX6_walked 42 = .ok (.iconst 1, 1) := by decide +kernel
theorem dX6_walked_43 : decode cX6_walked 43 = .ok (.isub, 1) := by decide +kernel
theorem dX6_walked_44 : decode cX6_walked 44 = .ok (.istore_n 3, 1) := by decide +kernel
theorem dX6_walked_45 : decode cX6_walked 45 = .ok (.iinc 4 1, 3) := by decide +kernel
theorem dX6_walked_48 : decode cX6_walked 48 = .ok (.goto (-43), 3) := by decide +kernel
theorem dX6_walked_51 : decode cX6_walked 51 = .ok (.iload_n 3, 1) := by decide +kernel
theorem dX6_walked_52 : decode cX6_walked 52 = .ok (.ireturn, 1) := by decide +kernel
theorem dX6_reaches_0 : decode cX6_reaches 0 = .ok (.aload_n 0, 1) := by decide +kernel
theorem dX6_reaches_1 : decode cX6_reaches 1 = .ok (.getfield 29, 3) := by decide +kernel
theorem dX6_reaches_4 : decode cX6_reaches 4 = .ok (.iload_n 2, 1) := by decide +kernel
theorem dX6_reaches_5 : decode cX6_reaches 5 = .ok (.iload 4, 2) := by decide +kernel
theorem dX6_reaches_7 : decode cX6_reaches 7 = .ok (.invokestatic 288, 3) := by decide +kernel
theorem dX6_reaches_10 : decode cX6_reaches 10 = .ok (.iload 4, 2) := by decide +kernel
theorem dX6_reaches_12 : decode cX6_reaches 12 = .ok (.invokestatic 291, 3) := by decide +kernel
theorem dX6_reaches_15 : decode cX6_reaches 15 = .ok (.iload 5, 2) := by decide +kernel
theorem dX6_reaches_17 : decode cX6_reaches 17 = .ok (.iload 6, 2) := by decide +kernel
theorem dX6_reaches_19 : decode cX6_reaches 19 = .ok (.invokevirtual 294, 3) := by decide +kernel
theorem dX6_reaches_22 : decode cX6_reaches 22 = .ok (.iconst 0, 1) := by decide +kernel
theorem dX6_reaches_23 : decode cX6_reaches 23 = .ok (.istore 7, 2) := by decide +kernel
theorem dX6_reaches_25 : decode cX6_reaches 25 = .ok (.iload 7, 2) := by decide +kernel
theorem dX6_reaches_27 : decode cX6_reaches 27 = .ok (.bipush 10, 2) := by decide +kernel
theorem dX6_reaches_29 : decode cX6_reaches 29 = .ok (.if_icmp .ge 39, 3) := by decide +kernel
theorem dX6_reaches_32 : decode cX6_reaches 32 = .ok (.aload_n 0, 1) := by decide +kernel
theorem dX6_reaches_33 : decode cX6_reaches 33 = .ok (.getfield 29, 3) := by decide +kernel
theorem dX6_reaches_36 : decode cX6_reaches 36 = .ok (.aload_n 1, 1) := by decide +kernel
theorem dX6_reaches_37 : decode cX6_reaches 37 = .ok (.aload_n 0, 1) := by decide +kernel
theorem dX6_reaches_38 : decode cX6_reaches 38 = .ok (.getfield 22, 3) := by decide +kernel
theorem dX6_reaches_41 : decode cX6_reaches 41 = .ok (.invokevirtual 297, 3) := by decide +kernel
theorem dX6_reaches_44 : decode cX6_reaches 44 = .ok (.ifCond .ne 5, 3) := by decide +kernel
theorem dX6_reaches_47 : decode cX6_reaches 47 = .ok (.iconst 0, 1) := by decide +kernel
theorem dX6_reaches_48 : decode cX6_reaches 48 = .ok (.ireturn, 1) := by decide +kernel
theorem dX6_reaches_49 : decode cX6_reaches 49 = .ok (.aload_n 0, 1) := by decide +kernel
theorem dX6_reaches_50 : decode cX6_reaches 50 = .ok (.getfield 29, 3) := by decide +kernel
theorem dX6_reaches_53 : decode cX6_reaches 53 = .ok (.getfield 301, 3) := by decide +kernel
theorem dX6_reaches_56 : decode cX6_reaches 56 = .ok (.iload_n 3, 1) := by decide +kernel
theorem dX6_reaches_57 : decode cX6_reaches 57 = .ok (.if_icmp .ne 5, 3) := by decide +kernel
theorem dX6_reaches_60 : decode cX6_reaches 60 = .ok (.iconst 1, 1) := by decide +kernel
theorem dX6_reaches_61 : decode cX6_reaches 61 = .ok (.ireturn, 1) := by decide +kernel
theorem dX6_reaches_62 : decode cX6_reaches 62 = .ok (.iinc 7 1, 3) := by decide +kernel
theorem dX6_reaches_65 : decode cX6_reaches 65 = .ok (.goto (-40), 3) := by decide +kernel
theorem dX6_reaches_68 : decode cX6_reaches 68 = .ok (.iconst 0, 1) := by decide +kernel
theorem dX6_reaches_69 : decode cX6_reaches 69 = .ok (.ireturn, 1) := by decide +kernel
theorem dX6_directionOf_0 : decode cX6_directionOf 0 = .ok (.iload_n 0, 1) := by decide +kernel
theorem dX6_directionOf_1 : decode cX6_directionOf 1 = .ok (.bipush 9, 2) := by decide +kernel
theorem dX6_directionOf_3 : decode cX6_directionOf 3 = .ok (.if_icmp .ge 7, 3) := by decide +kernel
theorem dX6_directionOf_6 : decode cX6_directionOf 6 = .ok (.iconst 0, 1) := by decide +kernel
theorem dX6_directionOf_7 : decode cX6_directionOf 7 = .ok (.goto 4, 3) := by decide +kernel
theorem dX6_directionOf_10 : decode cX6_directionOf 10 = .ok (.iconst 1, 1) := by decide +kernel
theorem dX6_directionOf_11 : decode cX6_directionOf 11 = .ok (.ireturn, 1) := by decide +kernel
theorem dX6_angleOf_0 : decode cX6_angleOf 0 = .ok (.iload_n 0, 1) := by decide +kernel
theorem dX6_angleOf_1 : decode cX6_angleOf 1 = .ok (.bipush 9, 2) := by decide +kernel
theorem dX6_angleOf_3 : decode cX6_angleOf 3 = .ok (.irem, 1) := by decide +kernel
theorem dX6_angleOf_4 : decode cX6_angleOf 4 = .ok (.iconst 1, 1) := by decide +kernel
theorem dX6_angleOf_5 : decode cX6_angleOf 5 = .ok (.iadd, 1) := by decide +kernel
theorem dX6_angleOf_6 : decode cX6_angleOf 6 = .ok (.ireturn, 1) := by decide +kernel
theorem dX6_hasPath_0 : decode cX6_hasPath 0 = .ok (.iconst 0, 1) := by decide +kernel
theorem dX6_hasPath_1 : decode cX6_hasPath 1 = .ok (.istore 5, 2) := by decide +kernel
theorem dX6_hasPath_3 : decode cX6_hasPath 3 = .ok (.iload 5, 2) := by decide +kernel
theorem dX6_hasPath_5 : decode cX6_hasPath 5 = .ok (.bipush 18, 2) := by decide +kernel
theorem dX6_hasPath_7 : decode cX6_hasPath 7 = .ok (.if_icmp .ge 29, 3) := by decide +kernel
theorem dX6_hasPath_10 : decode cX6_hasPath 10 = .ok (.aload_n 0, 1) := by decide +kernel
theorem dX6_hasPath_11 : decode cX6_hasPath 11 = .ok (.aload_n 0, 1) := by decide +kernel
theorem dX6_hasPath_12 : decode cX6_hasPath 12 = .ok (.getfield 12, 3) := by decide +kernel
theorem dX6_hasPath_15 : decode cX6_hasPath 15 = .ok (.iload_n 1, 1) := by decide +kernel
theorem dX6_hasPath_16 : decode cX6_hasPath 16 = .ok (.iload_n 2, 1) := by decide +kernel
theorem dX6_hasPath_17 : decode cX6_hasPath 17 = .ok (.iload 5, 2) := by decide +kernel
theorem dX6_hasPath_19 : decode cX6_hasPath 19 = .ok (.iload_n 3, 1) := by decide +kernel
theorem dX6_hasPath_20 : decode cX6_hasPath 20 = .ok (.iload 4, 2) := by decide +kernel
theorem dX6_hasPath_22 : decode cX6_hasPath 22 = .ok (.invokevirtual 196, 3) := by decide +kernel
theorem dX6_hasPath_25 : decode cX6_hasPath 25 = .ok (.ifCond .eq 5, 3) := by decide +kernel
theorem dX6_hasPath_28 : decode cX6_hasPath 28 = .ok (.iconst 1, 1) := by decide +kernel
theorem dX6_hasPath_29 : decode cX6_hasPath 29 = .ok (.ireturn, 1) := by decide +kernel
theorem dX6_hasPath_30 : decode cX6_hasPath 30 = .ok (.iinc 5 1, 3) := by decide +kernel
theorem dX6_hasPath_33 : decode cX6_hasPath 33 = .ok (.goto (-30), 3) := by decide +kernel
theorem dX6_hasPath_36 : decode cX6_hasPath 36 = .ok (.iconst 0, 1) := by decide +kernel
theorem dX6_hasPath_37 : decode cX6_hasPath 37 = .ok (.ireturn, 1) := by decide +kernel
theorem dX6_signalBetween_0 : decode cX6_signalBetween 0 = .ok (.aload_n 0, 1) := by decide +kernel
theorem dX6_signalBetween_1 : decode cX6_signalBetween 1 = .ok (.aload_n 0, 1) := by decide +kernel
theorem dX6_signalBetween_2 : decode cX6_signalBetween 2 = .ok (.getfield 12, 3) := by decide +kernel
theorem dX6_signalBetween_5 : decode cX6_signalBetween 5 = .ok (.aload_n 0, 1) := by decide +kernel
theorem dX6_signalBetween_6 : decode cX6_signalBetween 6 = .ok (.getfield 38, 3) := by decide +kernel
theorem dX6_signalBetween_9 : decode cX6_signalBetween 9 = .ok (.iload_n 1, 1) := by decide +kernel
theorem dX6_signalBetween_10 : decode cX6_signalBetween 10 = .ok (.iload_n 3, 1) := by decide +kernel
theorem dX6_signalBetween_11 : decode cX6_signalBetween 11 = .ok (.aload_n 0, 1) := by decide +kernel
theorem dX6_signalBetween_12 : decode cX6_signalBetween 12 = .ok (.getfield 38, 3) := by decide +kernel
theorem dX6_signalBetween_15 : decode cX6_signalBetween 15 = .ok (.getfield 248, 3) := by decide +kernel
theorem dX6_signalBetween_18 : decode cX6_signalBetween 18 = .ok (.iload_n 2, 1) := by decide +kernel
theorem dX6_signalBetween_19 : decode cX6_signalBetween 19 = .ok (.iaload, 1) := by decide +kernel
theorem dX6_signalBetween_20 : decode cX6_signalBetween 20 = .ok (.invokevirtual 154, 3) := by decide +kernel
theorem dX6_signalBetween_23 : decode cX6_signalBetween 23 = .ok (.ireturn, 1) := by decide +kernel
theorem dX6_signalAt_0 : decode cX6_signalAt 0 = .ok (.iconst (-1), 1) := by decide +kernel
theorem dX6_signalAt_1 : decode cX6_signalAt 1 = .ok (.istore 6, 2) := by decide +kernel
theorem dX6_signalAt_3 : decode cX6_signalAt 3 = .ok (.iconst 0, 1) := by decide +kernel
theorem dX6_signalAt_4 : decode cX6_signalAt 4 = .ok (.istore 7, 2) := by decide +kernel
theorem dX6_signalAt_6 : decode cX6_signalAt 6 = .ok (.iload 7, 2) := by decide +kernel
theorem dX6_signalAt_8 : decode cX6_signalAt 8 = .ok (.bipush 18, 2) := by decide +kernel
theorem dX6_signalAt_10 : decode cX6_signalAt 10 = .ok (.if_icmp .ge 67, 3) := by decide +kernel
theorem dX6_signalAt_13 : decode cX6_signalAt 13 = .ok (.aload_n 2, 1) := by decide +kernel
theorem dX6_signalAt_14 : decode cX6_signalAt 14 = .ok (.iload_n 3, 1) := by decide +kernel
theorem dX6_signalAt_15 : decode cX6_signalAt 15 = .ok (.iload 7, 2) := by decide +kernel
theorem dX6_signalAt_17 : decode cX6_signalAt 17 = .ok (.invokestatic 288, 3) := by decide +kernel
theorem dX6_signalAt_20 : decode cX6_signalAt 20 = .ok (.iload 7, 2) := by decide +kernel
theorem dX6_signalAt_22 : decode cX6_signalAt 22 = .ok (.invokestatic 291, 3) := by decide +kernel
theorem dX6_signalAt_25 : decode cX6_signalAt 25 = .ok (.invokevirtual 303, 3) := by decide +kernel
theorem dX6_signalAt_28 : decode cX6_signalAt 28 = .ok (.istore 8, 2) := by decide +kernel
theorem dX6_signalAt_30 : decode cX6_signalAt 30 = .ok (.iload 8, 2) := by decide +kernel
theorem dX6_signalAt_32 : decode cX6_signalAt 32 = .ok (.ifCond .lt 39, 3) := by decide +kernel
theorem dX6_signalAt_35 : decode cX6_signalAt 35 = .ok (.aload_n 0, 1) := by decide +kernel
theorem dX6_signalAt_36 : decode cX6_signalAt 36 = .ok (.aload_n 1, 1) := by decide +kernel
theorem dX6_signalAt_37 : decode cX6_signalAt 37 = .ok (.aload_n 2, 1) := by decide +kernel
theorem dX6_signalAt_38 : decode cX6_signalAt 38 = .ok (.getfield 248, 3) := by decide +kernel
theorem dX6_signalAt_41 : decode cX6_signalAt 41 = .ok (.iload_n 3, 1) := by decide +kernel
theorem dX6_signalAt_42 : decode cX6_signalAt 42 = .ok (.iaload, 1) := by decide +kernel
theorem dX6_signalAt_43 : decode cX6_signalAt 43 = .ok (.iload 5, 2) := by decide +kernel
theorem dX6_signalAt_45 : decode cX6_signalAt 45 = .ok (.iload 7, 2) := by decide +kernel
theorem dX6_signalAt_47 : decode cX6_signalAt 47 = .ok (.iload 4, 2) := by decide +kernel
theorem dX6_signalAt_49 : decode cX6_signalAt 49 = .ok (.iload 8, 2) := by decide +kernel
theorem dX6_signalAt_51 : decode cX6_signalAt 51 = .ok (.invokevirtual 196, 3) := by decide +kernel
theorem dX6_signalAt_54 : decode cX6_signalAt 54 = .ok (.ifCond .eq 17, 3) := by decide +kernel
theorem dX6_signalAt_57 : decode cX6_signalAt 57 = .ok (.iload 6, 2) := by decide +kernel
theorem dX6_signalAt_59 : decode cX6_signalAt 59 = .ok (.aload_n 0, 1) := by decide +kernel
theorem dX6_signalAt_60 : decode cX6_signalAt 60 = .ok (.getfield 29, 3) := by decide +kernel
theorem dX6_signalAt_63 : decode cX6_signalAt 63 = .ok (.getfield 306, 3) := by decide +kernel
theorem dX6_signalAt_66 : decode cX6_signalAt 66 = .ok (.invokestatic 226, 3) := by decide +kernel
theorem dX6_signalAt_69 : decode cX6_signalAt 69 = .ok (.istore 6, 2) := by decide +kernel
theorem dX6_signalAt_71 : decode cX6_signalAt 71 = .ok (.iinc 7 1, 3) := by decide +kernel
theorem dX6_signalAt_74 : decode cX6_signalAt 74 = .ok (.goto (-68), 3) := by decide +kernel
theorem dX6_signalAt_77 : decode cX6_signalAt 77 = .ok (.iload 6, 2) := by decide +kernel
theorem dX6_signalAt_79 : decode cX6_signalAt 79 = .ok (.iconst (-1), 1) := by decide +kernel
theorem dX6_signalAt_80 : decode cX6_signalAt 80 = .ok (.if_icmp .ne 9, 3) := by decide +kernel
theorem dX6_signalAt_83 : decode cX6_signalAt 83 = .ok (.sipush (-1000), 3) := by decide +kernel
theorem dX6_signalAt_86 : decode cX6_signalAt 86 = .ok (.goto 12, 3) := by decide +kernel
theorem dX6_signalAt_89 : decode cX6_signalAt 89 = .ok (.iload 6, 2) := by decide +kernel
theorem dX6_signalAt_91 : decode cX6_signalAt 91 = .ok (.aload_n 0, 1) := by decide +kernel
theorem dX6_signalAt_92 : decode cX6_signalAt 92 = .ok (.iload 5, 2) := by decide +kernel
theorem dX6_signalAt_94 : decode cX6_signalAt 94 = .ok (.invokevirtual 309, 3) := by decide +kernel
theorem dX6_signalAt_97 : decode cX6_signalAt 97 = .ok (.isub, 1) := by decide +kernel
theorem dX6_signalAt_98 : decode cX6_signalAt 98 = .ok (.ireturn, 1) := by decide +kernel
theorem dX6_noiseNow_0 : decode cX6_noiseNow 0 = .ok (.aload_n 0, 1) := by decide +kernel
theorem dX6_noiseNow_1 : decode cX6_noiseNow 1 = .ok (.getfield 12, 3) := by decide +kernel
theorem dX6_noiseNow_4 : decode cX6_noiseNow 4 = .ok (.getfield 94, 3) := by decide +kernel
theorem dX6_noiseNow_7 : decode cX6_noiseNow 7 = .ok (.iload_n 1, 1) := by decide +kernel
theorem dX6_noiseNow_8 : decode cX6_noiseNow 8 = .ok (.invokestatic 164, 3) := by decide +kernel
theorem dX6_noiseNow_11 : decode cX6_noiseNow 11 = .ok (.ifCond .ne 7, 3) := by decide +kernel
theorem dX6_noiseNow_14 : decode cX6_noiseNow 14 = .ok (.iconst 3, 1) := by decide +kernel
theorem dX6_noiseNow_15 : decode cX6_noiseNow 15 = .ok (.goto 4, 3) := by decide +kernel
theorem dX6_noiseNow_18 : decode cX6_noiseNow 18 = .ok (.iconst 0, 1) := by decide +kernel
theorem dX6_noiseNow_19 : decode cX6_noiseNow 19 = .ok (.istore_n 2, 1) := by decide +kernel
theorem dX6_noiseNow_20 : decode cX6_noiseNow 20 = .ok (.aload_n 0, 1) := by decide +kernel
theorem dX6_noiseNow_21 : decode cX6_noiseNow 21 = .ok (.getfield 22, 3) := by decide +kernel
theorem dX6_noiseNow_24 : decode cX6_noiseNow 24 = .ok (.getfield 90, 3) := by decide +kernel
theorem dX6_noiseNow_27 : decode cX6_noiseNow 27 = .ok (.iload_n 1, 1) := by decide +kernel
theorem dX6_noiseNow_28 : decode cX6_noiseNow 28 = .ok (.iaload, 1) := by decide +kernel
theorem dX6_noiseNow_29 : decode cX6_noiseNow 29 = .ok (.iload_n 2, 1) := by decide +kernel
theorem dX6_noiseNow_30 : decode cX6_noiseNow 30 = .ok (.iadd, 1) := by decide +kernel
theorem dX6_noiseNow_31 : decode cX6_noiseNow 31 = .ok (.ireturn, 1) := by decide +kernel
theorem dX6_neededFor_0 : decode cX6_neededFor 0 = .ok (.iload_n 0, 1) := by decide +kernel
theorem dX6_neededFor_1 : decode cX6_neededFor 1 = .ok (.lookupswitch 32 #[(0, 27), (1, 30)], 27) := by decide +kernel
theorem dX6_neededFor_28 : decode cX6_neededFor 28 = .ok (.bipush 10, 2) := by decide +kernel
theorem dX6_neededFor_30 : decode cX6_neededFor 30 = .ok (.ireturn, 1) := by decide +kernel
theorem dX6_neededFor_31 : decode cX6_neededFor 31 = .ok (.iconst 4, 1) := by decide +kernel
theorem dX6_neededFor_32 : decode cX6_neededFor 32 = .ok (.ireturn, 1) := by decide +kernel
theorem dX6_neededFor_33 : decode cX6_neededFor 33 = .ok (.bipush (-2), 2) := by decide +kernel
theorem dX6_neededFor_35 : decode cX6_neededFor 35 = .ok (.ireturn, 1) := by decide +kernel
theorem dX6_counts_0 : decode cX6_counts 0 = .ok (.aload_n 0, 1) := by decide +kernel
theorem dX6_counts_1 : decode cX6_counts 1 = .ok (.getfield 55, 3) := by decide +kernel
theorem dX6_counts_4 : decode cX6_counts 4 = .ok (.getfield 257, 3) := by decide +kernel
theorem dX6_counts_7 : decode cX6_counts 7 = .ok (.iload_n 1, 1) := by decide +kernel
theorem dX6_counts_8 : decode cX6_counts 8 = .ok (.iaload, 1) := by decide +kernel
theorem dX6_counts_9 : decode cX6_counts 9 = .ok (.istore_n 2, 1) := by decide +kernel
theorem dX6_counts_10 : decode cX6_counts 10 = .ok (.iload_n 2, 1) := by decide +kernel
theorem dX6_counts_11 : decode cX6_counts 11 = .ok (.iconst (-1), 1) := by decide +kernel
theorem dX6_counts_12 : decode cX6_counts 12 = .ok (.if_icmp .ne 5, 3) := by decide +kernel
theorem dX6_counts_15 : decode cX6_counts 15 = .ok (.iconst 0, 1) := by decide +kernel
theorem dX6_counts_16 : decode cX6_counts 16 = .ok (.ireturn, 1) := by decide +kernel
theorem dX6_counts_17 : decode cX6_counts 17 = .ok (.iconst 0, 1) := by decide +kernel
theorem dX6_counts_18 : decode cX6_counts 18 = .ok (.istore_n 3, 1) := by decide +kernel
theorem dX6_counts_19 : decode cX6_counts 19 = .ok (.iload_n 3, 1) := by decide +kernel
theorem dX6_counts_20 : decode cX6_counts 20 = .ok (.aload_n 0, 1) := by decide +kernel
theorem dX6_counts_21 : decode cX6_counts 21 = .ok (.getfield 48, 3) := by decide +kernel
theorem dX6_counts_24 : decode cX6_counts 24 = .ok (.getfield 268, 3) := by decide +kernel
theorem dX6_counts_27 : decode cX6_counts 27 = .ok (.if_icmp .ge 115, 3) := by decide +kernel
theorem dX6_counts_30 : decode cX6_counts 30 = .ok (.aload_n 0, 1) := by decide +kernel
theorem dX6_counts_31 : decode cX6_counts 31 = .ok (.getfield 48, 3) := by decide +kernel
theorem dX6_counts_34 : decode cX6_counts 34 = .ok (.getfield 312, 3) := by decide +kernel
theorem dX6_counts_37 : decode cX6_counts 37 = .ok (.iload_n 3, 1) := by decide +kernel
theorem dX6_counts_38 : decode cX6_counts 38 = .ok (.iaload, 1) := by decide +kernel
theorem dX6_counts_39 : decode cX6_counts 39 = .ok (.aload_n 0, 1) := by decide +kernel
theorem dX6_counts_40 : decode cX6_counts 40 = .ok (.getfield 55, 3) := by decide +kernel
theorem dX6_counts_43 : decode cX6_counts 43 = .ok (.getfield 260, 3) := by decide +kernel
theorem dX6_counts_46 : decode cX6_counts 46 = .ok (.iload_n 1, 1) := by decide +kernel
theorem dX6_counts_47 : decode cX6_counts 47 = .ok (.iaload, 1) := by decide +kernel
theorem dX6_counts_48 : decode cX6_counts 48 = .ok (.if_icmp .eq 24, 3) := by decide +kernel
theorem dX6_counts_51 : decode cX6_counts 51 = .ok (.aload_n 0, 1) := by decide +kernel
theorem dX6_counts_52 : decode cX6_counts 52 = .ok (.getfield 48, 3) := by decide +kernel
theorem dX6_counts_55 : decode cX6_counts 55 = .ok (.getfield 312, 3) := by decide +kernel
theorem dX6_counts_58 : decode cX6_counts 58 = .ok (.iload_n 3, 1) := by decide +kernel
theorem dX6_counts_59 : decode cX6_counts 59 = .ok (.iaload, 1) := by decide +kernel
theorem dX6_counts_60 : decode cX6_counts 60 = .ok (.aload_n 0, 1) := by decide +kernel
theorem dX6_counts_61 : decode cX6_counts 61 = .ok (.getfield 55, 3) := by decide +kernel
theorem dX6_counts_64 : decode cX6_counts 64 = .ok (.getfield 260, 3) := by decide +kernel
theorem dX6_counts_67 : decode cX6_counts 67 = .ok (.iload_n 2, 1) := by decide +kernel
theorem dX6_counts_68 : decode cX6_counts 68 = .ok (.iaload, 1) := by decide +kernel
theorem dX6_counts_69 : decode cX6_counts 69 = .ok (.if_icmp .ne 7, 3) := by decide +kernel
theorem dX6_counts_72 : decode cX6_counts 72 = .ok (.iconst 1, 1) := by decide +kernel
theorem dX6_counts_73 : decode cX6_counts 73 = .ok (.goto 4, 3) := by decide +kernel
theorem dX6_counts_76 : decode cX6_counts 76 = .ok (.iconst 0, 1) := by decide +kernel
theorem dX6_counts_77 : decode cX6_counts 77 = .ok (.istore 4, 2) := by decide +kernel
theorem dX6_counts_79 : decode cX6_counts 79 = .ok (.iload 4, 2) := by decide +kernel
theorem dX6_counts_81 : decode cX6_counts 81 = .ok (.ifCond .eq 55, 3) := by decide +kernel
theorem dX6_counts_84 : decode cX6_counts 84 = .ok (.aload_n 0, 1) := by decide +kernel
theorem dX6_counts_85 : decode cX6_counts 85 = .ok (.getfield 48, 3) := by decide +kernel
theorem dX6_counts_88 : decode cX6_counts 88 = .ok (.getfield 313, 3) := by decide +kernel
theorem dX6_counts_91 : decode cX6_counts 91 = .ok (.iload_n 3, 1) := by decide +kernel
theorem dX6_counts_92 : decode cX6_counts 92 = .ok (.iaload, 1) := by decide +kernel
theorem dX6_counts_93 : decode cX6_counts 93 = .ok (.aload_n 0, 1) := by decide +kernel
theorem dX6_counts_94 : decode cX6_counts 94 = .ok (.getfield 55, 3) := by decide +kernel
theorem dX6_counts_97 : decode cX6_counts 97 = .ok (.getfield 314, 3) := by decide +kernel
theorem dX6_counts_100 : decode cX6_counts 100 = .ok (.iload_n 1, 1) := by decide +kernel
theorem dX6_counts_101 : decode cX6_counts 101 = .ok (.iaload, 1) := by decide +kernel
theorem dX6_counts_102 : decode cX6_counts 102 = .ok (.if_icmp .ne 34, 3) := by decide +kernel
theorem dX6_counts_105 : decode cX6_counts 105 = .ok (.aload_n 0, 1) := by decide +kernel
theorem dX6_counts_106 : decode cX6_counts 106 = .ok (.getfield 48, 3) := by decide +kernel
theorem dX6_counts_109 : decode cX6_counts 109 = .ok (.iload_n 3, 1) := by decide +kernel
theorem dX6_counts_110 : decode cX6_counts 110 = .ok (.aload_n 0, 1) := by decide +kernel
theorem dX6_counts_111 : decode cX6_counts 111 = .ok (.getfield 55, 3) := by decide +kernel
theorem dX6_counts_114 : decode cX6_counts 114 = .ok (.getfield 245, 3) := by decide +kernel
theorem dX6_counts_117 : decode cX6_counts 117 = .ok (.iload_n 1, 1) := by decide +kernel
theorem dX6_counts_118 : decode cX6_counts 118 = .ok (.iaload, 1) := by decide +kernel
theorem dX6_counts_119 : decode cX6_counts 119 = .ok (.aload_n 0, 1) := by decide +kernel
theorem dX6_counts_120 : decode cX6_counts 120 = .ok (.getfield 55, 3) := by decide +kernel
theorem dX6_counts_123 : decode cX6_counts 123 = .ok (.getfield 251, 3) := by decide +kernel
theorem dX6_counts_126 : decode cX6_counts 126 = .ok (.iload_n 1, 1) := by decide +kernel
theorem dX6_counts_127 : decode cX6_counts 127 = .ok (.iaload, 1) := by decide +kernel
theorem dX6_counts_128 : decode cX6_counts 128 = .ok (.invokevirtual 315, 3) := by decide +kernel
theorem dX6_counts_131 : decode cX6_counts 131 = .ok (.ifCond .eq 5, 3) := by decide +kernel
theorem dX6_counts_134 : decode cX6_counts 134 = .ok (.iconst 1, 1) := by decide +kernel
theorem dX6_counts_135 : decode cX6_counts 135 = .ok (.ireturn, 1) := by decide +kernel
theorem dX6_counts_136 : decode cX6_counts 136 = .ok (.iinc 3 1, 3) := by decide +kernel
theorem dX6_counts_139 : decode cX6_counts 139 = .ok (.goto (-120), 3) := by decide +kernel
theorem dX6_counts_142 : decode cX6_counts 142 = .ok (.iconst 0, 1) := by decide +kernel
theorem dX6_counts_143 : decode cX6_counts 143 = .ok (.ireturn, 1) := by decide +kernel
theorem dJ6_bitCount_0f7a4_0 : decode cJ6_bitCount_0f7a4 0 = .ok (.iload_n 0, 1) := by decide +kernel
theorem dJ6_bitCount_0f7a4_1 : decode cJ6_bitCount_0f7a4 1 = .ok (.iload_n 0, 1) := by decide +kernel
theorem dJ6_bitCount_0f7a4_2 : decode cJ6_bitCount_0f7a4 2 = .ok (.iconst 1, 1) := by decide +kernel
theorem dJ6_bitCount_0f7a4_3 : decode cJ6_bitCount_0f7a4 3 = .ok (.iushr, 1) := by decide +kernel
theorem dJ6_bitCount_0f7a4_4 : decode cJ6_bitCount_0f7a4 4 = .ok (.ldc_w 265, 3) := by decide +kernel
theorem dJ6_bitCount_0f7a4_7 : decode cJ6_bitCount_0f7a4 7 = .ok (.iand, 1) := by decide +kernel
theorem dJ6_bitCount_0f7a4_8 : decode cJ6_bitCount_0f7a4 8 = .ok (.isub, 1) := by decide +kernel
theorem dJ6_bitCount_0f7a4_9 : decode cJ6_bitCount_0f7a4 9 = .ok (.istore_n 0, 1) := by decide +kernel
theorem dJ6_bitCount_0f7a4_10 : decode cJ6_bitCount_0f7a4 10 = .ok (.iload_n 0, 1) := by decide +kernel
theorem dJ6_bitCount_0f7a4_11 : decode cJ6_bitCount_0f7a4 11 = .ok (.ldc_w 266, 3) := by decide +kernel
theorem dJ6_bitCount_0f7a4_14 : decode cJ6_bitCount_0f7a4 14 = .ok (.iand, 1) := by decide +kernel
theorem dJ6_bitCount_0f7a4_15 : decode cJ6_bitCount_0f7a4 15 = .ok (.iload_n 0, 1) := by decide +kernel
theorem dJ6_bitCount_0f7a4_16 : decode cJ6_bitCount_0f7a4 16 = .ok (.iconst 2, 1) := by decide +kernel
theorem dJ6_bitCount_0f7a4_17 : decode cJ6_bitCount_0f7a4 17 = .ok (.iushr, 1) := by decide +kernel
theorem dJ6_bitCount_0f7a4_18 : decode cJ6_bitCount_0f7a4 18 = .ok (.ldc_w 266, 3) := by decide +kernel
theorem dJ6_bitCount_0f7a4_21 : decode cJ6_bitCount_0f7a4 21 = .ok (.iand, 1) := by decide +kernel
theorem dJ6_bitCount_0f7a4_22 : decode cJ6_bitCount_0f7a4 22 = .ok (.iadd, 1) := by decide +kernel
theorem dJ6_bitCount_0f7a4_23 : decode cJ6_bitCount_0f7a4 23 = .ok (.istore_n 0, 1) := by decide +kernel
theorem dJ6_bitCount_0f7a4_24 : decode cJ6_bitCount_0f7a4 24 = .ok (.iload_n 0, 1) := by decide +kernel
theorem dJ6_bitCount_0f7a4_25 : decode cJ6_bitCount_0f7a4 25 = .ok (.iload_n 0, 1) := by decide +kernel
theorem dJ6_bitCount_0f7a4_26 : decode cJ6_bitCount_0f7a4 26 = .ok (.iconst 4, 1) := by decide +kernel
theorem dJ6_bitCount_0f7a4_27 : decode cJ6_bitCount_0f7a4 27 = .ok (.iushr, 1) := by decide +kernel
theorem dJ6_bitCount_0f7a4_28 : decode cJ6_bitCount_0f7a4 28 = .ok (.iadd, 1) := by decide +kernel
theorem dJ6_bitCount_0f7a4_29 : decode cJ6_bitCount_0f7a4 29 = .ok (.ldc_w 267, 3) := by decide +kernel
theorem dJ6_bitCount_0f7a4_32 : decode cJ6_bitCount_0f7a4 32 = .ok (.iand, 1) := by decide +kernel
theorem dJ6_bitCount_0f7a4_33 : decode cJ6_bitCount_0f7a4 33 = .ok (.istore_n 0, 1) := by decide +kernel
theorem dJ6_bitCount_0f7a4_34 : decode cJ6_bitCount_0f7a4 34 = .ok (.iload_n 0, 1) := by decide +kernel
theorem dJ6_bitCount_0f7a4_35 : decode cJ6_bitCount_0f7a4 35 = .ok (.iload_n 0, 1) := by decide +kernel
theorem dJ6_bitCount_0f7a4_36 : decode cJ6_bitCount_0f7a4 36 = .ok (.bipush 8, 2) := by decide +kernel
theorem dJ6_bitCount_0f7a4_38 : decode cJ6_bitCount_0f7a4 38 = .ok (.iushr, 1) := by decide +kernel
theorem dJ6_bitCount_0f7a4_39 : decode cJ6_bitCount_0f7a4 39 = .ok (.iadd, 1) := by decide +kernel
theorem dJ6_bitCount_0f7a4_40 : decode cJ6_bitCount_0f7a4 40 = .ok (.istore_n 0, 1) := by decide +kernel
theorem dJ6_bitCount_0f7a4_41 : decode cJ6_bitCount_0f7a4 41 = .ok (.iload_n 0, 1) := by decide +kernel
theorem dJ6_bitCount_0f7a4_42 : decode cJ6_bitCount_0f7a4 42 = .ok (.iload_n 0, 1) := by decide +kernel
theorem dJ6_bitCount_0f7a4_43 : decode cJ6_bitCount_0f7a4 43 = .ok (.bipush 16, 2) := by decide +kernel
theorem dJ6_bitCount_0f7a4_45 : decode cJ6_bitCount_0f7a4 45 = .ok (.iushr, 1) := by decide +kernel
theorem dJ6_bitCount_0f7a4_46 : decode cJ6_bitCount_0f7a4 46 = .ok (.iadd, 1) := by decide +kernel
theorem dJ6_bitCount_0f7a4_47 : decode cJ6_bitCount_0f7a4 47 = .ok (.istore_n 0, 1) := by decide +kernel
theorem dJ6_bitCount_0f7a4_48 : decode cJ6_bitCount_0f7a4 48 = .ok (.iload_n 0, 1) := by decide +kernel
theorem dJ6_bitCount_0f7a4_49 : decode cJ6_bitCount_0f7a4 49 = .ok (.bipush 63, 2) := by decide +kernel
theorem dJ6_bitCount_0f7a4_51 : decode cJ6_bitCount_0f7a4 51 = .ok (.iand, 1) := by decide +kernel
theorem dJ6_bitCount_0f7a4_52 : decode cJ6_bitCount_0f7a4 52 = .ok (.ireturn, 1) := by decide +kernel
theorem dJ9_abs_0f7a4_0 : decode cJ9_abs_0f7a4 0 = .ok (.iload_n 0, 1) := by decide +kernel
theorem dJ9_abs_0f7a4_1 : decode cJ9_abs_0f7a4 1 = .ok (.ifCond .ge 8, 3) := by decide +kernel
theorem dJ9_abs_0f7a4_4 : decode cJ9_abs_0f7a4 4 = .ok (.iload_n 0, 1) := by decide +kernel
theorem dJ9_abs_0f7a4_5 : decode cJ9_abs_0f7a4 5 = .ok (.ineg, 1) := by decide +kernel
theorem dJ9_abs_0f7a4_6 : decode cJ9_abs_0f7a4 6 = .ok (.goto 4, 3) := by decide +kernel
theorem dJ9_abs_0f7a4_9 : decode cJ9_abs_0f7a4 9 = .ok (.iload_n 0, 1) := by decide +kernel
theorem dJ9_abs_0f7a4_10 : decode cJ9_abs_0f7a4 10 = .ok (.ireturn, 1) := by decide +kernel
theorem dJ9_max_7cf53_0 : decode cJ9_max_7cf53 0 = .ok (.iload_n 0, 1) := by decide +kernel
theorem dJ9_max_7cf53_1 : decode cJ9_max_7cf53 1 = .ok (.iload_n 1, 1) := by decide +kernel
theorem dJ9_max_7cf53_2 : decode cJ9_max_7cf53 2 = .ok (.if_icmp .lt 7, 3) := by decide +kernel
theorem dJ9_max_7cf53_5 : decode cJ9_max_7cf53 5 = .ok (.iload_n 0, 1) := by decide +kernel
theorem dJ9_max_7cf53_6 : decode cJ9_max_7cf53 6 = .ok (.goto 4, 3) := by decide +kernel
theorem dJ9_max_7cf53_9 : decode cJ9_max_7cf53 9 = .ok (.iload_n 1, 1) := by decide +kernel
theorem dJ9_max_7cf53_10 : decode cJ9_max_7cf53 10 = .ok (.ireturn, 1) := by decide +kernel
theorem dJ9_min_7cf53_0 : decode cJ9_min_7cf53 0 = .ok (.iload_n 0, 1) := by decide +kernel
theorem dJ9_min_7cf53_1 : decode cJ9_min_7cf53 1 = .ok (.iload_n 1, 1) := by decide +kernel
theorem dJ9_min_7cf53_2 : decode cJ9_min_7cf53 2 = .ok (.if_icmp .gt 7, 3) := by decide +kernel
theorem dJ9_min_7cf53_5 : decode cJ9_min_7cf53 5 = .ok (.iload_n 0, 1) := by decide +kernel
theorem dJ9_min_7cf53_6 : decode cJ9_min_7cf53 6 = .ok (.goto 4, 3) := by decide +kernel
theorem dJ9_min_7cf53_9 : decode cJ9_min_7cf53 9 = .ok (.iload_n 1, 1) := by decide +kernel
theorem dJ9_min_7cf53_10 : decode cJ9_min_7cf53 10 = .ok (.ireturn, 1) := by decide +kernel
theorem dL_cell_0 : decode cL_cell 0 = .ok (.iload_n 1, 1) := by decide +kernel
theorem dL_cell_1 : decode cL_cell 1 = .ok (.aload_n 0, 1) := by decide +kernel
theorem dL_cell_2 : decode cL_cell 2 = .ok (.arraylength, 1) := by decide +kernel
theorem dL_cell_3 : decode cL_cell 3 = .ok (.if_icmp .ge 9, 3) := by decide +kernel
theorem dL_cell_6 : decode cL_cell 6 = .ok (.aload_n 0, 1) := by decide +kernel
theorem dL_cell_7 : decode cL_cell 7 = .ok (.iload_n 1, 1) := by decide +kernel
theorem dL_cell_8 : decode cL_cell 8 = .ok (.iaload, 1) := by decide +kernel
theorem dL_cell_9 : decode cL_cell 9 = .ok (.goto 18, 3) := by decide +kernel
theorem dL_cell_12 : decode cL_cell 12 = .ok (.sipush 7919, 3) := by decide +kernel
theorem dL_cell_15 : decode cL_cell 15 = .ok (.iload_n 1, 1) := by decide +kernel
theorem dL_cell_16 : decode cL_cell 16 = .ok (.sipush 2819, 3) := by decide +kernel
theorem dL_cell_19 : decode cL_cell 19 = .ok (.iadd, 1) := by decide +kernel
theorem dL_cell_20 : decode cL_cell 20 = .ok (.imul, 1) := by decide +kernel
theorem dL_cell_21 : decode cL_cell 21 = .ok (.iload_n 1, 1) := by decide +kernel
theorem dL_cell_22 : decode cL_cell 22 = .ok (.sipush 547, 3) := by decide +kernel
theorem dL_cell_25 : decode cL_cell 25 = .ok (.iadd, 1) := by decide +kernel
theorem dL_cell_26 : decode cL_cell 26 = .ok (.imul, 1) := by decide +kernel
theorem dL_cell_27 : decode cL_cell 27 = .ok (.ireturn, 1) := by decide +kernel
theorem dL_low_0 : decode cL_low 0 = .ok (.iload_n 0, 1) := by decide +kernel
theorem dL_low_1 : decode cL_low 1 = .ok (.ldc 7, 2) := by decide +kernel
theorem dL_low_3 : decode cL_low 3 = .ok (.iand, 1) := by decide +kernel
theorem dL_low_4 : decode cL_low 4 = .ok (.iload_n 1, 1) := by decide +kernel
theorem dL_low_5 : decode cL_low 5 = .ok (.irem, 1) := by decide +kernel
theorem dL_low_6 : decode cL_low 6 = .ok (.ireturn, 1) := by decide +kernel
theorem dL_sun_0 : decode cL_sun 0 = .ok (.aload_n 0, 1) := by decide +kernel
theorem dL_sun_1 : decode cL_sun 1 = .ok (.iload_n 1, 1) := by decide +kernel
theorem dL_sun_2 : decode cL_sun 2 = .ok (.invokevirtual 8, 3) := by decide +kernel
theorem dL_sun_5 : decode cL_sun 5 = .ok (.ireturn, 1) := by decide +kernel
theorem dL_sun_6 : decode cL_sun 6 = .ok (.astore_n 2, 1) := by decide +kernel
theorem dL_sun_7 : decode cL_sun 7 = .ok (.ldc 16, 2) := by decide +kernel
theorem dL_sun_9 : decode cL_sun 9 = .ok (.ireturn, 1) := by decide +kernel
theorem dL_storm_0 : decode cL_storm 0 = .ok (.aload_n 0, 1) := by decide +kernel
theorem dL_storm_1 : decode cL_storm 1 = .ok (.iload_n 1, 1) := by decide +kernel
theorem dL_storm_2 : decode cL_storm 2 = .ok (.iload_n 2, 1) := by decide +kernel
theorem dL_storm_3 : decode cL_storm 3 = .ok (.invokevirtual 17, 3) := by decide +kernel
theorem dL_storm_6 : decode cL_storm 6 = .ok (.iconst 0, 1) := by decide +kernel
theorem dL_storm_7 : decode cL_storm 7 = .ok (.ireturn, 1) := by decide +kernel
theorem dL_storm_8 : decode cL_storm 8 = .ok (.astore_n 3, 1) := by decide +kernel
theorem dL_storm_9 : decode cL_storm 9 = .ok (.ldc 16, 2) := by decide +kernel
theorem dL_storm_11 : decode cL_storm 11 = .ok (.ireturn, 1) := by decide +kernel
theorem dL_flare_0 : decode cL_flare 0 = .ok (.aload_n 0, 1) := by decide +kernel
theorem dL_flare_1 : decode cL_flare 1 = .ok (.iload_n 1, 1) := by decide +kernel
theorem dL_flare_2 : decode cL_flare 2 = .ok (.invokevirtual 21, 3) := by decide +kernel
theorem dL_flare_5 : decode cL_flare 5 = .ok (.ireturn, 1) := by decide +kernel
theorem dL_flare_6 : decode cL_flare 6 = .ok (.astore_n 2, 1) := by decide +kernel
theorem dL_flare_7 : decode cL_flare 7 = .ok (.ldc 16, 2) := by decide +kernel
theorem dL_flare_9 : decode cL_flare 9 = .ok (.ireturn, 1) := by decide +kernel
theorem dL_cloud_0 : decode cL_cloud 0 = .ok (.aload_n 0, 1) := by decide +kernel
theorem dL_cloud_1 : decode cL_cloud 1 = .ok (.iload_n 1, 1) := by decide +kernel
theorem dL_cloud_2 : decode cL_cloud 2 = .ok (.iload_n 2, 1) := by decide +kernel
theorem dL_cloud_3 : decode cL_cloud 3 = .ok (.iload_n 3, 1) := by decide +kernel
theorem dL_cloud_4 : decode cL_cloud 4 = .ok (.invokevirtual 24, 3) := by decide +kernel
theorem dL_cloud_7 : decode cL_cloud 7 = .ok (.iconst 0, 1) := by decide +kernel
theorem dL_cloud_8 : decode cL_cloud 8 = .ok (.ireturn, 1) := by decide +kernel
theorem dL_cloud_9 : decode cL_cloud 9 = .ok (.astore 4, 2) := by decide +kernel
theorem dL_cloud_11 : decode cL_cloud 11 = .ok (.ldc 16, 2) := by decide +kernel
theorem dL_cloud_13 : decode cL_cloud 13 = .ok (.ireturn, 1) := by decide +kernel
theorem dL_cloud_14 : decode cL_cloud 14 = .ok (.astore 4, 2) := by decide +kernel
theorem dL_cloud_16 : decode cL_cloud 16 = .ok (.ldc 16, 2) := by decide +kernel
theorem dL_cloud_18 : decode cL_cloud 18 = .ok (.ireturn, 1) := by decide +kernel
theorem dL_sea_0 : decode cL_sea 0 = .ok (.aload_n 0, 1) := by decide +kernel
theorem dL_sea_1 : decode cL_sea 1 = .ok (.iload_n 1, 1) := by decide +kernel
theorem dL_sea_2 : decode cL_sea 2 = .ok (.iload_n 2, 1) := by decide +kernel
theorem dL_sea_3 : decode cL_sea 3 = .ok (.invokevirtual 30, 3) := by decide +kernel
theorem dL_sea_6 : decode cL_sea 6 = .ok (.ifCond .eq 7, 3) := by decide +kernel
theorem dL_sea_9 : decode cL_sea 9 = .ok (.iconst 1, 1) := by decide +kernel
theorem dL_sea_10 : decode cL_sea 10 = .ok (.goto 4, 3) := by decide +kernel
theorem dL_sea_13 : decode cL_sea 13 = .ok (.iconst 0, 1) := by decide +kernel
theorem dL_sea_14 : decode cL_sea 14 = .ok (.ireturn, 1) := by decide +kernel
theorem dL_sea_15 : decode cL_sea 15 = .ok (.astore_n 3, 1) := by decide +kernel
theorem dL_sea_16 : decode cL_sea 16 = .ok (.ldc 16, 2) := by decide +kernel
theorem dL_sea_18 : decode cL_sea 18 = .ok (.ireturn, 1) := by decide +kernel
theorem dL_noise_0 : decode cL_noise 0 = .ok (.aload_n 0, 1) := by decide +kernel
theorem dL_noise_1 : decode cL_noise 1 = .ok (.iload_n 1, 1) := by decide +kernel
theorem dL_noise_2 : decode cL_noise 2 = .ok (.iload_n 2, 1) := by decide +kernel
theorem dL_noise_3 : decode cL_noise 3 = .ok (.invokevirtual 34, 3) := by decide +kernel
theorem dL_noise_6 : decode cL_noise 6 = .ok (.ireturn, 1) := by decide +kernel
theorem dL_noise_7 : decode cL_noise 7 = .ok (.astore_n 3, 1) := by decide +kernel
theorem dL_noise_8 : decode cL_noise 8 = .ok (.ldc 16, 2) := by decide +kernel
theorem dL_noise_10 : decode cL_noise 10 = .ok (.ireturn, 1) := by decide +kernel
theorem dL_noise_11 : decode cL_noise 11 = .ok (.astore_n 3, 1) := by decide +kernel
theorem dL_noise_12 : decode cL_noise 12 = .ok (.ldc 16, 2) := by decide +kernel
theorem dL_noise_14 : decode cL_noise 14 = .ok (.ireturn, 1) := by decide +kernel
theorem dL_pass_0 : decode cL_pass 0 = .ok (.aload_n 0, 1) := by decide +kernel
theorem dL_pass_1 : decode cL_pass 1 = .ok (.iload_n 1, 1) := by decide +kernel
theorem dL_pass_2 : decode cL_pass 2 = .ok (.invokevirtual 38, 3) := by decide +kernel
theorem dL_pass_5 : decode cL_pass 5 = .ok (.ireturn, 1) := by decide +kernel
theorem dL_pass_6 : decode cL_pass 6 = .ok (.astore_n 2, 1) := by decide +kernel
theorem dL_pass_7 : decode cL_pass 7 = .ok (.ldc 16, 2) := by decide +kernel
theorem dL_pass_9 : decode cL_pass 9 = .ok (.ireturn, 1) := by decide +kernel
theorem dL_pass_10 : decode cL_pass 10 = .ok (.astore_n 2, 1) := by decide +kernel
theorem dL_pass_11 : decode cL_pass 11 = .ok (.ldc 16, 2) := by decide +kernel
theorem dL_pass_13 : decode cL_pass 13 = .ok (.ireturn, 1) := by decide +kernel
theorem dL_station_0 : decode cL_station 0 = .ok (.aload_n 0, 1) := by decide +kernel
theorem dL_station_1 : decode cL_station 1 = .ok (.iload_n 1, 1) := by decide +kernel
theorem dL_station_2 : decode cL_station 2 = .ok (.iload_n 2, 1) := by decide +kernel
theorem dL_station_3 : decode cL_station 3 = .ok (.iload_n 3, 1) := by decide +kernel
theorem dL_station_4 : decode cL_station 4 = .ok (.iload 4, 2) := by decide +kernel
theorem dL_station_6 : decode cL_station 6 = .ok (.invokevirtual 43, 3) := by decide +kernel
theorem dL_station_9 : decode cL_station 9 = .ok (.ireturn, 1) := by decide +kernel
theorem dL_station_10 : decode cL_station 10 = .ok (.astore 5, 2) := by decide +kernel
theorem dL_station_12 : decode cL_station 12 = .ok (.ldc 16, 2) := by decide +kernel
theorem dL_station_14 : decode cL_station 14 = .ok (.ireturn, 1) := by decide +kernel
theorem dL_station_15 : decode cL_station 15 = .ok (.astore 5, 2) := by decide +kernel
theorem dL_station_17 : decode cL_station 17 = .ok (.ldc 16, 2) := by decide +kernel
theorem dL_station_19 : decode cL_station 19 = .ok (.ireturn, 1) := by decide +kernel
theorem dL_station_20 : decode cL_station 20 = .ok (.astore 5, 2) := by decide +kernel
theorem dL_station_22 : decode cL_station 22 = .ok (.ldc 16, 2) := by decide +kernel
theorem dL_station_24 : decode cL_station 24 = .ok (.ireturn, 1) := by decide +kernel
theorem dL_beacon_0 : decode cL_beacon 0 = .ok (.aload_n 0, 1) := by decide +kernel
theorem dL_beacon_1 : decode cL_beacon 1 = .ok (.iload_n 1, 1) := by decide +kernel
theorem dL_beacon_2 : decode cL_beacon 2 = .ok (.iload_n 2, 1) := by decide +kernel
theorem dL_beacon_3 : decode cL_beacon 3 = .ok (.iload_n 3, 1) := by decide +kernel
theorem dL_beacon_4 : decode cL_beacon 4 = .ok (.invokevirtual 47, 3) := by decide +kernel
theorem dL_beacon_7 : decode cL_beacon 7 = .ok (.ireturn, 1) := by decide +kernel
theorem dL_beacon_8 : decode cL_beacon 8 = .ok (.astore 4, 2) := by decide +kernel
theorem dL_beacon_10 : decode cL_beacon 10 = .ok (.ldc 16, 2) := by decide +kernel
theorem dL_beacon_12 : decode cL_beacon 12 = .ok (.ireturn, 1) := by decide +kernel
theorem dL_beacon_13 : decode cL_beacon 13 = .ok (.astore 4, 2) := by decide +kernel
theorem dL_beacon_15 : decode cL_beacon 15 = .ok (.ldc 16, 2) := by decide +kernel
theorem dL_beacon_17 : decode cL_beacon 17 = .ok (.ireturn, 1) := by decide +kernel
theorem dL_beacon_18 : decode cL_beacon 18 = .ok (.astore 4, 2) := by decide +kernel
theorem dL_beacon_20 : decode cL_beacon 20 = .ok (.ldc 16, 2) := by decide +kernel
theorem dL_beacon_22 : decode cL_beacon 22 = .ok (.ireturn, 1) := by decide +kernel
theorem dL_call_0 : decode cL_call 0 = .ok (.aload_n 0, 1) := by decide +kernel
theorem dL_call_1 : decode cL_call 1 = .ok (.iload_n 1, 1) := by decide +kernel
theorem dL_call_2 : decode cL_call 2 = .ok (.iload_n 2, 1) := by decide +kernel
theorem dL_call_3 : decode cL_call 3 = .ok (.iload_n 3, 1) := by decide +kernel
theorem dL_call_4 : decode cL_call 4 = .ok (.iload 4, 2) := by decide +kernel
theorem dL_call_6 : decode cL_call 6 = .ok (.invokevirtual 51, 3) := by decide +kernel
theorem dL_call_9 : decode cL_call 9 = .ok (.ifCond .eq 7, 3) := by decide +kernel
theorem dL_call_12 : decode cL_call 12 = .ok (.iconst 1, 1) := by decide +kernel
theorem dL_call_13 : decode cL_call 13 = .ok (.goto 4, 3) := by decide +kernel
theorem dL_call_16 : decode cL_call 16 = .ok (.iconst 0, 1) := by decide +kernel
theorem dL_call_17 : decode cL_call 17 = .ok (.ireturn, 1) := by decide +kernel
theorem dL_call_18 : decode cL_call 18 = .ok (.astore 5, 2) := by decide +kernel
theorem dL_call_20 : decode cL_call 20 = .ok (.ldc 16, 2) := by decide +kernel
theorem dL_call_22 : decode cL_call 22 = .ok (.ireturn, 1) := by decide +kernel
theorem dL_call_23 : decode cL_call 23 = .ok (.astore 5, 2) := by decide +kernel
theorem dL_call_25 : decode cL_call 25 = .ok (.ldc 16, 2) := by decide +kernel
theorem dL_call_27 : decode cL_call 27 = .ok (.ireturn, 1) := by decide +kernel
theorem dL_call_28 : decode cL_call 28 = .ok (.astore 5, 2) := by decide +kernel
theorem dL_call_30 : decode cL_call 30 = .ok (.ldc 16, 2) := by decide +kernel
theorem dL_call_32 : decode cL_call 32 = .ok (.ireturn, 1) := by decide +kernel
theorem dL_log_0 : decode cL_log 0 = .ok (.aload_n 0, 1) := by decide +kernel
theorem dL_log_1 : decode cL_log 1 = .ok (.iload_n 1, 1) := by decide +kernel
theorem dL_log_2 : decode cL_log 2 = .ok (.iload_n 2, 1) := by decide +kernel
theorem dL_log_3 : decode cL_log 3 = .ok (.iload_n 3, 1) := by decide +kernel
theorem dL_log_4 : decode cL_log 4 = .ok (.invokevirtual 55, 3) := by decide +kernel
theorem dL_log_7 : decode cL_log 7 = .ok (.ireturn, 1) := by decide +kernel
theorem dL_log_8 : decode cL_log 8 = .ok (.astore 4, 2) := by decide +kernel
theorem dL_log_10 : decode cL_log 10 = .ok (.ldc 16, 2) := by decide +kernel
theorem dL_log_12 : decode cL_log 12 = .ok (.ireturn, 1) := by decide +kernel
theorem dL_log_13 : decode cL_log 13 = .ok (.astore 4, 2) := by decide +kernel
theorem dL_log_15 : decode cL_log 15 = .ok (.ldc 16, 2) := by decide +kernel
theorem dL_log_17 : decode cL_log 17 = .ok (.ireturn, 1) := by decide +kernel
theorem dL_log_18 : decode cL_log 18 = .ok (.astore 4, 2) := by decide +kernel
theorem dL_log_20 : decode cL_log 20 = .ok (.ldc 16, 2) := by decide +kernel
theorem dL_log_22 : decode cL_log 22 = .ok (.ireturn, 1) := by decide +kernel
theorem dL_listen_0 : decode cL_listen 0 = .ok (.aload_n 0, 1) := by decide +kernel
theorem dL_listen_1 : decode cL_listen 1 = .ok (.iload_n 1, 1) := by decide +kernel
theorem dL_listen_2 : decode cL_listen 2 = .ok (.invokevirtual 58, 3) := by decide +kernel
theorem dL_listen_5 : decode cL_listen 5 = .ok (.ireturn, 1) := by decide +kernel
theorem dL_listen_6 : decode cL_listen 6 = .ok (.astore_n 2, 1) := by decide +kernel
theorem dL_listen_7 : decode cL_listen 7 = .ok (.ldc 16, 2) := by decide +kernel
theorem dL_listen_9 : decode cL_listen 9 = .ok (.ireturn, 1) := by decide +kernel
theorem dL_light_0 : decode cL_light 0 = .ok (.aload_n 0, 1) := by decide +kernel
theorem dL_light_1 : decode cL_light 1 = .ok (.iload_n 1, 1) := by decide +kernel
theorem dL_light_2 : decode cL_light 2 = .ok (.iload_n 2, 1) := by decide +kernel
theorem dL_light_3 : decode cL_light 3 = .ok (.invokevirtual 61, 3) := by decide +kernel
theorem dL_light_6 : decode cL_light 6 = .ok (.ireturn, 1) := by decide +kernel
theorem dL_light_7 : decode cL_light 7 = .ok (.astore_n 3, 1) := by decide +kernel
theorem dL_light_8 : decode cL_light 8 = .ok (.ldc 16, 2) := by decide +kernel
theorem dL_light_10 : decode cL_light 10 = .ok (.ireturn, 1) := by decide +kernel
theorem dL_light_11 : decode cL_light 11 = .ok (.astore_n 3, 1) := by decide +kernel
theorem dL_light_12 : decode cL_light 12 = .ok (.ldc 16, 2) := by decide +kernel
theorem dL_light_14 : decode cL_light 14 = .ok (.ireturn, 1) := by decide +kernel
theorem dL_density_0 : decode cL_density 0 = .ok (.aload_n 0, 1) := by decide +kernel
theorem dL_density_1 : decode cL_density 1 = .ok (.iload_n 1, 1) := by decide +kernel
theorem dL_density_2 : decode cL_density 2 = .ok (.iload_n 2, 1) := by decide +kernel
theorem dL_density_3 : decode cL_density 3 = .ok (.invokevirtual 64, 3) := by decide +kernel
theorem dL_density_6 : decode cL_density 6 = .ok (.ireturn, 1) := by decide +kernel
theorem dL_density_7 : decode cL_density 7 = .ok (.astore_n 3, 1) := by decide +kernel
theorem dL_density_8 : decode cL_density 8 = .ok (.ldc 16, 2) := by decide +kernel
theorem dL_density_10 : decode cL_density 10 = .ok (.ireturn, 1) := by decide +kernel
theorem dL_density_11 : decode cL_density 11 = .ok (.astore_n 3, 1) := by decide +kernel
theorem dL_density_12 : decode cL_density 12 = .ok (.ldc 16, 2) := by decide +kernel
theorem dL_density_14 : decode cL_density 14 = .ok (.ireturn, 1) := by decide +kernel
theorem dL_landing_0 : decode cL_landing 0 = .ok (.aload_n 0, 1) := by decide +kernel
theorem dL_landing_1 : decode cL_landing 1 = .ok (.iload_n 1, 1) := by decide +kernel
theorem dL_landing_2 : decode cL_landing 2 = .ok (.iload_n 2, 1) := by decide +kernel
theorem dL_landing_3 : decode cL_landing 3 = .ok (.iload_n 3, 1) := by decide +kernel
theorem dL_landing_4 : decode cL_landing 4 = .ok (.iload 4, 2) := by decide +kernel
theorem dL_landing_6 : decode cL_landing 6 = .ok (.iload 5, 2) := by decide +kernel
theorem dL_landing_8 : decode cL_landing 8 = .ok (.invokevirtual 67, 3) := by decide +kernel
theorem dL_landing_11 : decode cL_landing 11 = .ok (.ireturn, 1) := by decide +kernel
theorem dL_landing_12 : decode cL_landing 12 = .ok (.astore 6, 2) := by decide +kernel
theorem dL_landing_14 : decode cL_landing 14 = .ok (.ldc 16, 2) := by decide +kernel
theorem dL_landing_16 : decode cL_landing 16 = .ok (.ireturn, 1) := by decide +kernel
theorem dL_landing_17 : decode cL_landing 17 = .ok (.astore 6, 2) := by decide +kernel
theorem dL_landing_19 : decode cL_landing 19 = .ok (.ldc 16, 2) := by decide +kernel
theorem dL_landing_21 : decode cL_landing 21 = .ok (.ireturn, 1) := by decide +kernel
theorem dL_paths_0 : decode cL_paths 0 = .ok (.aload_n 0, 1) := by decide +kernel
theorem dL_paths_1 : decode cL_paths 1 = .ok (.iload_n 1, 1) := by decide +kernel
theorem dL_paths_2 : decode cL_paths 2 = .ok (.iload_n 2, 1) := by decide +kernel
theorem dL_paths_3 : decode cL_paths 3 = .ok (.iload_n 3, 1) := by decide +kernel
theorem dL_paths_4 : decode cL_paths 4 = .ok (.iload 4, 2) := by decide +kernel
theorem dL_paths_6 : decode cL_paths 6 = .ok (.invokevirtual 71, 3) := by decide +kernel
theorem dL_paths_9 : decode cL_paths 9 = .ok (.ireturn, 1) := by decide +kernel
theorem dL_paths_10 : decode cL_paths 10 = .ok (.astore 5, 2) := by decide +kernel
theorem dL_paths_12 : decode cL_paths 12 = .ok (.ldc 16, 2) := by decide +kernel
theorem dL_paths_14 : decode cL_paths 14 = .ok (.ireturn, 1) := by decide +kernel
theorem dL_paths_15 : decode cL_paths 15 = .ok (.astore 5, 2) := by decide +kernel
theorem dL_paths_17 : decode cL_paths 17 = .ok (.ldc 16, 2) := by decide +kernel
theorem dL_paths_19 : decode cL_paths 19 = .ok (.ireturn, 1) := by decide +kernel
theorem dL_path_0 : decode cL_path 0 = .ok (.aload_n 0, 1) := by decide +kernel
theorem dL_path_1 : decode cL_path 1 = .ok (.iload_n 1, 1) := by decide +kernel
theorem dL_path_2 : decode cL_path 2 = .ok (.iload_n 2, 1) := by decide +kernel
theorem dL_path_3 : decode cL_path 3 = .ok (.iload_n 3, 1) := by decide +kernel
theorem dL_path_4 : decode cL_path 4 = .ok (.iload 4, 2) := by decide +kernel
theorem dL_path_6 : decode cL_path 6 = .ok (.iload 5, 2) := by decide +kernel
theorem dL_path_8 : decode cL_path 8 = .ok (.iload 6, 2) := by decide +kernel
theorem dL_path_10 : decode cL_path 10 = .ok (.invokevirtual 74, 3) := by decide +kernel
theorem dL_path_13 : decode cL_path 13 = .ok (.ireturn, 1) := by decide +kernel
theorem dL_path_14 : decode cL_path 14 = .ok (.astore 7, 2) := by decide +kernel
theorem dL_path_16 : decode cL_path 16 = .ok (.ldc 16, 2) := by decide +kernel
theorem dL_path_18 : decode cL_path 18 = .ok (.ireturn, 1) := by decide +kernel
theorem dL_path_19 : decode cL_path 19 = .ok (.astore 7, 2) := by decide +kernel
theorem dL_path_21 : decode cL_path 21 = .ok (.ldc 16, 2) := by decide +kernel
theorem dL_path_23 : decode cL_path 23 = .ok (.ireturn, 1) := by decide +kernel
theorem dL_explain_0 : decode cL_explain 0 = .ok (.aload_n 0, 1) := by decide +kernel
theorem dL_explain_1 : decode cL_explain 1 = .ok (.iload_n 1, 1) := by decide +kernel
theorem dL_explain_2 : decode cL_explain 2 = .ok (.iload_n 2, 1) := by decide +kernel
theorem dL_explain_3 : decode cL_explain 3 = .ok (.iload_n 3, 1) := by decide +kernel
theorem dL_explain_4 : decode cL_explain 4 = .ok (.iload 4, 2) := by decide +kernel
theorem dL_explain_6 : decode cL_explain 6 = .ok (.iload 5, 2) := by decide +kernel
theorem dL_explain_8 : decode cL_explain 8 = .ok (.invokevirtual 78, 3) := by decide +kernel
theorem dL_explain_11 : decode cL_explain 11 = .ok (.ireturn, 1) := by decide +kernel
theorem dL_explain_12 : decode cL_explain 12 = .ok (.astore 6, 2) := by decide +kernel
theorem dL_explain_14 : decode cL_explain 14 = .ok (.ldc 16, 2) := by decide +kernel
theorem dL_explain_16 : decode cL_explain 16 = .ok (.ireturn, 1) := by decide +kernel
theorem dL_explain_17 : decode cL_explain 17 = .ok (.astore 6, 2) := by decide +kernel
theorem dL_explain_19 : decode cL_explain 19 = .ok (.ldc 16, 2) := by decide +kernel
theorem dL_explain_21 : decode cL_explain 21 = .ok (.ireturn, 1) := by decide +kernel
theorem dL_usable_0 : decode cL_usable 0 = .ok (.aload_n 0, 1) := by decide +kernel
theorem dL_usable_1 : decode cL_usable 1 = .ok (.iload_n 1, 1) := by decide +kernel
theorem dL_usable_2 : decode cL_usable 2 = .ok (.iload_n 2, 1) := by decide +kernel
theorem dL_usable_3 : decode cL_usable 3 = .ok (.iload_n 3, 1) := by decide +kernel
theorem dL_usable_4 : decode cL_usable 4 = .ok (.iload 4, 2) := by decide +kernel
theorem dL_usable_6 : decode cL_usable 6 = .ok (.invokevirtual 82, 3) := by decide +kernel
theorem dL_usable_9 : decode cL_usable 9 = .ok (.ireturn, 1) := by decide +kernel
theorem dL_usable_10 : decode cL_usable 10 = .ok (.astore 5, 2) := by decide +kernel
theorem dL_usable_12 : decode cL_usable 12 = .ok (.ldc 16, 2) := by decide +kernel
theorem dL_usable_14 : decode cL_usable 14 = .ok (.ireturn, 1) := by decide +kernel
theorem dL_usable_15 : decode cL_usable 15 = .ok (.astore 5, 2) := by decide +kernel
theorem dL_usable_17 : decode cL_usable 17 = .ok (.ldc 16, 2) := by decide +kernel
theorem dL_usable_19 : decode cL_usable 19 = .ok (.ireturn, 1) := by decide +kernel
theorem dL_skipped_0 : decode cL_skipped 0 = .ok (.aload_n 0, 1) := by decide +kernel
theorem dL_skipped_1 : decode cL_skipped 1 = .ok (.iload_n 1, 1) := by decide +kernel
theorem dL_skipped_2 : decode cL_skipped 2 = .ok (.iload_n 2, 1) := by decide +kernel
theorem dL_skipped_3 : decode cL_skipped 3 = .ok (.iload_n 3, 1) := by decide +kernel
theorem dL_skipped_4 : decode cL_skipped 4 = .ok (.invokevirtual 86, 3) := by decide +kernel
theorem dL_skipped_7 : decode cL_skipped 7 = .ok (.ireturn, 1) := by decide +kernel
theorem dL_skipped_8 : decode cL_skipped 8 = .ok (.astore 4, 2) := by decide +kernel
theorem dL_skipped_10 : decode cL_skipped 10 = .ok (.ldc 16, 2) := by decide +kernel
theorem dL_skipped_12 : decode cL_skipped 12 = .ok (.ireturn, 1) := by decide +kernel
theorem dL_skipped_13 : decode cL_skipped 13 = .ok (.astore 4, 2) := by decide +kernel
theorem dL_skipped_15 : decode cL_skipped 15 = .ok (.ldc 16, 2) := by decide +kernel
theorem dL_skipped_17 : decode cL_skipped 17 = .ok (.ireturn, 1) := by decide +kernel
theorem dL_signal_0 : decode cL_signal 0 = .ok (.aload_n 0, 1) := by decide +kernel
theorem dL_signal_1 : decode cL_signal 1 = .ok (.iload_n 1, 1) := by decide +kernel
theorem dL_signal_2 : decode cL_signal 2 = .ok (.iload_n 2, 1) := by decide +kernel
theorem dL_signal_3 : decode cL_signal 3 = .ok (.iload_n 3, 1) := by decide +kernel
theorem dL_signal_4 : decode cL_signal 4 = .ok (.invokevirtual 90, 3) := by decide +kernel
theorem dL_signal_7 : decode cL_signal 7 = .ok (.ireturn, 1) := by decide +kernel
theorem dL_signal_8 : decode cL_signal 8 = .ok (.astore 4, 2) := by decide +kernel
theorem dL_signal_10 : decode cL_signal 10 = .ok (.ldc 16, 2) := by decide +kernel
theorem dL_signal_12 : decode cL_signal 12 = .ok (.ireturn, 1) := by decide +kernel
theorem dL_signal_13 : decode cL_signal 13 = .ok (.astore 4, 2) := by decide +kernel
theorem dL_signal_15 : decode cL_signal 15 = .ok (.ldc 16, 2) := by decide +kernel
theorem dL_signal_17 : decode cL_signal 17 = .ok (.ireturn, 1) := by decide +kernel
theorem dL_contactOf_0 : decode cL_contactOf 0 = .ok (.aload_n 0, 1) := by decide +kernel
theorem dL_contactOf_1 : decode cL_contactOf 1 = .ok (.iload_n 1, 1) := by decide +kernel
theorem dL_contactOf_2 : decode cL_contactOf 2 = .ok (.iload_n 2, 1) := by decide +kernel
theorem dL_contactOf_3 : decode cL_contactOf 3 = .ok (.invokevirtual 93, 3) := by decide +kernel
theorem dL_contactOf_6 : decode cL_contactOf 6 = .ok (.ireturn, 1) := by decide +kernel
theorem dL_contactOf_7 : decode cL_contactOf 7 = .ok (.astore_n 3, 1) := by decide +kernel
theorem dL_contactOf_8 : decode cL_contactOf 8 = .ok (.ldc 16, 2) := by decide +kernel
theorem dL_contactOf_10 : decode cL_contactOf 10 = .ok (.ireturn, 1) := by decide +kernel
theorem dL_contactOf_11 : decode cL_contactOf 11 = .ok (.astore_n 3, 1) := by decide +kernel
theorem dL_contactOf_12 : decode cL_contactOf 12 = .ok (.ldc 16, 2) := by decide +kernel
theorem dL_contactOf_14 : decode cL_contactOf 14 = .ok (.ireturn, 1) := by decide +kernel
theorem dL_entryOf_0 : decode cL_entryOf 0 = .ok (.aload_n 0, 1) := by decide +kernel
theorem dL_entryOf_1 : decode cL_entryOf 1 = .ok (.iload_n 1, 1) := by decide +kernel
theorem dL_entryOf_2 : decode cL_entryOf 2 = .ok (.iload_n 2, 1) := by decide +kernel
theorem dL_entryOf_3 : decode cL_entryOf 3 = .ok (.invokevirtual 96, 3) := by decide +kernel
theorem dL_entryOf_6 : decode cL_entryOf 6 = .ok (.ireturn, 1) := by decide +kernel
theorem dL_entryOf_7 : decode cL_entryOf 7 = .ok (.astore_n 3, 1) := by decide +kernel
theorem dL_entryOf_8 : decode cL_entryOf 8 = .ok (.ldc 16, 2) := by decide +kernel
theorem dL_entryOf_10 : decode cL_entryOf 10 = .ok (.ireturn, 1) := by decide +kernel
theorem dL_entryOf_11 : decode cL_entryOf 11 = .ok (.astore_n 3, 1) := by decide +kernel
theorem dL_entryOf_12 : decode cL_entryOf 12 = .ok (.ldc 16, 2) := by decide +kernel
theorem dL_entryOf_14 : decode cL_entryOf 14 = .ok (.ireturn, 1) := by decide +kernel
theorem dL_score_0 : decode cL_score 0 = .ok (.aload_n 0, 1) := by decide +kernel
theorem dL_score_1 : decode cL_score 1 = .ok (.iload_n 1, 1) := by decide +kernel
theorem dL_score_2 : decode cL_score 2 = .ok (.invokevirtual 99, 3) := by decide +kernel
theorem dL_score_5 : decode cL_score 5 = .ok (.ireturn, 1) := by decide +kernel
theorem dL_score_6 : decode cL_score 6 = .ok (.astore_n 2, 1) := by decide +kernel
theorem dL_score_7 : decode cL_score 7 = .ok (.ldc 16, 2) := by decide +kernel
theorem dL_score_9 : decode cL_score 9 = .ok (.ireturn, 1) := by decide +kernel
theorem dL_count_0 : decode cL_count 0 = .ok (.aload_n 0, 1) := by decide +kernel
theorem dL_count_1 : decode cL_count 1 = .ok (.iload_n 1, 1) := by decide +kernel
theorem dL_count_2 : decode cL_count 2 = .ok (.invokevirtual 102, 3) := by decide +kernel
theorem dL_count_5 : decode cL_count 5 = .ok (.ireturn, 1) := by decide +kernel
theorem dL_count_6 : decode cL_count 6 = .ok (.astore_n 2, 1) := by decide +kernel
theorem dL_count_7 : decode cL_count 7 = .ok (.ldc 16, 2) := by decide +kernel
theorem dL_count_9 : decode cL_count 9 = .ok (.ireturn, 1) := by decide +kernel
theorem dL_act_0 : decode cL_act 0 = .ok (.iload_n 1, 1) := by decide +kernel
theorem dL_act_1 : decode cL_act 1 = .ok (.bipush 26, 2) := by decide +kernel
theorem dL_act_3 : decode cL_act 3 = .ok (.ishr, 1) := by decide +kernel
theorem dL_act_4 : decode cL_act 4 = .ok (.bipush 14, 2) := by decide +kernel
theorem dL_act_6 : decode cL_act 6 = .ok (.invokestatic 105, 3) := by decide +kernel
theorem dL_act_9 : decode cL_act 9 = .ok (.ifCond .ne 7, 3) := by decide +kernel
theorem dL_act_12 : decode cL_act 12 = .ok (.iconst 1, 1) := by decide +kernel
theorem dL_act_13 : decode cL_act 13 = .ok (.goto 4, 3) := by decide +kernel
theorem dL_act_16 : decode cL_act 16 = .ok (.iconst 0, 1) := by decide +kernel
theorem dL_act_17 : decode cL_act 17 = .ok (.istore_n 2, 1) := by decide +kernel
theorem dL_act_18 : decode cL_act 18 = .ok (.iload_n 2, 1) := by decide +kernel
theorem dL_act_19 : decode cL_act 19 = .ok (.ifCond .eq 16, 3) := by decide +kernel
theorem dL_act_22 : decode cL_act 22 = .ok (.iload_n 1, 1) := by decide +kernel
theorem dL_act_23 : decode cL_act 23 = .ok (.iconst 4, 1) := by decide +kernel
theorem dL_act_24 : decode cL_act 24 = .ok (.ishr, 1) := by decide +kernel
theorem dL_act_25 : decode cL_act 25 = .ok (.bipush 52, 2) := by decide +kernel
theorem dL_act_27 : decode cL_act 27 = .ok (.invokestatic 105, 3) := by decide +kernel
theorem dL_act_30 : decode cL_act 30 = .ok (.iconst 2, 1) := by decide +kernel
theorem dL_act_31 : decode cL_act 31 = .ok (.isub, 1) := by decide +kernel
theorem dL_act_32 : decode cL_act 32 = .ok (.goto 11, 3) := by decide +kernel
theorem dL_act_35 : decode cL_act 35 = .ok (.iload_n 1, 1) := by decide +kernel
theorem dL_act_36 : decode cL_act 36 = .ok (.iconst 4, 1) := by decide +kernel
theorem dL_act_37 : decode cL_act 37 = .ok (.ishr, 1) := by decide +kernel
theorem dL_act_38 : decode cL_act 38 = .ok (.bipush 48, 2) := by decide +kernel
theorem dL_act_40 : decode cL_act 40 = .ok (.invokestatic 105, 3) := by decide +kernel
theorem dL_act_43 : decode cL_act 43 = .ok (.istore_n 3, 1) := by decide +kernel
theorem dL_act_44 : decode cL_act 44 = .ok (.iload_n 2, 1) := by decide +kernel
theorem dL_act_45 : decode cL_act 45 = .ok (.ifCond .eq 17, 3) := by decide +kernel
theorem dL_act_48 : decode cL_act 48 = .ok (.iload_n 1, 1) := by decide +kernel
theorem dL_act_49 : decode cL_act 49 = .ok (.bipush 7, 2) := by decide +kernel
theorem dL_act_51 : decode cL_act 51 = .ok (.ishr, 1) := by decide +kernel
theorem dL_act_52 : decode cL_act 52 = .ok (.bipush 52, 2) := by decide +kernel
theorem dL_act_54 : decode cL_act 54 = .ok (.invokestatic 105, 3) := by decide +kernel
theorem dL_act_57 : decode cL_act 57 = .ok (.iconst 2, 1) := by decide +kernel
theorem dL_act_58 : decode cL_act 58 = .ok (.isub, 1) := by decide +kernel
theorem dL_act_59 : decode cL_act 59 = .ok (.goto 20, 3) := by decide +kernel
theorem dL_act_62 : decode cL_act 62 = .ok (.iload_n 3, 1) := by decide +kernel
theorem dL_act_63 : decode cL_act 63 = .ok (.bipush 40, 2) := by decide +kernel
theorem dL_act_65 : decode cL_act 65 = .ok (.iadd, 1) := by decide +kernel
theorem dL_act_66 : decode cL_act 66 = .ok (.iload_n 1, 1) := by decide +kernel
theorem dL_act_67 : decode cL_act 67 = .ok (.bipush 7, 2) := by decide +kernel
theorem dL_act_69 : decode cL_act 69 = .ok (.ishr, 1) := by decide +kernel
theorem dL_act_70 : decode cL_act 70 = .ok (.bipush 17, 2) := by decide +kernel
theorem dL_act_72 : decode cL_act 72 = .ok (.invokestatic 105, 3) := by decide +kernel
theorem dL_act_75 : decode cL_act 75 = .ok (.iadd, 1) := by decide +kernel
theorem dL_act_76 : decode cL_act 76 = .ok (.bipush 48, 2) := by decide +kernel
theorem dL_act_78 : decode cL_act 78 = .ok (.irem, 1) := by decide +kernel
theorem dL_act_79 : decode cL_act 79 = .ok (.istore 4, 2) := by decide +kernel
theorem dL_act_81 : decode cL_act 81 = .ok (.iload_n 2, 1) := by decide +kernel
theorem dL_act_82 : decode cL_act 82 = .ok (.ifCond .eq 16, 3) := by decide +kernel
theorem dL_act_85 : decode cL_act 85 = .ok (.iload_n 1, 1) := by decide +kernel
theorem dL_act_86 : decode cL_act 86 = .ok (.iconst 5, 1) := by decide +kernel
theorem dL_act_87 : decode cL_act 87 = .ok (.ishr, 1) := by decide +kernel
theorem dL_act_88 : decode cL_act 88 = .ok (.bipush 15, 2) := by decide +kernel
theorem dL_act_90 : decode cL_act 90 = .ok (.invokestatic 105, 3) := by decide +kernel
theorem dL_act_93 : decode cL_act 93 = .ok (.iconst 2, 1) := by decide +kernel
theorem dL_act_94 : decode cL_act 94 = .ok (.isub, 1) := by decide +kernel
theorem dL_act_95 : decode cL_act 95 = .ok (.goto 10, 3) := by decide +kernel
theorem dL_act_98 : decode cL_act 98 = .ok (.iload_n 1, 1) := by decide +kernel
theorem dL_act_99 : decode cL_act 99 = .ok (.iconst 5, 1) := by decide +kernel
theorem dL_act_100 : decode cL_act 100 = .ok (.ishr, 1) := by decide +kernel
theorem dL_act_101 : decode cL_act 101 = .ok (.iconst 4, 1) := by decide +kernel
theorem dL_act_102 : decode cL_act 102 = .ok (.invokestatic 105, 3) := by decide +kernel
theorem dL_act_105 : decode cL_act 105 = .ok (.istore 5, 2) := by decide +kernel
theorem dL_act_107 : decode cL_act 107 = .ok (.iload_n 2, 1) := by decide +kernel
theorem dL_act_108 : decode cL_act 108 = .ok (.ifCond .eq 17, 3) := by decide +kernel
theorem dL_act_111 : decode cL_act 111 = .ok (.iload_n 1, 1) := by decide +kernel
theorem dL_act_112 : decode cL_act 112 = .ok (.bipush 8, 2) := by decide +kernel
theorem dL_act_114 : decode cL_act 114 = .ok (.ishr, 1) := by decide +kernel
theorem dL_act_115 : decode cL_act 115 = .ok (.bipush 15, 2) := by decide +kernel
theorem dL_act_117 : decode cL_act 117 = .ok (.invokestatic 105, 3) := by decide +kernel
theorem dL_act_120 : decode cL_act 120 = .ok (.iconst 2, 1) := by decide +kernel
theorem dL_act_121 : decode cL_act 121 = .ok (.isub, 1) := by decide +kernel
