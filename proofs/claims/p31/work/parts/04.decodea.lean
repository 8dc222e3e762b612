theorem dX0_init_0 : decode cX0_init 0 = .ok (.aload_n 0, 1) := by decide +kernel
theorem dX0_init_1 : decode cX0_init 1 = .ok (.invokespecial 3, 3) := by decide +kernel
theorem dX0_init_4 : decode cX0_init 4 = .ok (.aload_n 0, 1) := by decide +kernel
theorem dX0_init_5 : decode cX0_init 5 = .ok (.bipush 50, 2) := by decide +kernel
theorem dX0_init_7 : decode cX0_init 7 = .ok (.putfield 9, 3) := by decide +kernel
theorem dX0_init_10 : decode cX0_init 10 = .ok (.aload_n 0, 1) := by decide +kernel
theorem dX0_init_11 : decode cX0_init 11 = .ok (.bipush 48, 2) := by decide +kernel
theorem dX0_init_13 : decode cX0_init 13 = .ok (.newarray .int, 2) := by decide +kernel
theorem dX0_init_15 : decode cX0_init 15 = .ok (.putfield 15, 3) := by decide +kernel
theorem dX0_init_18 : decode cX0_init 18 = .ok (.aload_n 0, 1) := by decide +kernel
theorem dX0_init_19 : decode cX0_init 19 = .ok (.bipush 48, 2) := by decide +kernel
theorem dX0_init_21 : decode cX0_init 21 = .ok (.newarray .int, 2) := by decide +kernel
theorem dX0_init_23 : decode cX0_init 23 = .ok (.putfield 19, 3) := by decide +kernel
theorem dX0_init_26 : decode cX0_init 26 = .ok (.aload_n 0, 1) := by decide +kernel
theorem dX0_init_27 : decode cX0_init 27 = .ok (.iconst 3, 1) := by decide +kernel
theorem dX0_init_28 : decode cX0_init 28 = .ok (.bipush 48, 2) := by decide +kernel
theorem dX0_init_30 : decode cX0_init 30 = .ok (.multianewarray 22 2, 4) := by decide +kernel
theorem dX0_init_34 : decode cX0_init 34 = .ok (.putfield 24, 3) := by decide +kernel
theorem dX0_init_37 : decode cX0_init 37 = .ok (.aload_n 0, 1) := by decide +kernel
theorem dX0_init_38 : decode cX0_init 38 = .ok (.invokevirtual 27, 3) := by decide +kernel
theorem dX0_init_41 : decode cX0_init 41 = .ok (.return_, 1) := by decide +kernel
theorem dX0_shineFrom_0 : decode cX0_shineFrom 0 = .ok (.aload_n 0, 1) := by decide +kernel
theorem dX0_shineFrom_1 : decode cX0_shineFrom 1 = .ok (.iload_n 1, 1) := by decide +kernel
theorem dX0_shineFrom_2 : decode cX0_shineFrom 2 = .ok (.putfield 9, 3) := by decide +kernel
theorem dX0_shineFrom_5 : decode cX0_shineFrom 5 = .ok (.aload_n 0, 1) := by decide +kernel
theorem dX0_shineFrom_6 : decode cX0_shineFrom 6 = .ok (.invokevirtual 27, 3) := by decide +kernel
theorem dX0_shineFrom_9 : decode cX0_shineFrom 9 = .ok (.return_, 1) := by decide +kernel
theorem dX0_beginStorm_0 : decode cX0_beginStorm 0 = .ok (.aload_n 0, 1) := by decide +kernel
theorem dX0_beginStorm_1 : decode cX0_beginStorm 1 = .ok (.iload_n 1, 1) := by decide +kernel
theorem dX0_beginStorm_2 : decode cX0_beginStorm 2 = .ok (.putfield 30, 3) := by decide +kernel
theorem dX0_beginStorm_5 : decode cX0_beginStorm 5 = .ok (.aload_n 0, 1) := by decide +kernel
theorem dX0_beginStorm_6 : decode cX0_beginStorm 6 = .ok (.iload_n 2, 1) := by decide +kernel
theorem dX0_beginStorm_7 : decode cX0_beginStorm 7 = .ok (.putfield 33, 3) := by decide +kernel
theorem dX0_beginStorm_10 : decode cX0_beginStorm 10 = .ok (.aload_n 0, 1) := by decide +kernel
theorem dX0_beginStorm_11 : decode cX0_beginStorm 11 = .ok (.invokevirtual 27, 3) := by decide +kernel
theorem dX0_beginStorm_14 : decode cX0_beginStorm 14 = .ok (.return_, 1) := by decide +kernel
theorem dX0_burst_0 : decode cX0_burst 0 = .ok (.aload_n 0, 1) := by decide +kernel
theorem dX0_burst_1 : decode cX0_burst 1 = .ok (.iload_n 1, 1) := by decide +kernel
theorem dX0_burst_2 : decode cX0_burst 2 = .ok (.putfield 36, 3) := by decide +kernel
theorem dX0_burst_5 : decode cX0_burst 5 = .ok (.aload_n 0, 1) := by decide +kernel
theorem dX0_burst_6 : decode cX0_burst 6 = .ok (.invokevirtual 27, 3) := by decide +kernel
theorem dX0_burst_9 : decode cX0_burst 9 = .ok (.return_, 1) := by decide +kernel
theorem dX0_coverPlace_0 : decode cX0_coverPlace 0 = .ok (.aload_n 0, 1) := by decide +kernel
theorem dX0_coverPlace_1 : decode cX0_coverPlace 1 = .ok (.getfield 15, 3) := by decide +kernel
theorem dX0_coverPlace_4 : decode cX0_coverPlace 4 = .ok (.iload_n 1, 1) := by decide +kernel
theorem dX0_coverPlace_5 : decode cX0_coverPlace 5 = .ok (.iload_n 2, 1) := by decide +kernel
theorem dX0_coverPlace_6 : decode cX0_coverPlace 6 = .ok (.iastore, 1) := by decide +kernel
theorem dX0_coverPlace_7 : decode cX0_coverPlace 7 = .ok (.aload_n 0, 1) := by decide +kernel
theorem dX0_coverPlace_8 : decode cX0_coverPlace 8 = .ok (.getfield 19, 3) := by decide +kernel
theorem dX0_coverPlace_11 : decode cX0_coverPlace 11 = .ok (.iload_n 1, 1) := by decide +kernel
theorem dX0_coverPlace_12 : decode cX0_coverPlace 12 = .ok (.iload_n 3, 1) := by decide +kernel
theorem dX0_coverPlace_13 : decode cX0_coverPlace 13 = .ok (.iastore, 1) := by decide +kernel
theorem dX0_coverPlace_14 : decode cX0_coverPlace 14 = .ok (.aload_n 0, 1) := by decide +kernel
theorem dX0_coverPlace_15 : decode cX0_coverPlace 15 = .ok (.invokevirtual 27, 3) := by decide +kernel
theorem dX0_coverPlace_18 : decode cX0_coverPlace 18 = .ok (.return_, 1) := by decide +kernel
theorem dX0_letGoBy_0 : decode cX0_letGoBy 0 = .ok (.iconst 0, 1) := by decide +kernel
theorem dX0_letGoBy_1 : decode cX0_letGoBy 1 = .ok (.istore_n 2, 1) := by decide +kernel
theorem dX0_letGoBy_2 : decode cX0_letGoBy 2 = .ok (.iload_n 2, 1) := by decide +kernel
theorem dX0_letGoBy_3 : decode cX0_letGoBy 3 = .ok (.iload_n 1, 1) := by decide +kernel
theorem dX0_letGoBy_4 : decode cX0_letGoBy 4 = .ok (.if_icmp .ge 13, 3) := by decide +kernel
theorem dX0_letGoBy_7 : decode cX0_letGoBy 7 = .ok (.aload_n 0, 1) := by decide +kernel
theorem dX0_letGoBy_8 : decode cX0_letGoBy 8 = .ok (.invokevirtual 39, 3) := by decide +kernel
theorem dX0_letGoBy_11 : decode cX0_letGoBy 11 = .ok (.iinc 2 1, 3) := by decide +kernel
theorem dX0_letGoBy_14 : decode cX0_letGoBy 14 = .ok (.goto (-12), 3) := by decide +kernel
theorem dX0_letGoBy_17 : decode cX0_letGoBy 17 = .ok (.aload_n 0, 1) := by decide +kernel
theorem dX0_letGoBy_18 : decode cX0_letGoBy 18 = .ok (.invokevirtual 27, 3) := by decide +kernel
theorem dX0_letGoBy_21 : decode cX0_letGoBy 21 = .ok (.return_, 1) := by decide +kernel
theorem dX0_letOneGoBy_0 : decode cX0_letOneGoBy 0 = .ok (.aload_n 0, 1) := by decide +kernel
theorem dX0_letOneGoBy_1 : decode cX0_letOneGoBy 1 = .ok (.dup, 1) := by decide +kernel
theorem dX0_letOneGoBy_2 : decode cX0_letOneGoBy 2 = .ok (.getfield 42, 3) := by decide +kernel
theorem dX0_letOneGoBy_5 : decode cX0_letOneGoBy 5 = .ok (.iconst 1, 1) := by decide +kernel
theorem dX0_letOneGoBy_6 : decode cX0_letOneGoBy 6 = .ok (.iadd, 1) := by decide +kernel
theorem dX0_letOneGoBy_7 : decode cX0_letOneGoBy 7 = .ok (.putfield 42, 3) := by decide +kernel
theorem dX0_letOneGoBy_10 : decode cX0_letOneGoBy 10 = .ok (.aload_n 0, 1) := by decide +kernel
theorem dX0_letOneGoBy_11 : decode cX0_letOneGoBy 11 = .ok (.dup, 1) := by decide +kernel
theorem dX0_letOneGoBy_12 : decode cX0_letOneGoBy 12 = .ok (.getfield 36, 3) := by decide +kernel
theorem dX0_letOneGoBy_15 : decode cX0_letOneGoBy 15 = .ok (.iconst 2, 1) := by decide +kernel
theorem dX0_letOneGoBy_16 : decode cX0_letOneGoBy 16 = .ok (.idiv, 1) := by decide +kernel
theorem dX0_letOneGoBy_17 : decode cX0_letOneGoBy 17 = .ok (.putfield 36, 3) := by decide +kernel
theorem dX0_letOneGoBy_20 : decode cX0_letOneGoBy 20 = .ok (.aload_n 0, 1) := by decide +kernel
theorem dX0_letOneGoBy_21 : decode cX0_letOneGoBy 21 = .ok (.iconst 0, 1) := by decide +kernel
theorem dX0_letOneGoBy_22 : decode cX0_letOneGoBy 22 = .ok (.aload_n 0, 1) := by decide +kernel
theorem dX0_letOneGoBy_23 : decode cX0_letOneGoBy 23 = .ok (.getfield 33, 3) := by decide +kernel
theorem dX0_letOneGoBy_26 : decode cX0_letOneGoBy 26 = .ok (.iconst 1, 1) := by decide +kernel
theorem dX0_letOneGoBy_27 : decode cX0_letOneGoBy 27 = .ok (.isub, 1) := by decide +kernel
theorem dX0_letOneGoBy_28 : decode cX0_letOneGoBy 28 = .ok (.invokestatic 45, 3) := by decide +kernel
theorem dX0_letOneGoBy_31 : decode cX0_letOneGoBy 31 = .ok (.putfield 33, 3) := by decide +kernel
theorem dX0_letOneGoBy_34 : decode cX0_letOneGoBy 34 = .ok (.aload_n 0, 1) := by decide +kernel
theorem dX0_letOneGoBy_35 : decode cX0_letOneGoBy 35 = .ok (.getfield 33, 3) := by decide +kernel
theorem dX0_letOneGoBy_38 : decode cX0_letOneGoBy 38 = .ok (.ifCond .ne 8, 3) := by decide +kernel
theorem dX0_letOneGoBy_41 : decode cX0_letOneGoBy 41 = .ok (.aload_n 0, 1) := by decide +kernel
theorem dX0_letOneGoBy_42 : decode cX0_letOneGoBy 42 = .ok (.iconst 0, 1) := by decide +kernel
theorem dX0_letOneGoBy_43 : decode cX0_letOneGoBy 43 = .ok (.putfield 30, 3) := by decide +kernel
theorem dX0_letOneGoBy_46 : decode cX0_letOneGoBy 46 = .ok (.iconst 0, 1) := by decide +kernel
theorem dX0_letOneGoBy_47 : decode cX0_letOneGoBy 47 = .ok (.istore_n 1, 1) := by decide +kernel
theorem dX0_letOneGoBy_48 : decode cX0_letOneGoBy 48 = .ok (.iload_n 1, 1) := by decide +kernel
theorem dX0_letOneGoBy_49 : decode cX0_letOneGoBy 49 = .ok (.bipush 48, 2) := by decide +kernel
theorem dX0_letOneGoBy_51 : decode cX0_letOneGoBy 51 = .ok (.if_icmp .ge 43, 3) := by decide +kernel
theorem dX0_letOneGoBy_54 : decode cX0_letOneGoBy 54 = .ok (.aload_n 0, 1) := by decide +kernel
theorem dX0_letOneGoBy_55 : decode cX0_letOneGoBy 55 = .ok (.getfield 19, 3) := by decide +kernel
theorem dX0_letOneGoBy_58 : decode cX0_letOneGoBy 58 = .ok (.iload_n 1, 1) := by decide +kernel
theorem dX0_letOneGoBy_59 : decode cX0_letOneGoBy 59 = .ok (.iconst 0, 1) := by decide +kernel
theorem dX0_letOneGoBy_60 : decode cX0_letOneGoBy 60 = .ok (.aload_n 0, 1) := by decide +kernel
theorem dX0_letOneGoBy_61 : decode cX0_letOneGoBy 61 = .ok (.getfield 19, 3) := by decide +kernel
theorem dX0_letOneGoBy_64 : decode cX0_letOneGoBy 64 = .ok (.iload_n 1, 1) := by decide +kernel
theorem dX0_letOneGoBy_65 : decode cX0_letOneGoBy 65 = .ok (.iaload, 1) := by decide +kernel
theorem dX0_letOneGoBy_66 : decode cX0_letOneGoBy 66 = .ok (.iconst 1, 1) := by decide +kernel
theorem dX0_letOneGoBy_67 : decode cX0_letOneGoBy 67 = .ok (.isub, 1) := by decide +kernel
theorem dX0_letOneGoBy_68 : decode cX0_letOneGoBy 68 = .ok (.invokestatic 45, 3) := by decide +kernel
theorem dX0_letOneGoBy_71 : decode cX0_letOneGoBy 71 = .ok (.iastore, 1) := by decide +kernel
theorem dX0_letOneGoBy_72 : decode cX0_letOneGoBy 72 = .ok (.aload_n 0, 1) := by decide +kernel
theorem dX0_letOneGoBy_73 : decode cX0_letOneGoBy 73 = .ok (.getfield 19, 3) := by decide +kernel
theorem dX0_letOneGoBy_76 : decode cX0_letOneGoBy 76 = .ok (.iload_n 1, 1) := by decide +kernel
theorem dX0_letOneGoBy_77 : decode cX0_letOneGoBy 77 = .ok (.iaload, 1) := by decide +kernel
theorem dX0_letOneGoBy_78 : decode cX0_letOneGoBy 78 = .ok (.ifCond .ne 10, 3) := by decide +kernel
theorem dX0_letOneGoBy_81 : decode cX0_letOneGoBy 81 = .ok (.aload_n 0, 1) := by decide +kernel
theorem dX0_letOneGoBy_82 : decode cX0_letOneGoBy 82 = .ok (.getfield 15, 3) := by decide +kernel
theorem dX0_letOneGoBy_85 : decode cX0_letOneGoBy 85 = .ok (.iload_n 1, 1) := by decide +kernel
theorem dX0_letOneGoBy_86 : decode cX0_letOneGoBy 86 = .ok (.iconst 0, 1) := by decide +kernel
theorem dX0_letOneGoBy_87 : decode cX0_letOneGoBy 87 = .ok (.iastore, 1) := by decide +kernel
theorem dX0_letOneGoBy_88 : decode cX0_letOneGoBy 88 = .ok (.iinc 1 1, 3) := by decide +kernel
theorem dX0_letOneGoBy_91 : decode cX0_letOneGoBy 91 = .ok (.goto (-43), 3) := by decide +kernel
theorem dX0_letOneGoBy_94 : decode cX0_letOneGoBy 94 = .ok (.return_, 1) := by decide +kernel
theorem dX0_settle_0 : decode cX0_settle 0 = .ok (.iconst 0, 1) := by decide +kernel
theorem dX0_settle_1 : decode cX0_settle 1 = .ok (.istore_n 1, 1) := by decide +kernel
theorem dX0_settle_2 : decode cX0_settle 2 = .ok (.iload_n 1, 1) := by decide +kernel
theorem dX0_settle_3 : decode cX0_settle 3 = .ok (.bipush 48, 2) := by decide +kernel
theorem dX0_settle_5 : decode cX0_settle 5 = .ok (.if_icmp .ge 113, 3) := by decide +kernel
theorem dX0_settle_8 : decode cX0_settle 8 = .ok (.aload_n 0, 1) := by decide +kernel
theorem dX0_settle_9 : decode cX0_settle 9 = .ok (.getfield 42, 3) := by decide +kernel
theorem dX0_settle_12 : decode cX0_settle 12 = .ok (.iload_n 1, 1) := by decide +kernel
theorem dX0_settle_13 : decode cX0_settle 13 = .ok (.invokestatic 51, 3) := by decide +kernel
theorem dX0_settle_16 : decode cX0_settle 16 = .ok (.istore_n 2, 1) := by decide +kernel
theorem dX0_settle_17 : decode cX0_settle 17 = .ok (.iload_n 2, 1) := by decide +kernel
theorem dX0_settle_18 : decode cX0_settle 18 = .ok (.ifCond .le 10, 3) := by decide +kernel
theorem dX0_settle_21 : decode cX0_settle 21 = .ok (.aload_n 0, 1) := by decide +kernel
theorem dX0_settle_22 : decode cX0_settle 22 = .ok (.getfield 36, 3) := by decide +kernel
theorem dX0_settle_25 : decode cX0_settle 25 = .ok (.goto 4, 3) := by decide +kernel
theorem dX0_settle_28 : decode cX0_settle 28 = .ok (.iconst 0, 1) := by decide +kernel
theorem dX0_settle_29 : decode cX0_settle 29 = .ok (.istore_n 3, 1) := by decide +kernel
theorem dX0_settle_30 : decode cX0_settle 30 = .ok (.iload_n 2, 1) := by decide +kernel
theorem dX0_settle_31 : decode cX0_settle 31 = .ok (.ifCond .le 12, 3) := by decide +kernel
theorem dX0_settle_34 : decode cX0_settle 34 = .ok (.aload_n 0, 1) := by decide +kernel
theorem dX0_settle_35 : decode cX0_settle 35 = .ok (.getfield 9, 3) := by decide +kernel
theorem dX0_settle_38 : decode cX0_settle 38 = .ok (.iconst 2, 1) := by decide +kernel
theorem dX0_settle_39 : decode cX0_settle 39 = .ok (.idiv, 1) := by decide +kernel
theorem dX0_settle_40 : decode cX0_settle 40 = .ok (.goto 9, 3) := by decide +kernel
theorem dX0_settle_43 : decode cX0_settle 43 = .ok (.aload_n 0, 1) := by decide +kernel
theorem dX0_settle_44 : decode cX0_settle 44 = .ok (.getfield 9, 3) := by decide +kernel
theorem dX0_settle_47 : decode cX0_settle 47 = .ok (.iconst 4, 1) := by decide +kernel
theorem dX0_settle_48 : decode cX0_settle 48 = .ok (.idiv, 1) := by decide +kernel
theorem dX0_settle_49 : decode cX0_settle 49 = .ok (.istore 4, 2) := by decide +kernel
theorem dX0_settle_51 : decode cX0_settle 51 = .ok (.aload_n 0, 1) := by decide +kernel
theorem dX0_settle_52 : decode cX0_settle 52 = .ok (.getfield 24, 3) := by decide +kernel
theorem dX0_settle_55 : decode cX0_settle 55 = .ok (.iconst 0, 1) := by decide +kernel
theorem dX0_settle_56 : decode cX0_settle 56 = .ok (.aaload, 1) := by decide +kernel
theorem dX0_settle_57 : decode cX0_settle 57 = .ok (.iload_n 1, 1) := by decide +kernel
theorem dX0_settle_58 : decode cX0_settle 58 = .ok (.iconst 2, 1) := by decide +kernel
theorem dX0_settle_59 : decode cX0_settle 59 = .ok (.iload_n 2, 1) := by decide +kernel
theorem dX0_settle_60 : decode cX0_settle 60 = .ok (.imul, 1) := by decide +kernel
theorem dX0_settle_61 : decode cX0_settle 61 = .ok (.iload_n 3, 1) := by decide +kernel
theorem dX0_settle_62 : decode cX0_settle 62 = .ok (.iadd, 1) := by decide +kernel
theorem dX0_settle_63 : decode cX0_settle 63 = .ok (.iastore, 1) := by decide +kernel
theorem dX0_settle_64 : decode cX0_settle 64 = .ok (.aload_n 0, 1) := by decide +kernel
theorem dX0_settle_65 : decode cX0_settle 65 = .ok (.getfield 24, 3) := by decide +kernel
theorem dX0_settle_68 : decode cX0_settle 68 = .ok (.iconst 1, 1) := by decide +kernel
theorem dX0_settle_69 : decode cX0_settle 69 = .ok (.aaload, 1) := by decide +kernel
theorem dX0_settle_70 : decode cX0_settle 70 = .ok (.iload_n 1, 1) := by decide +kernel
theorem dX0_settle_71 : decode cX0_settle 71 = .ok (.bipush 10, 2) := by decide +kernel
theorem dX0_settle_73 : decode cX0_settle 73 = .ok (.bipush 6, 2) := by decide +kernel
theorem dX0_settle_75 : decode cX0_settle 75 = .ok (.iload_n 2, 1) := by decide +kernel
theorem dX0_settle_76 : decode cX0_settle 76 = .ok (.imul, 1) := by decide +kernel
theorem dX0_settle_77 : decode cX0_settle 77 = .ok (.iadd, 1) := by decide +kernel
theorem dX0_settle_78 : decode cX0_settle 78 = .ok (.aload_n 0, 1) := by decide +kernel
theorem dX0_settle_79 : decode cX0_settle 79 = .ok (.getfield 15, 3) := by decide +kernel
theorem dX0_settle_82 : decode cX0_settle 82 = .ok (.iload_n 1, 1) := by decide +kernel
theorem dX0_settle_83 : decode cX0_settle 83 = .ok (.iaload, 1) := by decide +kernel
theorem dX0_settle_84 : decode cX0_settle 84 = .ok (.iadd, 1) := by decide +kernel
theorem dX0_settle_85 : decode cX0_settle 85 = .ok (.iastore, 1) := by decide +kernel
theorem dX0_settle_86 : decode cX0_settle 86 = .ok (.aload_n 0, 1) := by decide +kernel
theorem dX0_settle_87 : decode cX0_settle 87 = .ok (.getfield 24, 3) := by decide +kernel
theorem dX0_settle_90 : decode cX0_settle 90 = .ok (.iconst 2, 1) := by decide +kernel
theorem dX0_settle_91 : decode cX0_settle 91 = .ok (.aaload, 1) := by decide +kernel
theorem dX0_settle_92 : decode cX0_settle 92 = .ok (.iload_n 1, 1) := by decide +kernel
theorem dX0_settle_93 : decode cX0_settle 93 = .ok (.iconst 5, 1) := by decide +kernel
theorem dX0_settle_94 : decode cX0_settle 94 = .ok (.bipush 30, 2) := by decide +kernel
theorem dX0_settle_96 : decode cX0_settle 96 = .ok (.iconst 5, 1) := by decide +kernel
theorem dX0_settle_97 : decode cX0_settle 97 = .ok (.iload_n 2, 1) := by decide +kernel
theorem dX0_settle_98 : decode cX0_settle 98 = .ok (.imul, 1) := by decide +kernel
theorem dX0_settle_99 : decode cX0_settle 99 = .ok (.iadd, 1) := by decide +kernel
theorem dX0_settle_100 : decode cX0_settle 100 = .ok (.iload 4, 2) := by decide +kernel
theorem dX0_settle_102 : decode cX0_settle 102 = .ok (.iadd, 1) := by decide +kernel
theorem dX0_settle_103 : decode cX0_settle 103 = .ok (.aload_n 0, 1) := by decide +kernel
theorem dX0_settle_104 : decode cX0_settle 104 = .ok (.getfield 30, 3) := by decide +kernel
theorem dX0_settle_107 : decode cX0_settle 107 = .ok (.isub, 1) := by decide +kernel
theorem dX0_settle_108 : decode cX0_settle 108 = .ok (.invokestatic 45, 3) := by decide +kernel
theorem dX0_settle_111 : decode cX0_settle 111 = .ok (.iastore, 1) := by decide +kernel
theorem dX0_settle_112 : decode cX0_settle 112 = .ok (.iinc 1 1, 3) := by decide +kernel
theorem dX0_settle_115 : decode cX0_settle 115 = .ok (.goto (-113), 3) := by decide +kernel
theorem dX0_settle_118 : decode cX0_settle 118 = .ok (.return_, 1) := by decide +kernel
theorem dX0_bender_0 : decode cX0_bender 0 = .ok (.iload_n 1, 1) := by decide +kernel
theorem dX0_bender_1 : decode cX0_bender 1 = .ok (.iload_n 2, 1) := by decide +kernel
theorem dX0_bender_2 : decode cX0_bender 2 = .ok (.iconst 1, 1) := by decide +kernel
theorem dX0_bender_3 : decode cX0_bender 3 = .ok (.iload_n 3, 1) := by decide +kernel
theorem dX0_bender_4 : decode cX0_bender 4 = .ok (.invokestatic 54, 3) := by decide +kernel
theorem dX0_bender_7 : decode cX0_bender 7 = .ok (.iconst 2, 1) := by decide +kernel
theorem dX0_bender_8 : decode cX0_bender 8 = .ok (.idiv, 1) := by decide +kernel
theorem dX0_bender_9 : decode cX0_bender 9 = .ok (.imul, 1) := by decide +kernel
theorem dX0_bender_10 : decode cX0_bender 10 = .ok (.iadd, 1) := by decide +kernel
theorem dX0_bender_11 : decode cX0_bender 11 = .ok (.invokestatic 57, 3) := by decide +kernel
theorem dX0_bender_14 : decode cX0_bender 14 = .ok (.istore 5, 2) := by decide +kernel
theorem dX0_bender_16 : decode cX0_bender 16 = .ok (.aload_n 0, 1) := by decide +kernel
theorem dX0_bender_17 : decode cX0_bender 17 = .ok (.getfield 24, 3) := by decide +kernel
theorem dX0_bender_20 : decode cX0_bender 20 = .ok (.iconst 1, 1) := by decide +kernel
theorem dX0_bender_21 : decode cX0_bender 21 = .ok (.aaload, 1) := by decide +kernel
theorem dX0_bender_22 : decode cX0_bender 22 = .ok (.iload 5, 2) := by decide +kernel
theorem dX0_bender_24 : decode cX0_bender 24 = .ok (.iaload, 1) := by decide +kernel
theorem dX0_bender_25 : decode cX0_bender 25 = .ok (.iload_n 3, 1) := by decide +kernel
theorem dX0_bender_26 : decode cX0_bender 26 = .ok (.iload 4, 2) := by decide +kernel
theorem dX0_bender_28 : decode cX0_bender 28 = .ok (.invokestatic 61, 3) := by decide +kernel
theorem dX0_bender_31 : decode cX0_bender 31 = .ok (.ifCond .eq 5, 3) := by decide +kernel
theorem dX0_bender_34 : decode cX0_bender 34 = .ok (.iconst 1, 1) := by decide +kernel
theorem dX0_bender_35 : decode cX0_bender 35 = .ok (.ireturn, 1) := by decide +kernel
theorem dX0_bender_36 : decode cX0_bender 36 = .ok (.iload_n 1, 1) := by decide +kernel
theorem dX0_bender_37 : decode cX0_bender 37 = .ok (.iload_n 2, 1) := by decide +kernel
theorem dX0_bender_38 : decode cX0_bender 38 = .ok (.iconst 2, 1) := by decide +kernel
theorem dX0_bender_39 : decode cX0_bender 39 = .ok (.iload_n 3, 1) := by decide +kernel
theorem dX0_bender_40 : decode cX0_bender 40 = .ok (.invokestatic 54, 3) := by decide +kernel
theorem dX0_bender_43 : decode cX0_bender 43 = .ok (.iconst 2, 1) := by decide +kernel
theorem dX0_bender_44 : decode cX0_bender 44 = .ok (.idiv, 1) := by decide +kernel
theorem dX0_bender_45 : decode cX0_bender 45 = .ok (.imul, 1) := by decide +kernel
theorem dX0_bender_46 : decode cX0_bender 46 = .ok (.iadd, 1) := by decide +kernel
theorem dX0_bender_47 : decode cX0_bender 47 = .ok (.invokestatic 57, 3) := by decide +kernel
theorem dX0_bender_50 : decode cX0_bender 50 = .ok (.istore 6, 2) := by decide +kernel
theorem dX0_bender_52 : decode cX0_bender 52 = .ok (.aload_n 0, 1) := by decide +kernel
theorem dX0_bender_53 : decode cX0_bender 53 = .ok (.getfield 24, 3) := by decide +kernel
theorem dX0_bender_56 : decode cX0_bender 56 = .ok (.iconst 2, 1) := by decide +kernel
theorem dX0_bender_57 : decode cX0_bender 57 = .ok (.aaload, 1) := by decide +kernel
theorem dX0_bender_58 : decode cX0_bender 58 = .ok (.iload 6, 2) := by decide +kernel
theorem dX0_bender_60 : decode cX0_bender 60 = .ok (.iaload, 1) := by decide +kernel
theorem dX0_bender_61 : decode cX0_bender 61 = .ok (.iload_n 3, 1) := by decide +kernel
theorem dX0_bender_62 : decode cX0_bender 62 = .ok (.iload 4, 2) := by decide +kernel
theorem dX0_bender_64 : decode cX0_bender 64 = .ok (.invokestatic 61, 3) := by decide +kernel
theorem dX0_bender_67 : decode cX0_bender 67 = .ok (.ifCond .eq 7, 3) := by decide +kernel
theorem dX0_bender_70 : decode cX0_bender 70 = .ok (.iconst 2, 1) := by decide +kernel
theorem dX0_bender_71 : decode cX0_bender 71 = .ok (.goto 4, 3) := by decide +kernel
theorem dX0_bender_74 : decode cX0_bender 74 = .ok (.iconst (-1), 1) := by decide +kernel
theorem dX0_bender_75 : decode cX0_bender 75 = .ok (.ireturn, 1) := by decide +kernel
theorem dX1_init_0 : decode cX1_init 0 = .ok (.aload_n 0, 1) := by decide +kernel
theorem dX1_init_1 : decode cX1_init 1 = .ok (.invokespecial 3, 3) := by decide +kernel
theorem dX1_init_4 : decode cX1_init 4 = .ok (.aload_n 0, 1) := by decide +kernel
theorem dX1_init_5 : decode cX1_init 5 = .ok (.bipush 60, 2) := by decide +kernel
theorem dX1_init_7 : decode cX1_init 7 = .ok (.newarray .int, 2) := by decide +kernel
theorem dX1_init_9 : decode cX1_init 9 = .ok (.putfield 9, 3) := by decide +kernel
theorem dX1_init_12 : decode cX1_init 12 = .ok (.aload_n 0, 1) := by decide +kernel
theorem dX1_init_13 : decode cX1_init 13 = .ok (.bipush 60, 2) := by decide +kernel
theorem dX1_init_15 : decode cX1_init 15 = .ok (.newarray .int, 2) := by decide +kernel
theorem dX1_init_17 : decode cX1_init 17 = .ok (.putfield 15, 3) := by decide +kernel
theorem dX1_init_20 : decode cX1_init 20 = .ok (.aload_n 0, 1) := by decide +kernel
theorem dX1_init_21 : decode cX1_init 21 = .ok (.bipush 60, 2) := by decide +kernel
theorem dX1_init_23 : decode cX1_init 23 = .ok (.newarray .int, 2) := by decide +kernel
theorem dX1_init_25 : decode cX1_init 25 = .ok (.putfield 18, 3) := by decide +kernel
theorem dX1_init_28 : decode cX1_init 28 = .ok (.aload_n 0, 1) := by decide +kernel
theorem dX1_init_29 : decode cX1_init 29 = .ok (.bipush 60, 2) := by decide +kernel
theorem dX1_init_31 : decode cX1_init 31 = .ok (.newarray .int, 2) := by decide +kernel
theorem dX1_init_33 : decode cX1_init 33 = .ok (.putfield 21, 3) := by decide +kernel
theorem dX1_init_36 : decode cX1_init 36 = .ok (.aload_n 0, 1) := by decide +kernel
theorem dX1_init_37 : decode cX1_init 37 = .ok (.bipush 60, 2) := by decide +kernel
theorem dX1_init_39 : decode cX1_init 39 = .ok (.newarray .int, 2) := by decide +kernel
theorem dX1_init_41 : decode cX1_init 41 = .ok (.putfield 24, 3) := by decide +kernel
theorem dX1_init_44 : decode cX1_init 44 = .ok (.return_, 1) := by decide +kernel
theorem dX1_isFull_0 : decode cX1_isFull 0 = .ok (.aload_n 0, 1) := by decide +kernel
theorem dX1_isFull_1 : decode cX1_isFull 1 = .ok (.getfield 27, 3) := by decide +kernel
theorem dX1_isFull_4 : decode cX1_isFull 4 = .ok (.bipush 60, 2) := by decide +kernel
theorem dX1_isFull_6 : decode cX1_isFull 6 = .ok (.if_icmp .lt 7, 3) := by decide +kernel
theorem dX1_isFull_9 : decode cX1_isFull 9 = .ok (.iconst 1, 1) := by decide +kernel
theorem dX1_isFull_10 : decode cX1_isFull 10 = .ok (.goto 4, 3) := by decide +kernel
theorem dX1_isFull_13 : decode cX1_isFull 13 = .ok (.iconst 0, 1) := by decide +kernel
theorem dX1_isFull_14 : decode cX1_isFull 14 = .ok (.ireturn, 1) := by decide +kernel
theorem dX1_has_0 : decode cX1_has 0 = .ok (.iload_n 1, 1) := by decide +kernel
theorem dX1_has_1 : decode cX1_has 1 = .ok (.ifCond .lt 15, 3) := by decide +kernel
theorem dX1_has_4 : decode cX1_has 4 = .ok (.iload_n 1, 1) := by decide +kernel
theorem dX1_has_5 : decode cX1_has 5 = .ok (.aload_n 0, 1) := by decide +kernel
theorem dX1_has_6 : decode cX1_has 6 = .ok (.getfield 27, 3) := by decide +kernel
theorem dX1_has_9 : decode cX1_has 9 = .ok (.if_icmp .ge 7, 3) := by decide +kernel
theorem dX1_has_12 : decode cX1_has 12 = .ok (.iconst 1, 1) := by decide +kernel
theorem dX1_has_13 : decode cX1_has 13 = .ok (.goto 4, 3) := by decide +kernel
theorem dX1_has_16 : decode cX1_has 16 = .ok (.iconst 0, 1) := by decide +kernel
theorem dX1_has_17 : decode cX1_has 17 = .ok (.ireturn, 1) := by decide +kernel
theorem dX1_add_0 : decode cX1_add 0 = .ok (.aload_n 0, 1) := by decide +kernel
theorem dX1_add_1 : decode cX1_add 1 = .ok (.getfield 9, 3) := by decide +kernel
theorem dX1_add_4 : decode cX1_add 4 = .ok (.aload_n 0, 1) := by decide +kernel
theorem dX1_add_5 : decode cX1_add 5 = .ok (.getfield 27, 3) := by decide +kernel
theorem dX1_add_8 : decode cX1_add 8 = .ok (.iload_n 1, 1) := by decide +kernel
theorem dX1_add_9 : decode cX1_add 9 = .ok (.iastore, 1) := by decide +kernel
theorem dX1_add_10 : decode cX1_add 10 = .ok (.aload_n 0, 1) := by decide +kernel
theorem dX1_add_11 : decode cX1_add 11 = .ok (.getfield 15, 3) := by decide +kernel
theorem dX1_add_14 : decode cX1_add 14 = .ok (.aload_n 0, 1) := by decide +kernel
theorem dX1_add_15 : decode cX1_add 15 = .ok (.getfield 27, 3) := by decide +kernel
theorem dX1_add_18 : decode cX1_add 18 = .ok (.iload_n 2, 1) := by decide +kernel
theorem dX1_add_19 : decode cX1_add 19 = .ok (.iastore, 1) := by decide +kernel
theorem dX1_add_20 : decode cX1_add 20 = .ok (.aload_n 0, 1) := by decide +kernel
theorem dX1_add_21 : decode cX1_add 21 = .ok (.getfield 18, 3) := by decide +kernel
theorem dX1_add_24 : decode cX1_add 24 = .ok (.aload_n 0, 1) := by decide +kernel
theorem dX1_add_25 : decode cX1_add 25 = .ok (.getfield 27, 3) := by decide +kernel
theorem dX1_add_28 : decode cX1_add 28 = .ok (.iload_n 3, 1) := by decide +kernel
theorem dX1_add_29 : decode cX1_add 29 = .ok (.iastore, 1) := by decide +kernel
theorem dX1_add_30 : decode cX1_add 30 = .ok (.aload_n 0, 1) := by decide +kernel
theorem dX1_add_31 : decode cX1_add 31 = .ok (.getfield 21, 3) := by decide +kernel
theorem dX1_add_34 : decode cX1_add 34 = .ok (.aload_n 0, 1) := by decide +kernel
theorem dX1_add_35 : decode cX1_add 35 = .ok (.getfield 27, 3) := by decide +kernel
theorem dX1_add_38 : decode cX1_add 38 = .ok (.iload 4, 2) := by decide +kernel
theorem dX1_add_40 : decode cX1_add 40 = .ok (.iastore, 1) := by decide +kernel
theorem dX1_add_41 : decode cX1_add 41 = .ok (.aload_n 0, 1) := by decide +kernel
theorem dX1_add_42 : decode cX1_add 42 = .ok (.getfield 24, 3) := by decide +kernel
theorem dX1_add_45 : decode cX1_add 45 = .ok (.aload_n 0, 1) := by decide +kernel
theorem dX1_add_46 : decode cX1_add 46 = .ok (.getfield 27, 3) := by decide +kernel
theorem dX1_add_49 : decode cX1_add 49 = .ok (.iload 5, 2) := by decide +kernel
theorem dX1_add_51 : decode cX1_add 51 = .ok (.iastore, 1) := by decide +kernel
theorem dX1_add_52 : decode cX1_add 52 = .ok (.aload_n 0, 1) := by decide +kernel
theorem dX1_add_53 : decode cX1_add 53 = .ok (.dup, 1) := by decide +kernel
theorem dX1_add_54 : decode cX1_add 54 = .ok (.getfield 27, 3) := by decide +kernel
theorem dX1_add_57 : decode cX1_add 57 = .ok (.iconst 1, 1) := by decide +kernel
theorem dX1_add_58 : decode cX1_add 58 = .ok (.iadd, 1) := by decide +kernel
theorem dX1_add_59 : decode cX1_add 59 = .ok (.putfield 27, 3) := by decide +kernel
theorem dX1_add_62 : decode cX1_add 62 = .ok (.return_, 1) := by decide +kernel
theorem dX1_isOf_0 : decode cX1_isOf 0 = .ok (.aload_n 0, 1) := by decide +kernel
theorem dX1_isOf_1 : decode cX1_isOf 1 = .ok (.getfield 9, 3) := by decide +kernel
theorem dX1_isOf_4 : decode cX1_isOf 4 = .ok (.iload_n 1, 1) := by decide +kernel
theorem dX1_isOf_5 : decode cX1_isOf 5 = .ok (.iaload, 1) := by decide +kernel
theorem dX1_isOf_6 : decode cX1_isOf 6 = .ok (.iload_n 2, 1) := by decide +kernel
theorem dX1_isOf_7 : decode cX1_isOf 7 = .ok (.if_icmp .ne 13, 3) := by decide +kernel
theorem dX1_isOf_10 : decode cX1_isOf 10 = .ok (.aload_n 0, 1) := by decide +kernel
theorem dX1_isOf_11 : decode cX1_isOf 11 = .ok (.getfield 15, 3) := by decide +kernel
theorem dX1_isOf_14 : decode cX1_isOf 14 = .ok (.iload_n 1, 1) := by decide +kernel
theorem dX1_isOf_15 : decode cX1_isOf 15 = .ok (.iaload, 1) := by decide +kernel
theorem dX1_isOf_16 : decode cX1_isOf 16 = .ok (.iload_n 3, 1) := by decide +kernel
theorem dX1_isOf_17 : decode cX1_isOf 17 = .ok (.if_icmp .eq 23, 3) := by decide +kernel
theorem dX1_isOf_20 : decode cX1_isOf 20 = .ok (.aload_n 0, 1) := by decide +kernel
theorem dX1_isOf_21 : decode cX1_isOf 21 = .ok (.getfield 9, 3) := by decide +kernel
theorem dX1_isOf_24 : decode cX1_isOf 24 = .ok (.iload_n 1, 1) := by decide +kernel
theorem dX1_isOf_25 : decode cX1_isOf 25 = .ok (.iaload, 1) := by decide +kernel
theorem dX1_isOf_26 : decode cX1_isOf 26 = .ok (.iload_n 3, 1) := by decide +kernel
theorem dX1_isOf_27 : decode cX1_isOf 27 = .ok (.if_icmp .ne 17, 3) := by decide +kernel
theorem dX1_isOf_30 : decode cX1_isOf 30 = .ok (.aload_n 0, 1) := by decide +kernel
theorem dX1_isOf_31 : decode cX1_isOf 31 = .ok (.getfield 15, 3) := by decide +kernel
theorem dX1_isOf_34 : decode cX1_isOf 34 = .ok (.iload_n 1, 1) := by decide +kernel
theorem dX1_isOf_35 : decode cX1_isOf 35 = .ok (.iaload, 1) := by decide +kernel
theorem dX1_isOf_36 : decode cX1_isOf 36 = .ok (.iload_n 2, 1) := by decide +kernel
theorem dX1_isOf_37 : decode cX1_isOf 37 = .ok (.if_icmp .ne 7, 3) := by decide +kernel
theorem dX1_isOf_40 : decode cX1_isOf 40 = .ok (.iconst 1, 1) := by decide +kernel
theorem dX1_isOf_41 : decode cX1_isOf 41 = .ok (.goto 4, 3) := by decide +kernel
theorem dX1_isOf_44 : decode cX1_isOf 44 = .ok (.iconst 0, 1) := by decide +kernel
theorem dX1_isOf_45 : decode cX1_isOf 45 = .ok (.ireturn, 1) := by decide +kernel
theorem dX1_tell_0 : decode cX1_tell 0 = .ok (.iload_n 2, 1) := by decide +kernel
theorem dX1_tell_1 : decode cX1_tell 1 = .ok (.tableswitch 59 0 3 #[31, 38, 45, 52], 31) := by decide +kernel
theorem dX1_tell_32 : decode cX1_tell 32 = .ok (.aload_n 0, 1) := by decide +kernel
theorem dX1_tell_33 : decode cX1_tell 33 = .ok (.getfield 9, 3) := by decide +kernel
theorem dX1_tell_36 : decode cX1_tell 36 = .ok (.iload_n 1, 1) := by decide +kernel
theorem dX1_tell_37 : decode cX1_tell 37 = .ok (.iaload, 1) := by decide +kernel
theorem dX1_tell_38 : decode cX1_tell 38 = .ok (.ireturn, 1) := by decide +kernel
theorem dX1_tell_39 : decode cX1_tell 39 = .ok (.aload_n 0, 1) := by decide +kernel
theorem dX1_tell_40 : decode cX1_tell 40 = .ok (.getfield 15, 3) := by decide +kernel
theorem dX1_tell_43 : decode cX1_tell 43 = .ok (.iload_n 1, 1) := by decide +kernel
theorem dX1_tell_44 : decode cX1_tell 44 = .ok (.iaload, 1) := by decide +kernel
theorem dX1_tell_45 : decode cX1_tell 45 = .ok (.ireturn, 1) := by decide +kernel
theorem dX1_tell_46 : decode cX1_tell 46 = .ok (.aload_n 0, 1) := by decide +kernel
theorem dX1_tell_47 : decode cX1_tell 47 = .ok (.getfield 18, 3) := by decide +kernel
theorem dX1_tell_50 : decode cX1_tell 50 = .ok (.iload_n 1, 1) := by decide +kernel
theorem dX1_tell_51 : decode cX1_tell 51 = .ok (.iaload, 1) := by decide +kernel
theorem dX1_tell_52 : decode cX1_tell 52 = .ok (.ireturn, 1) := by decide +kernel
theorem dX1_tell_53 : decode cX1_tell 53 = .ok (.aload_n 0, 1) := by decide +kernel
theorem dX1_tell_54 : decode cX1_tell 54 = .ok (.getfield 21, 3) := by decide +kernel
theorem dX1_tell_57 : decode cX1_tell 57 = .ok (.iload_n 1, 1) := by decide +kernel
theorem dX1_tell_58 : decode cX1_tell 58 = .ok (.iaload, 1) := by decide +kernel
theorem dX1_tell_59 : decode cX1_tell 59 = .ok (.ireturn, 1) := by decide +kernel
theorem dX1_tell_60 : decode cX1_tell 60 = .ok (.aload_n 0, 1) := by decide +kernel
theorem dX1_tell_61 : decode cX1_tell 61 = .ok (.getfield 24, 3) := by decide +kernel
theorem dX1_tell_64 : decode cX1_tell 64 = .ok (.iload_n 1, 1) := by decide +kernel
theorem dX1_tell_65 : decode cX1_tell 65 = .ok (.iaload, 1) := by decide +kernel
theorem dX1_tell_66 : decode cX1_tell 66 = .ok (.ireturn, 1) := by decide +kernel
theorem dX2_init_0 : decode cX2_init 0 = .ok (.aload_n 0, 1) := by decide +kernel
theorem dX2_init_1 : decode cX2_init 1 = .ok (.invokespecial 3, 3) := by decide +kernel
theorem dX2_init_4 : decode cX2_init 4 = .ok (.aload_n 0, 1) := by decide +kernel
theorem dX2_init_5 : decode cX2_init 5 = .ok (.bipush 80, 2) := by decide +kernel
theorem dX2_init_7 : decode cX2_init 7 = .ok (.newarray .int, 2) := by decide +kernel
theorem dX2_init_9 : decode cX2_init 9 = .ok (.putfield 9, 3) := by decide +kernel
theorem dX2_init_12 : decode cX2_init 12 = .ok (.aload_n 0, 1) := by decide +kernel
theorem dX2_init_13 : decode cX2_init 13 = .ok (.bipush 80, 2) := by decide +kernel
theorem dX2_init_15 : decode cX2_init 15 = .ok (.newarray .int, 2) := by decide +kernel
theorem dX2_init_17 : decode cX2_init 17 = .ok (.putfield 15, 3) := by decide +kernel
theorem dX2_init_20 : decode cX2_init 20 = .ok (.aload_n 0, 1) := by decide +kernel
theorem dX2_init_21 : decode cX2_init 21 = .ok (.bipush 80, 2) := by decide +kernel
theorem dX2_init_23 : decode cX2_init 23 = .ok (.newarray .int, 2) := by decide +kernel
theorem dX2_init_25 : decode cX2_init 25 = .ok (.putfield 18, 3) := by decide +kernel
theorem dX2_init_28 : decode cX2_init 28 = .ok (.aload_n 0, 1) := by decide +kernel
theorem dX2_init_29 : decode cX2_init 29 = .ok (.bipush 80, 2) := by decide +kernel
theorem dX2_init_31 : decode cX2_init 31 = .ok (.newarray .int, 2) := by decide +kernel
theorem dX2_init_33 : decode cX2_init 33 = .ok (.putfield 21, 3) := by decide +kernel
theorem dX2_init_36 : decode cX2_init 36 = .ok (.aload_n 0, 1) := by decide +kernel
theorem dX2_init_37 : decode cX2_init 37 = .ok (.bipush 80, 2) := by decide +kernel
theorem dX2_init_39 : decode cX2_init 39 = .ok (.newarray .int, 2) := by decide +kernel
theorem dX2_init_41 : decode cX2_init 41 = .ok (.putfield 24, 3) := by decide +kernel
theorem dX2_init_44 : decode cX2_init 44 = .ok (.return_, 1) := by decide +kernel
theorem dX2_isFull_0 : decode cX2_isFull 0 = .ok (.aload_n 0, 1) := by decide +kernel
theorem dX2_isFull_1 : decode cX2_isFull 1 = .ok (.getfield 27, 3) := by decide +kernel
theorem dX2_isFull_4 : decode cX2_isFull 4 = .ok (.bipush 80, 2) := by decide +kernel
theorem dX2_isFull_6 : decode cX2_isFull 6 = .ok (.if_icmp .lt 7, 3) := by decide +kernel
theorem dX2_isFull_9 : decode cX2_isFull 9 = .ok (.iconst 1, 1) := by decide +kernel
theorem dX2_isFull_10 : decode cX2_isFull 10 = .ok (.goto 4, 3) := by decide +kernel
theorem dX2_isFull_13 : decode cX2_isFull 13 = .ok (.iconst 0, 1) := by decide +kernel
theorem dX2_isFull_14 : decode cX2_isFull 14 = .ok (.ireturn, 1) := by decide +kernel
theorem dX2_has_0 : decode cX2_has 0 = .ok (.iload_n 1, 1) := by decide +kernel
theorem dX2_has_1 : decode cX2_has 1 = .ok (.ifCond .lt 15, 3) := by decide +kernel
theorem dX2_has_4 : decode cX2_has 4 = .ok (.iload_n 1, 1) := by decide +kernel
theorem dX2_has_5 : decode cX2_has 5 = .ok (.aload_n 0, 1) := by decide +kernel
theorem dX2_has_6 : decode cX2_has 6 = .ok (.getfield 27, 3) := by decide +kernel
theorem dX2_has_9 : decode cX2_has 9 = .ok (.if_icmp .ge 7, 3) := by decide +kernel
theorem dX2_has_12 : decode cX2_has 12 = .ok (.iconst 1, 1) := by decide +kernel
theorem dX2_has_13 : decode cX2_has 13 = .ok (.goto 4, 3) := by decide +kernel
theorem dX2_has_16 : decode cX2_has 16 = .ok (.iconst 0, 1) := by decide +kernel
theorem dX2_has_17 : decode cX2_has 17 = .ok (.ireturn, 1) := by decide +kernel
theorem dX2_add_0 : decode cX2_add 0 = .ok (.aload_n 0, 1) := by decide +kernel
theorem dX2_add_1 : decode cX2_add 1 = .ok (.getfield 27, 3) := by decide +kernel
theorem dX2_add_4 : decode cX2_add 4 = .ok (.istore 5, 2) := by decide +kernel
theorem dX2_add_6 : decode cX2_add 6 = .ok (.aload_n 0, 1) := by decide +kernel
theorem dX2_add_7 : decode cX2_add 7 = .ok (.iload_n 1, 1) := by decide +kernel
theorem dX2_add_8 : decode cX2_add 8 = .ok (.iload_n 2, 1) := by decide +kernel
theorem dX2_add_9 : decode cX2_add 9 = .ok (.iload_n 3, 1) := by decide +kernel
theorem dX2_add_10 : decode cX2_add 10 = .ok (.iload 4, 2) := by decide +kernel
theorem dX2_add_12 : decode cX2_add 12 = .ok (.invokevirtual 31, 3) := by decide +kernel
theorem dX2_add_15 : decode cX2_add 15 = .ok (.istore 6, 2) := by decide +kernel
theorem dX2_add_17 : decode cX2_add 17 = .ok (.aload_n 0, 1) := by decide +kernel
theorem dX2_add_18 : decode cX2_add 18 = .ok (.getfield 9, 3) := by decide +kernel
theorem dX2_add_21 : decode cX2_add 21 = .ok (.iload 5, 2) := by decide +kernel
theorem dX2_add_23 : decode cX2_add 23 = .ok (.iload_n 1, 1) := by decide +kernel
theorem dX2_add_24 : decode cX2_add 24 = .ok (.iastore, 1) := by decide +kernel
theorem dX2_add_25 : decode cX2_add 25 = .ok (.aload_n 0, 1) := by decide +kernel
theorem dX2_add_26 : decode cX2_add 26 = .ok (.getfield 15, 3) := by decide +kernel
theorem dX2_add_29 : decode cX2_add 29 = .ok (.iload 5, 2) := by decide +kernel
theorem dX2_add_31 : decode cX2_add 31 = .ok (.iload_n 2, 1) := by decide +kernel
theorem dX2_add_32 : decode cX2_add 32 = .ok (.iastore, 1) := by decide +kernel
theorem dX2_add_33 : decode cX2_add 33 = .ok (.aload_n 0, 1) := by decide +kernel
theorem dX2_add_34 : decode cX2_add 34 = .ok (.getfield 18, 3) := by decide +kernel
theorem dX2_add_37 : decode cX2_add 37 = .ok (.iload 5, 2) := by decide +kernel
theorem dX2_add_39 : decode cX2_add 39 = .ok (.iload_n 3, 1) := by decide +kernel
theorem dX2_add_40 : decode cX2_add 40 = .ok (.iastore, 1) := by decide +kernel
theorem dX2_add_41 : decode cX2_add 41 = .ok (.aload_n 0, 1) := by decide +kernel
theorem dX2_add_42 : decode cX2_add 42 = .ok (.getfield 21, 3) := by decide +kernel
theorem dX2_add_45 : decode cX2_add 45 = .ok (.iload 5, 2) := by decide +kernel
theorem dX2_add_47 : decode cX2_add 47 = .ok (.iload 4, 2) := by decide +kernel
theorem dX2_add_49 : decode cX2_add 49 = .ok (.iastore, 1) := by decide +kernel
theorem dX2_add_50 : decode cX2_add 50 = .ok (.aload_n 0, 1) := by decide +kernel
theorem dX2_add_51 : decode cX2_add 51 = .ok (.getfield 24, 3) := by decide +kernel
theorem dX2_add_54 : decode cX2_add 54 = .ok (.iload 5, 2) := by decide +kernel
theorem dX2_add_56 : decode cX2_add 56 = .ok (.iload 6, 2) := by decide +kernel
theorem dX2_add_58 : decode cX2_add 58 = .ok (.iastore, 1) := by decide +kernel
theorem dX2_add_59 : decode cX2_add 59 = .ok (.iload 6, 2) := by decide +kernel
theorem dX2_add_61 : decode cX2_add 61 = .ok (.iconst (-1), 1) := by decide +kernel
theorem dX2_add_62 : decode cX2_add 62 = .ok (.if_icmp .eq 22, 3) := by decide +kernel
theorem dX2_add_65 : decode cX2_add 65 = .ok (.aload_n 0, 1) := by decide +kernel
theorem dX2_add_66 : decode cX2_add 66 = .ok (.getfield 24, 3) := by decide +kernel
theorem dX2_add_69 : decode cX2_add 69 = .ok (.iload 6, 2) := by decide +kernel
theorem dX2_add_71 : decode cX2_add 71 = .ok (.iload 5, 2) := by decide +kernel
theorem dX2_add_73 : decode cX2_add 73 = .ok (.iastore, 1) := by decide +kernel
theorem dX2_add_74 : decode cX2_add 74 = .ok (.aload_n 0, 1) := by decide +kernel
theorem dX2_add_75 : decode cX2_add 75 = .ok (.dup, 1) := by decide +kernel
theorem dX2_add_76 : decode cX2_add 76 = .ok (.getfield 35, 3) := by decide +kernel
theorem dX2_add_79 : decode cX2_add 79 = .ok (.iconst 2, 1) := by decide +kernel
theorem dX2_add_80 : decode cX2_add 80 = .ok (.iadd, 1) := by decide +kernel
theorem dX2_add_81 : decode cX2_add 81 = .ok (.putfield 35, 3) := by decide +kernel
theorem dX2_add_84 : decode cX2_add 84 = .ok (.aload_n 0, 1) := by decide +kernel
theorem dX2_add_85 : decode cX2_add 85 = .ok (.dup, 1) := by decide +kernel
theorem dX2_add_86 : decode cX2_add 86 = .ok (.getfield 27, 3) := by decide +kernel
theorem dX2_add_89 : decode cX2_add 89 = .ok (.iconst 1, 1) := by decide +kernel
theorem dX2_add_90 : decode cX2_add 90 = .ok (.iadd, 1) := by decide +kernel
theorem dX2_add_91 : decode cX2_add 91 = .ok (.putfield 27, 3) := by decide +kernel
theorem dX2_add_94 : decode cX2_add 94 = .ok (.iload 5, 2) := by decide +kernel
theorem dX2_add_96 : decode cX2_add 96 = .ok (.ireturn, 1) := by decide +kernel
theorem dX2_partnerFor_0 : decode cX2_partnerFor 0 = .ok (.iconst 0, 1) := by decide +kernel
theorem dX2_partnerFor_1 : decode cX2_partnerFor 1 = .ok (.istore 5, 2) := by decide +kernel
theorem dX2_partnerFor_3 : decode cX2_partnerFor 3 = .ok (.iload 5, 2) := by decide +kernel
theorem dX2_partnerFor_5 : decode cX2_partnerFor 5 = .ok (.aload_n 0, 1) := by decide +kernel
theorem dX2_partnerFor_6 : decode cX2_partnerFor 6 = .ok (.getfield 27, 3) := by decide +kernel
theorem dX2_partnerFor_9 : decode cX2_partnerFor 9 = .ok (.if_icmp .ge 70, 3) := by decide +kernel
theorem dX2_partnerFor_12 : decode cX2_partnerFor 12 = .ok (.aload_n 0, 1) := by decide +kernel
theorem dX2_partnerFor_13 : decode cX2_partnerFor 13 = .ok (.getfield 24, 3) := by decide +kernel
theorem dX2_partnerFor_16 : decode cX2_partnerFor 16 = .ok (.iload 5, 2) := by decide +kernel
theorem dX2_partnerFor_18 : decode cX2_partnerFor 18 = .ok (.iaload, 1) := by decide +kernel
theorem dX2_partnerFor_19 : decode cX2_partnerFor 19 = .ok (.iconst (-1), 1) := by decide +kernel
theorem dX2_partnerFor_20 : decode cX2_partnerFor 20 = .ok (.if_icmp .ne 53, 3) := by decide +kernel
theorem dX2_partnerFor_23 : decode cX2_partnerFor 23 = .ok (.aload_n 0, 1) := by decide +kernel
theorem dX2_partnerFor_24 : decode cX2_partnerFor 24 = .ok (.getfield 9, 3) := by decide +kernel
theorem dX2_partnerFor_27 : decode cX2_partnerFor 27 = .ok (.iload 5, 2) := by decide +kernel
theorem dX2_partnerFor_29 : decode cX2_partnerFor 29 = .ok (.iaload, 1) := by decide +kernel
theorem dX2_partnerFor_30 : decode cX2_partnerFor 30 = .ok (.iload_n 2, 1) := by decide +kernel
theorem dX2_partnerFor_31 : decode cX2_partnerFor 31 = .ok (.if_icmp .ne 42, 3) := by decide +kernel
theorem dX2_partnerFor_34 : decode cX2_partnerFor 34 = .ok (.aload_n 0, 1) := by decide +kernel
theorem dX2_partnerFor_35 : decode cX2_partnerFor 35 = .ok (.getfield 15, 3) := by decide +kernel
theorem dX2_partnerFor_38 : decode cX2_partnerFor 38 = .ok (.iload 5, 2) := by decide +kernel
theorem dX2_partnerFor_40 : decode cX2_partnerFor 40 = .ok (.iaload, 1) := by decide +kernel
theorem dX2_partnerFor_41 : decode cX2_partnerFor 41 = .ok (.iload_n 1, 1) := by decide +kernel
theorem dX2_partnerFor_42 : decode cX2_partnerFor 42 = .ok (.if_icmp .ne 31, 3) := by decide +kernel
theorem dX2_partnerFor_45 : decode cX2_partnerFor 45 = .ok (.aload_n 0, 1) := by decide +kernel
theorem dX2_partnerFor_46 : decode cX2_partnerFor 46 = .ok (.getfield 18, 3) := by decide +kernel
theorem dX2_partnerFor_49 : decode cX2_partnerFor 49 = .ok (.iload 5, 2) := by decide +kernel
theorem dX2_partnerFor_51 : decode cX2_partnerFor 51 = .ok (.iaload, 1) := by decide +kernel
theorem dX2_partnerFor_52 : decode cX2_partnerFor 52 = .ok (.iload_n 3, 1) := by decide +kernel
theorem dX2_partnerFor_53 : decode cX2_partnerFor 53 = .ok (.if_icmp .ne 20, 3) := by decide +kernel
theorem dX2_partnerFor_56 : decode cX2_partnerFor 56 = .ok (.iload 4, 2) := by decide +kernel
theorem dX2_partnerFor_58 : decode cX2_partnerFor 58 = .ok (.aload_n 0, 1) := by decide +kernel
theorem dX2_partnerFor_59 : decode cX2_partnerFor 59 = .ok (.getfield 21, 3) := by decide +kernel
theorem dX2_partnerFor_62 : decode cX2_partnerFor 62 = .ok (.iload 5, 2) := by decide +kernel
theorem dX2_partnerFor_64 : decode cX2_partnerFor 64 = .ok (.iaload, 1) := by decide +kernel
theorem dX2_partnerFor_65 : decode cX2_partnerFor 65 = .ok (.isub, 1) := by decide +kernel
theorem dX2_partnerFor_66 : decode cX2_partnerFor 66 = .ok (.iconst 1, 1) := by decide +kernel
theorem dX2_partnerFor_67 : decode cX2_partnerFor 67 = .ok (.if_icmp .gt 6, 3) := by decide +kernel
theorem dX2_partnerFor_70 : decode cX2_partnerFor 70 = .ok (.iload 5, 2) := by decide +kernel
theorem dX2_partnerFor_72 : decode cX2_partnerFor 72 = .ok (.ireturn, 1) := by decide +kernel
theorem dX2_partnerFor_73 : decode cX2_partnerFor 73 = .ok (.iinc 5 1, 3) := by decide +kernel
theorem dX2_partnerFor_76 : decode cX2_partnerFor 76 = .ok (.goto (-73), 3) := by decide +kernel
theorem dX2_partnerFor_79 : decode cX2_partnerFor 79 = .ok (.iconst (-1), 1) := by decide +kernel
theorem dX2_partnerFor_80 : decode cX2_partnerFor 80 = .ok (.ireturn, 1) := by decide +kernel
theorem dX2_tell_0 : decode cX2_tell 0 = .ok (.iload_n 2, 1) := by decide +kernel
theorem dX2_tell_1 : decode cX2_tell 1 = .ok (.tableswitch 59 0 3 #[31, 38, 45, 52], 31) := by decide +kernel
theorem dX2_tell_32 : decode cX2_tell 32 = .ok (.aload_n 0, 1) := by decide +kernel
theorem dX2_tell_33 : decode cX2_tell 33 = .ok (.getfield 9, 3) := by decide +kernel
theorem dX2_tell_36 : decode cX2_tell 36 = .ok (.iload_n 1, 1) := by decide +kernel
theorem dX2_tell_37 : decode cX2_tell 37 = .ok (.iaload, 1) := by decide +kernel
theorem dX2_tell_38 : decode cX2_tell 38 = .ok (.ireturn, 1) := by decide +kernel
theorem dX2_tell_39 : decode cX2_tell 39 = .ok (.aload_n 0, 1) := by decide +kernel
theorem dX2_tell_40 : decode cX2_tell 40 = .ok (.getfield 15, 3) := by decide +kernel
theorem dX2_tell_43 : decode cX2_tell 43 = .ok (.iload_n 1, 1) := by decide +kernel
theorem dX2_tell_44 : decode cX2_tell 44 = .ok (.iaload, 1) := by decide +kernel
theorem dX2_tell_45 : decode cX2_tell 45 = .ok (.ireturn, 1) := by decide +kernel
theorem dX2_tell_46 : decode cX2_tell 46 = .ok (.aload_n 0, 1) := by decide +kernel
theorem dX2_tell_47 : decode cX2_tell 47 = .ok (.getfield 18, 3) := by decide +kernel
theorem dX2_tell_50 : decode cX2_tell 50 = .ok (.iload_n 1, 1) := by decide +kernel
theorem dX2_tell_51 : decode cX2_tell 51 = .ok (.iaload, 1) := by decide +kernel
theorem dX2_tell_52 : decode cX2_tell 52 = .ok (.ireturn, 1) := by decide +kernel
theorem dX2_tell_53 : decode cX2_tell 53 = .ok (.aload_n 0, 1) := by decide +kernel
theorem dX2_tell_54 : decode cX2_tell 54 = .ok (.getfield 21, 3) := by decide +kernel
theorem dX2_tell_57 : decode cX2_tell 57 = .ok (.iload_n 1, 1) := by decide +kernel
theorem dX2_tell_58 : decode cX2_tell 58 = .ok (.iaload, 1) := by decide +kernel
theorem dX2_tell_59 : decode cX2_tell 59 = .ok (.ireturn, 1) := by decide +kernel
theorem dX2_tell_60 : decode cX2_tell 60 = .ok (.aload_n 0, 1) := by decide +kernel
theorem dX2_tell_61 : decode cX2_tell 61 = .ok (.getfield 24, 3) := by decide +kernel
theorem dX2_tell_64 : decode cX2_tell 64 = .ok (.iload_n 1, 1) := by decide +kernel
theorem dX2_tell_65 : decode cX2_tell 65 = .ok (.iaload, 1) := by decide +kernel
theorem dX2_tell_66 : decode cX2_tell 66 = .ok (.ireturn, 1) := by decide +kernel
theorem dX3_init_0 : decode cX3_init 0 = .ok (.aload_n 0, 1) := by decide +kernel
theorem dX3_init_1 : decode cX3_init 1 = .ok (.invokespecial 3, 3) := by decide +kernel
theorem dX3_init_4 : decode cX3_init 4 = .ok (.aload_n 0, 1) := by decide +kernel
theorem dX3_init_5 : decode cX3_init 5 = .ok (.bipush 48, 2) := by decide +kernel
theorem dX3_init_7 : decode cX3_init 7 = .ok (.newarray .boolean, 2) := by decide +kernel
theorem dX3_init_9 : decode cX3_init 9 = .ok (.putfield 9, 3) := by decide +kernel
theorem dX3_init_12 : decode cX3_init 12 = .ok (.aload_n 0, 1) := by decide +kernel
theorem dX3_init_13 : decode cX3_init 13 = .ok (.bipush 48, 2) := by decide +kernel
theorem dX3_init_15 : decode cX3_init 15 = .ok (.newarray .int, 2) := by decide +kernel
theorem dX3_init_17 : decode cX3_init 17 = .ok (.putfield 15, 3) := by decide +kernel
theorem dX3_init_20 : decode cX3_init 20 = .ok (.return_, 1) := by decide +kernel
theorem dX3_takes_0 : decode cX3_takes 0 = .ok (.aload_n 0, 1) := by decide +kernel
theorem dX3_takes_1 : decode cX3_takes 1 = .ok (.getfield 9, 3) := by decide +kernel
theorem dX3_takes_4 : decode cX3_takes 4 = .ok (.iload_n 1, 1) := by decide +kernel
theorem dX3_takes_5 : decode cX3_takes 5 = .ok (.baload, 1) := by decide +kernel
theorem dX3_takes_6 : decode cX3_takes 6 = .ok (.ifCond .eq 7, 3) := by decide +kernel
theorem dX3_takes_9 : decode cX3_takes 9 = .ok (.iconst 3, 1) := by decide +kernel
theorem dX3_takes_10 : decode cX3_takes 10 = .ok (.goto 5, 3) := by decide +kernel
theorem dX3_takes_13 : decode cX3_takes 13 = .ok (.bipush 6, 2) := by decide +kernel
theorem dX3_takes_15 : decode cX3_takes 15 = .ok (.ireturn, 1) := by decide +kernel
theorem dX4_init_0 : decode cX4_init 0 = .ok (.aload_n 0, 1) := by decide +kernel
theorem dX4_init_1 : decode cX4_init 1 = .ok (.invokespecial 3, 3) := by decide +kernel
theorem dX4_init_4 : decode cX4_init 4 = .ok (.return_, 1) := by decide +kernel
theorem dX4_leave_0 : decode cX4_leave 0 = .ok (.aload_n 0, 1) := by decide +kernel
theorem dX4_leave_1 : decode cX4_leave 1 = .ok (.iload_n 1, 1) := by decide +kernel
theorem dX4_leave_2 : decode cX4_leave 2 = .ok (.putfield 9, 3) := by decide +kernel
theorem dX4_leave_5 : decode cX4_leave 5 = .ok (.aload_n 0, 1) := by decide +kernel
theorem dX4_leave_6 : decode cX4_leave 6 = .ok (.iload_n 2, 1) := by decide +kernel
theorem dX4_leave_7 : decode cX4_leave 7 = .ok (.putfield 15, 3) := by decide +kernel
theorem dX4_leave_10 : decode cX4_leave 10 = .ok (.aload_n 0, 1) := by decide +kernel
theorem dX4_leave_11 : decode cX4_leave 11 = .ok (.iload_n 3, 1) := by decide +kernel
theorem dX4_leave_12 : decode cX4_leave 12 = .ok (.putfield 18, 3) := by decide +kernel
theorem dX4_leave_15 : decode cX4_leave 15 = .ok (.aload_n 0, 1) := by decide +kernel
theorem dX4_leave_16 : decode cX4_leave 16 = .ok (.iload 4, 2) := by decide +kernel
theorem dX4_leave_18 : decode cX4_leave 18 = .ok (.putfield 21, 3) := by decide +kernel
theorem dX4_leave_21 : decode cX4_leave 21 = .ok (.aload_n 0, 1) := by decide +kernel
theorem dX4_leave_22 : decode cX4_leave 22 = .ok (.iload 5, 2) := by decide +kernel
theorem dX4_leave_24 : decode cX4_leave 24 = .ok (.putfield 24, 3) := by decide +kernel
theorem dX4_leave_27 : decode cX4_leave 27 = .ok (.aload_n 0, 1) := by decide +kernel
theorem dX4_leave_28 : decode cX4_leave 28 = .ok (.iconst 0, 1) := by decide +kernel
theorem dX4_leave_29 : decode cX4_leave 29 = .ok (.putfield 27, 3) := by decide +kernel
theorem dX4_leave_32 : decode cX4_leave 32 = .ok (.aload_n 0, 1) := by decide +kernel
theorem dX4_leave_33 : decode cX4_leave 33 = .ok (.iconst 0, 1) := by decide +kernel
theorem dX4_leave_34 : decode cX4_leave 34 = .ok (.putfield 30, 3) := by decide +kernel
theorem dX4_leave_37 : decode cX4_leave 37 = .ok (.aload_n 0, 1) := by decide +kernel
theorem dX4_leave_38 : decode cX4_leave 38 = .ok (.iconst 0, 1) := by decide +kernel
theorem dX4_leave_39 : decode cX4_leave 39 = .ok (.putfield 33, 3) := by decide +kernel
theorem dX4_leave_42 : decode cX4_leave 42 = .ok (.return_, 1) := by decide +kernel
theorem dX4_goOn_0 : decode cX4_goOn 0 = .ok (.aload_n 0, 1) := by decide +kernel
theorem dX4_goOn_1 : decode cX4_goOn 1 = .ok (.getfield 15, 3) := by decide +kernel
theorem dX4_goOn_4 : decode cX4_goOn 4 = .ok (.ifCond .ne 7, 3) := by decide +kernel
theorem dX4_goOn_7 : decode cX4_goOn 7 = .ok (.iconst 1, 1) := by decide +kernel
theorem dX4_goOn_8 : decode cX4_goOn 8 = .ok (.goto 4, 3) := by decide +kernel
theorem dX4_goOn_11 : decode cX4_goOn 11 = .ok (.iconst (-1), 1) := by decide +kernel
theorem dX4_goOn_12 : decode cX4_goOn 12 = .ok (.istore_n 3, 1) := by decide +kernel
theorem dX4_goOn_13 : decode cX4_goOn 13 = .ok (.aload_n 1, 1) := by decide +kernel
theorem dX4_goOn_14 : decode cX4_goOn 14 = .ok (.aload_n 0, 1) := by decide +kernel
theorem dX4_goOn_15 : decode cX4_goOn 15 = .ok (.getfield 9, 3) := by decide +kernel
theorem dX4_goOn_18 : decode cX4_goOn 18 = .ok (.iload_n 3, 1) := by decide +kernel
theorem dX4_goOn_19 : decode cX4_goOn 19 = .ok (.aload_n 0, 1) := by decide +kernel
theorem dX4_goOn_20 : decode cX4_goOn 20 = .ok (.getfield 18, 3) := by decide +kernel
theorem dX4_goOn_23 : decode cX4_goOn 23 = .ok (.aload_n 0, 1) := by decide +kernel
theorem dX4_goOn_24 : decode cX4_goOn 24 = .ok (.getfield 21, 3) := by decide +kernel
theorem dX4_goOn_27 : decode cX4_goOn 27 = .ok (.invokevirtual 36, 3) := by decide +kernel
theorem dX4_goOn_30 : decode cX4_goOn 30 = .ok (.istore 4, 2) := by decide +kernel
theorem dX4_goOn_32 : decode cX4_goOn 32 = .ok (.iload 4, 2) := by decide +kernel
theorem dX4_goOn_34 : decode cX4_goOn 34 = .ok (.iconst (-1), 1) := by decide +kernel
theorem dX4_goOn_35 : decode cX4_goOn 35 = .ok (.if_icmp .ne 5, 3) := by decide +kernel
theorem dX4_goOn_38 : decode cX4_goOn 38 = .ok (.iconst 0, 1) := by decide +kernel
theorem dX4_goOn_39 : decode cX4_goOn 39 = .ok (.ireturn, 1) := by decide +kernel
theorem dX4_goOn_40 : decode cX4_goOn 40 = .ok (.iload 4, 2) := by decide +kernel
theorem dX4_goOn_42 : decode cX4_goOn 42 = .ok (.aload_n 0, 1) := by decide +kernel
theorem dX4_goOn_43 : decode cX4_goOn 43 = .ok (.getfield 18, 3) := by decide +kernel
theorem dX4_goOn_46 : decode cX4_goOn 46 = .ok (.invokestatic 42, 3) := by decide +kernel
theorem dX4_goOn_49 : decode cX4_goOn 49 = .ok (.istore 5, 2) := by decide +kernel
theorem dX4_goOn_51 : decode cX4_goOn 51 = .ok (.aload_n 0, 1) := by decide +kernel
theorem dX4_goOn_52 : decode cX4_goOn 52 = .ok (.getfield 9, 3) := by decide +kernel
theorem dX4_goOn_55 : decode cX4_goOn 55 = .ok (.iload_n 3, 1) := by decide +kernel
theorem dX4_goOn_56 : decode cX4_goOn 56 = .ok (.iload 5, 2) := by decide +kernel
theorem dX4_goOn_58 : decode cX4_goOn 58 = .ok (.imul, 1) := by decide +kernel
theorem dX4_goOn_59 : decode cX4_goOn 59 = .ok (.iadd, 1) := by decide +kernel
theorem dX4_goOn_60 : decode cX4_goOn 60 = .ok (.invokestatic 46, 3) := by decide +kernel
theorem dX4_goOn_63 : decode cX4_goOn 63 = .ok (.istore 6, 2) := by decide +kernel
theorem dX4_goOn_65 : decode cX4_goOn 65 = .ok (.aload_n 1, 1) := by decide +kernel
theorem dX4_goOn_66 : decode cX4_goOn 66 = .ok (.getfield 50, 3) := by decide +kernel
theorem dX4_goOn_69 : decode cX4_goOn 69 = .ok (.iconst 0, 1) := by decide +kernel
theorem dX4_goOn_70 : decode cX4_goOn 70 = .ok (.aaload, 1) := by decide +kernel
theorem dX4_goOn_71 : decode cX4_goOn 71 = .ok (.aload_n 0, 1) := by decide +kernel
theorem dX4_goOn_72 : decode cX4_goOn 72 = .ok (.getfield 9, 3) := by decide +kernel
theorem dX4_goOn_75 : decode cX4_goOn 75 = .ok (.iaload, 1) := by decide +kernel
theorem dX4_goOn_76 : decode cX4_goOn 76 = .ok (.aload_n 1, 1) := by decide +kernel
theorem dX4_goOn_77 : decode cX4_goOn 77 = .ok (.getfield 50, 3) := by decide +kernel
theorem dX4_goOn_80 : decode cX4_goOn 80 = .ok (.iconst 0, 1) := by decide +kernel
theorem dX4_goOn_81 : decode cX4_goOn 81 = .ok (.aaload, 1) := by decide +kernel
theorem dX4_goOn_82 : decode cX4_goOn 82 = .ok (.iload 6, 2) := by decide +kernel
theorem dX4_goOn_84 : decode cX4_goOn 84 = .ok (.iaload, 1) := by decide +kernel
theorem dX4_goOn_85 : decode cX4_goOn 85 = .ok (.iadd, 1) := by decide +kernel
theorem dX4_goOn_86 : decode cX4_goOn 86 = .ok (.istore 7, 2) := by decide +kernel
theorem dX4_goOn_88 : decode cX4_goOn 88 = .ok (.aload_n 0, 1) := by decide +kernel
theorem dX4_goOn_89 : decode cX4_goOn 89 = .ok (.getfield 27, 3) := by decide +kernel
theorem dX4_goOn_92 : decode cX4_goOn 92 = .ok (.ifCond .ne 7, 3) := by decide +kernel
theorem dX4_goOn_95 : decode cX4_goOn 95 = .ok (.iconst 0, 1) := by decide +kernel
theorem dX4_goOn_96 : decode cX4_goOn 96 = .ok (.goto 11, 3) := by decide +kernel
theorem dX4_goOn_99 : decode cX4_goOn 99 = .ok (.aload_n 2, 1) := by decide +kernel
theorem dX4_goOn_100 : decode cX4_goOn 100 = .ok (.aload_n 0, 1) := by decide +kernel
theorem dX4_goOn_101 : decode cX4_goOn 101 = .ok (.getfield 9, 3) := by decide +kernel
theorem dX4_goOn_104 : decode cX4_goOn 104 = .ok (.invokevirtual 54, 3) := by decide +kernel
theorem dX4_goOn_107 : decode cX4_goOn 107 = .ok (.istore 8, 2) := by decide +kernel
theorem dX4_goOn_109 : decode cX4_goOn 109 = .ok (.aload_n 0, 1) := by decide +kernel
theorem dX4_goOn_110 : decode cX4_goOn 110 = .ok (.dup, 1) := by decide +kernel
theorem dX4_goOn_111 : decode cX4_goOn 111 = .ok (.getfield 24, 3) := by decide +kernel
theorem dX4_goOn_114 : decode cX4_goOn 114 = .ok (.iload 8, 2) := by decide +kernel
theorem dX4_goOn_116 : decode cX4_goOn 116 = .ok (.iconst 2, 1) := by decide +kernel
theorem dX4_goOn_117 : decode cX4_goOn 117 = .ok (.iadd, 1) := by decide +kernel
theorem dX4_goOn_118 : decode cX4_goOn 118 = .ok (.iload 5, 2) := by decide +kernel
theorem dX4_goOn_120 : decode cX4_goOn 120 = .ok (.iadd, 1) := by decide +kernel
theorem dX4_goOn_121 : decode cX4_goOn 121 = .ok (.iload 7, 2) := by decide +kernel
theorem dX4_goOn_123 : decode cX4_goOn 123 = .ok (.bipush 40, 2) := by decide +kernel
theorem dX4_goOn_125 : decode cX4_goOn 125 = .ok (.imul, 1) := by decide +kernel
theorem dX4_goOn_126 : decode cX4_goOn 126 = .ok (.aload_n 0, 1) := by decide +kernel
theorem dX4_goOn_127 : decode cX4_goOn 127 = .ok (.getfield 21, 3) := by decide +kernel
theorem dX4_goOn_130 : decode cX4_goOn 130 = .ok (.idiv, 1) := by decide +kernel
theorem dX4_goOn_131 : decode cX4_goOn 131 = .ok (.iadd, 1) := by decide +kernel
theorem dX4_goOn_132 : decode cX4_goOn 132 = .ok (.isub, 1) := by decide +kernel
theorem dX4_goOn_133 : decode cX4_goOn 133 = .ok (.putfield 24, 3) := by decide +kernel
theorem dX4_goOn_136 : decode cX4_goOn 136 = .ok (.aload_n 0, 1) := by decide +kernel
theorem dX4_goOn_137 : decode cX4_goOn 137 = .ok (.getfield 24, 3) := by decide +kernel
theorem dX4_goOn_140 : decode cX4_goOn 140 = .ok (.ifCond .ge 5, 3) := by decide +kernel
theorem dX4_goOn_143 : decode cX4_goOn 143 = .ok (.iconst 0, 1) := by decide +kernel
theorem dX4_goOn_144 : decode cX4_goOn 144 = .ok (.ireturn, 1) := by decide +kernel
theorem dX4_goOn_145 : decode cX4_goOn 145 = .ok (.aload_n 0, 1) := by decide +kernel
theorem dX4_goOn_146 : decode cX4_goOn 146 = .ok (.iload 6, 2) := by decide +kernel
theorem dX4_goOn_148 : decode cX4_goOn 148 = .ok (.putfield 9, 3) := by decide +kernel
theorem dX4_goOn_151 : decode cX4_goOn 151 = .ok (.aload_n 0, 1) := by decide +kernel
theorem dX4_goOn_152 : decode cX4_goOn 152 = .ok (.dup, 1) := by decide +kernel
theorem dX4_goOn_153 : decode cX4_goOn 153 = .ok (.getfield 27, 3) := by decide +kernel
theorem dX4_goOn_156 : decode cX4_goOn 156 = .ok (.iconst 1, 1) := by decide +kernel
theorem dX4_goOn_157 : decode cX4_goOn 157 = .ok (.iadd, 1) := by decide +kernel
theorem dX4_goOn_158 : decode cX4_goOn 158 = .ok (.putfield 27, 3) := by decide +kernel
theorem dX4_goOn_161 : decode cX4_goOn 161 = .ok (.iload 4, 2) := by decide +kernel
theorem dX4_goOn_163 : decode cX4_goOn 163 = .ok (.iconst 1, 1) := by decide +kernel
theorem dX4_goOn_164 : decode cX4_goOn 164 = .ok (.if_icmp .ne 13, 3) := by decide +kernel
theorem dX4_goOn_167 : decode cX4_goOn 167 = .ok (.aload_n 0, 1) := by decide +kernel
theorem dX4_goOn_168 : decode cX4_goOn 168 = .ok (.dup, 1) := by decide +kernel
theorem dX4_goOn_169 : decode cX4_goOn 169 = .ok (.getfield 30, 3) := by decide +kernel
theorem dX4_goOn_172 : decode cX4_goOn 172 = .ok (.iconst 1, 1) := by decide +kernel
theorem dX4_goOn_173 : decode cX4_goOn 173 = .ok (.iadd, 1) := by decide +kernel
theorem dX4_goOn_174 : decode cX4_goOn 174 = .ok (.putfield 30, 3) := by decide +kernel
theorem dX4_goOn_177 : decode cX4_goOn 177 = .ok (.aload_n 0, 1) := by decide +kernel
theorem dX4_goOn_178 : decode cX4_goOn 178 = .ok (.dup, 1) := by decide +kernel
theorem dX4_goOn_179 : decode cX4_goOn 179 = .ok (.getfield 33, 3) := by decide +kernel
theorem dX4_goOn_182 : decode cX4_goOn 182 = .ok (.bipush 10, 2) := by decide +kernel
theorem dX4_goOn_184 : decode cX4_goOn 184 = .ok (.iload 5, 2) := by decide +kernel
theorem dX4_goOn_186 : decode cX4_goOn 186 = .ok (.imul, 1) := by decide +kernel
theorem dX4_goOn_187 : decode cX4_goOn 187 = .ok (.iload 4, 2) := by decide +kernel
theorem dX4_goOn_189 : decode cX4_goOn 189 = .ok (.iconst 1, 1) := by decide +kernel
theorem dX4_goOn_190 : decode cX4_goOn 190 = .ok (.if_icmp .ne 7, 3) := by decide +kernel
theorem dX4_goOn_193 : decode cX4_goOn 193 = .ok (.iconst 2, 1) := by decide +kernel
theorem dX4_goOn_194 : decode cX4_goOn 194 = .ok (.goto 4, 3) := by decide +kernel
theorem dX4_goOn_197 : decode cX4_goOn 197 = .ok (.iconst 5, 1) := by decide +kernel
theorem dX4_goOn_198 : decode cX4_goOn 198 = .ok (.iadd, 1) := by decide +kernel
theorem dX4_goOn_199 : decode cX4_goOn 199 = .ok (.iadd, 1) := by decide +kernel
theorem dX4_goOn_200 : decode cX4_goOn 200 = .ok (.putfield 33, 3) := by decide +kernel
theorem dX4_goOn_203 : decode cX4_goOn 203 = .ok (.iconst 1, 1) := by decide +kernel
theorem dX4_goOn_204 : decode cX4_goOn 204 = .ok (.ireturn, 1) := by decide +kernel
theorem dX4_tell_0 : decode cX4_tell 0 = .ok (.iload_n 1, 1) := by decide +kernel
theorem dX4_tell_1 : decode cX4_tell 1 = .ok (.tableswitch 60 0 4 #[35, 40, 45, 50, 55], 35) := by decide +kernel
theorem dX4_tell_36 : decode cX4_tell 36 = .ok (.aload_n 0, 1) := by decide +kernel
theorem dX4_tell_37 : decode cX4_tell 37 = .ok (.getfield 15, 3) := by decide +kernel
theorem dX4_tell_40 : decode cX4_tell 40 = .ok (.ireturn, 1) := by decide +kernel
theorem dX4_tell_41 : decode cX4_tell 41 = .ok (.aload_n 0, 1) := by decide +kernel
theorem dX4_tell_42 : decode cX4_tell 42 = .ok (.getfield 18, 3) := by decide +kernel
theorem dX4_tell_45 : decode cX4_tell 45 = .ok (.ireturn, 1) := by decide +kernel
theorem dX4_tell_46 : decode cX4_tell 46 = .ok (.aload_n 0, 1) := by decide +kernel
theorem dX4_tell_47 : decode cX4_tell 47 = .ok (.getfield 27, 3) := by decide +kernel
theorem dX4_tell_50 : decode cX4_tell 50 = .ok (.ireturn, 1) := by decide +kernel
theorem dX4_tell_51 : decode cX4_tell 51 = .ok (.aload_n 0, 1) := by decide +kernel
theorem dX4_tell_52 : decode cX4_tell 52 = .ok (.getfield 30, 3) := by decide +kernel
theorem dX4_tell_55 : decode cX4_tell 55 = .ok (.ireturn, 1) := by decide +kernel
theorem dX4_tell_56 : decode cX4_tell 56 = .ok (.aload_n 0, 1) := by decide +kernel
theorem dX4_tell_57 : decode cX4_tell 57 = .ok (.getfield 24, 3) := by decide +kernel
theorem dX4_tell_60 : decode cX4_tell 60 = .ok (.ireturn, 1) := by decide +kernel
theorem dX4_tell_61 : decode cX4_tell 61 = .ok (.aload_n 0, 1) := by decide +kernel
theorem dX4_tell_62 : decode cX4_tell 62 = .ok (.getfield 33, 3) := by decide +kernel
theorem dX4_tell_65 : decode cX4_tell 65 = .ok (.ireturn, 1) := by decide +kernel
theorem dX5_init_0 : decode cX5_init 0 = .ok (.aload_n 0, 1) := by decide +kernel
theorem dX5_init_1 : decode cX5_init 1 = .ok (.invokespecial 3, 3) := by decide +kernel
theorem dX5_init_4 : decode cX5_init 4 = .ok (.aload_n 0, 1) := by decide +kernel
theorem dX5_init_5 : decode cX5_init 5 = .ok (.iload_n 1, 1) := by decide +kernel
theorem dX5_init_6 : decode cX5_init 6 = .ok (.newarray .int, 2) := by decide +kernel
theorem dX5_init_8 : decode cX5_init 8 = .ok (.putfield 9, 3) := by decide +kernel
theorem dX5_init_11 : decode cX5_init 11 = .ok (.aload_n 0, 1) := by decide +kernel
theorem dX5_init_12 : decode cX5_init 12 = .ok (.iload_n 1, 1) := by decide +kernel
theorem dX5_init_13 : decode cX5_init 13 = .ok (.newarray .int, 2) := by decide +kernel
theorem dX5_init_15 : decode cX5_init 15 = .ok (.putfield 15, 3) := by decide +kernel
theorem dX5_init_18 : decode cX5_init 18 = .ok (.aload_n 0, 1) := by decide +kernel
theorem dX5_init_19 : decode cX5_init 19 = .ok (.iload_n 1, 1) := by decide +kernel
theorem dX5_init_20 : decode cX5_init 20 = .ok (.newarray .int, 2) := by decide +kernel
theorem dX5_init_22 : decode cX5_init 22 = .ok (.putfield 18, 3) := by decide +kernel
theorem dX5_init_25 : decode cX5_init 25 = .ok (.aload_n 0, 1) := by decide +kernel
theorem dX5_init_26 : decode cX5_init 26 = .ok (.iload_n 1, 1) := by decide +kernel
theorem dX5_init_27 : decode cX5_init 27 = .ok (.newarray .int, 2) := by decide +kernel
theorem dX5_init_29 : decode cX5_init 29 = .ok (.putfield 21, 3) := by decide +kernel
theorem dX5_init_32 : decode cX5_init 32 = .ok (.aload_n 0, 1) := by decide +kernel
theorem dX5_init_33 : decode cX5_init 33 = .ok (.iload_n 1, 1) := by decide +kernel
theorem dX5_init_34 : decode cX5_init 34 = .ok (.newarray .int, 2) := by decide +kernel
theorem dX5_init_36 : decode cX5_init 36 = .ok (.putfield 24, 3) := by decide +kernel
theorem dX5_init_39 : decode cX5_init 39 = .ok (.return_, 1) := by decide +kernel
theorem dX5_isFull_0 : decode cX5_isFull 0 = .ok (.aload_n 0, 1) := by decide +kernel
theorem dX5_isFull_1 : decode cX5_isFull 1 = .ok (.getfield 27, 3) := by decide +kernel
theorem dX5_isFull_4 : decode cX5_isFull 4 = .ok (.aload_n 0, 1) := by decide +kernel
theorem dX5_isFull_5 : decode cX5_isFull 5 = .ok (.getfield 9, 3) := by decide +kernel
theorem dX5_isFull_8 : decode cX5_isFull 8 = .ok (.arraylength, 1) := by decide +kernel
theorem dX5_isFull_9 : decode cX5_isFull 9 = .ok (.if_icmp .lt 7, 3) := by decide +kernel
theorem dX5_isFull_12 : decode cX5_isFull 12 = .ok (.iconst 1, 1) := by decide +kernel
theorem dX5_isFull_13 : decode cX5_isFull 13 = .ok (.goto 4, 3) := by decide +kernel
theorem dX5_isFull_16 : decode cX5_isFull 16 = .ok (.iconst 0, 1) := by decide +kernel
theorem dX5_isFull_17 : decode cX5_isFull 17 = .ok (.ireturn, 1) := by decide +kernel
theorem dX5_has_0 : decode cX5_has 0 = .ok (.iload_n 1, 1) := by decide +kernel
theorem dX5_has_1 : decode cX5_has 1 = .ok (.ifCond .lt 15, 3) := by decide +kernel
theorem dX5_has_4 : decode cX5_has 4 = .ok (.iload_n 1, 1) := by decide +kernel
theorem dX5_has_5 : decode cX5_has 5 = .ok (.aload_n 0, 1) := by decide +kernel
theorem dX5_has_6 : decode cX5_has 6 = .ok (.getfield 27, 3) := by decide +kernel
theorem dX5_has_9 : decode cX5_has 9 = .ok (.if_icmp .ge 7, 3) := by decide +kernel
theorem dX5_has_12 : decode cX5_has 12 = .ok (.iconst 1, 1) := by decide +kernel
theorem dX5_has_13 : decode cX5_has 13 = .ok (.goto 4, 3) := by decide +kernel
theorem dX5_has_16 : decode cX5_has 16 = .ok (.iconst 0, 1) := by decide +kernel
theorem dX5_has_17 : decode cX5_has 17 = .ok (.ireturn, 1) := by decide +kernel
theorem dX5_add_0 : decode cX5_add 0 = .ok (.aload_n 0, 1) := by decide +kernel
theorem dX5_add_1 : decode cX5_add 1 = .ok (.getfield 27, 3) := by decide +kernel
theorem dX5_add_4 : decode cX5_add 4 = .ok (.istore 6, 2) := by decide +kernel
theorem dX5_add_6 : decode cX5_add 6 = .ok (.aload_n 0, 1) := by decide +kernel
theorem dX5_add_7 : decode cX5_add 7 = .ok (.getfield 9, 3) := by decide +kernel
theorem dX5_add_10 : decode cX5_add 10 = .ok (.iload 6, 2) := by decide +kernel
theorem dX5_add_12 : decode cX5_add 12 = .ok (.iload_n 1, 1) := by decide +kernel
theorem dX5_add_13 : decode cX5_add 13 = .ok (.iastore, 1) := by decide +kernel
theorem dX5_add_14 : decode cX5_add 14 = .ok (.aload_n 0, 1) := by decide +kernel
theorem dX5_add_15 : decode cX5_add 15 = .ok (.getfield 15, 3) := by decide +kernel
theorem dX5_add_18 : decode cX5_add 18 = .ok (.iload 6, 2) := by decide +kernel
theorem dX5_add_20 : decode cX5_add 20 = .ok (.iload_n 2, 1) := by decide +kernel
theorem dX5_add_21 : decode cX5_add 21 = .ok (.iastore, 1) := by decide +kernel
theorem dX5_add_22 : decode cX5_add 22 = .ok (.aload_n 0, 1) := by decide +kernel
theorem dX5_add_23 : decode cX5_add 23 = .ok (.getfield 18, 3) := by decide +kernel
theorem dX5_add_26 : decode cX5_add 26 = .ok (.iload 6, 2) := by decide +kernel
theorem dX5_add_28 : decode cX5_add 28 = .ok (.iload_n 3, 1) := by decide +kernel
theorem dX5_add_29 : decode cX5_add 29 = .ok (.iastore, 1) := by decide +kernel
theorem dX5_add_30 : decode cX5_add 30 = .ok (.aload_n 0, 1) := by decide +kernel
theorem dX5_add_31 : decode cX5_add 31 = .ok (.getfield 21, 3) := by decide +kernel
theorem dX5_add_34 : decode cX5_add 34 = .ok (.iload 6, 2) := by decide +kernel
theorem dX5_add_36 : decode cX5_add 36 = .ok (.iload 4, 2) := by decide +kernel
theorem dX5_add_38 : decode cX5_add 38 = .ok (.iastore, 1) := by decide +kernel
theorem dX5_add_39 : decode cX5_add 39 = .ok (.aload_n 0, 1) := by decide +kernel
theorem dX5_add_40 : decode cX5_add 40 = .ok (.getfield 24, 3) := by decide +kernel
theorem dX5_add_43 : decode cX5_add 43 = .ok (.iload 6, 2) := by decide +kernel
theorem dX5_add_45 : decode cX5_add 45 = .ok (.iload 5, 2) := by decide +kernel
theorem dX5_add_47 : decode cX5_add 47 = .ok (.iastore, 1) := by decide +kernel
theorem dX5_add_48 : decode cX5_add 48 = .ok (.aload_n 0, 1) := by decide +kernel
theorem dX5_add_49 : decode cX5_add 49 = .ok (.dup, 1) := by decide +kernel
theorem dX5_add_50 : decode cX5_add 50 = .ok (.getfield 27, 3) := by decide +kernel
theorem dX5_add_53 : decode cX5_add 53 = .ok (.iconst 1, 1) := by decide +kernel
theorem dX5_add_54 : decode cX5_add 54 = .ok (.iadd, 1) := by decide +kernel
theorem dX5_add_55 : decode cX5_add 55 = .ok (.putfield 27, 3) := by decide +kernel
theorem dX5_add_58 : decode cX5_add 58 = .ok (.iload 6, 2) := by decide +kernel
theorem dX5_add_60 : decode cX5_add 60 = .ok (.ireturn, 1) := by decide +kernel
theorem dX5_strengthAtFirst_0 : decode cX5_strengthAtFirst 0 = .ok (.aload_n 0, 1) := by decide +kernel
theorem dX5_strengthAtFirst_1 : decode cX5_strengthAtFirst 1 = .ok (.getfield 15, 3) := by decide +kernel
theorem dX5_strengthAtFirst_4 : decode cX5_strengthAtFirst 4 = .ok (.iload_n 1, 1) := by decide +kernel
theorem dX5_strengthAtFirst_5 : decode cX5_strengthAtFirst 5 = .ok (.iaload, 1) := by decide +kernel
theorem dX5_strengthAtFirst_6 : decode cX5_strengthAtFirst 6 = .ok (.aload_n 0, 1) := by decide +kernel
theorem dX5_strengthAtFirst_7 : decode cX5_strengthAtFirst 7 = .ok (.getfield 18, 3) := by decide +kernel
theorem dX5_strengthAtFirst_10 : decode cX5_strengthAtFirst 10 = .ok (.iload_n 1, 1) := by decide +kernel
theorem dX5_strengthAtFirst_11 : decode cX5_strengthAtFirst 11 = .ok (.iaload, 1) := by decide +kernel
theorem dX5_strengthAtFirst_12 : decode cX5_strengthAtFirst 12 = .ok (.iload_n 3, 1) := by decide +kernel
theorem dX5_strengthAtFirst_13 : decode cX5_strengthAtFirst 13 = .ok (.invokestatic 31, 3) := by decide +kernel
theorem dX5_strengthAtFirst_16 : decode cX5_strengthAtFirst 16 = .ok (.iadd, 1) := by decide +kernel
theorem dX5_strengthAtFirst_17 : decode cX5_strengthAtFirst 17 = .ok (.aload_n 0, 1) := by decide +kernel
theorem dX5_strengthAtFirst_18 : decode cX5_strengthAtFirst 18 = .ok (.getfield 21, 3) := by decide +kernel
theorem dX5_strengthAtFirst_21 : decode cX5_strengthAtFirst 21 = .ok (.iload_n 1, 1) := by decide +kernel
theorem dX5_strengthAtFirst_22 : decode cX5_strengthAtFirst 22 = .ok (.iaload, 1) := by decide +kernel
theorem dX5_strengthAtFirst_23 : decode cX5_strengthAtFirst 23 = .ok (.iload_n 2, 1) := by decide +kernel
theorem dX5_strengthAtFirst_24 : decode cX5_strengthAtFirst 24 = .ok (.invokestatic 35, 3) := by decide +kernel
theorem dX5_strengthAtFirst_27 : decode cX5_strengthAtFirst 27 = .ok (.isub, 1) := by decide +kernel
theorem dX5_strengthAtFirst_28 : decode cX5_strengthAtFirst 28 = .ok (.ireturn, 1) := by decide +kernel
theorem dX5_gain_0 : decode cX5_gain 0 = .ok (.iload_n 0, 1) := by decide +kernel
theorem dX5_gain_1 : decode cX5_gain 1 = .ok (.lookupswitch 41 #[(0, 27), (1, 34)], 27) := by decide +kernel
theorem dX5_gain_28 : decode cX5_gain 28 = .ok (.bipush 10, 2) := by decide +kernel
theorem dX5_gain_30 : decode cX5_gain 30 = .ok (.iconst 2, 1) := by decide +kernel
theorem dX5_gain_31 : decode cX5_gain 31 = .ok (.iload_n 1, 1) := by decide +kernel
theorem dX5_gain_32 : decode cX5_gain 32 = .ok (.imul, 1) := by decide +kernel
theorem dX5_gain_33 : decode cX5_gain 33 = .ok (.isub, 1) := by decide +kernel
theorem dX5_gain_34 : decode cX5_gain 34 = .ok (.ireturn, 1) := by decide +kernel
theorem dX5_gain_35 : decode cX5_gain 35 = .ok (.iconst 2, 1) := by decide +kernel
theorem dX5_gain_36 : decode cX5_gain 36 = .ok (.iload_n 1, 1) := by decide +kernel
theorem dX5_gain_37 : decode cX5_gain 37 = .ok (.imul, 1) := by decide +kernel
theorem dX5_gain_38 : decode cX5_gain 38 = .ok (.bipush 10, 2) := by decide +kernel
theorem dX5_gain_40 : decode cX5_gain 40 = .ok (.isub, 1) := by decide +kernel
theorem dX5_gain_41 : decode cX5_gain 41 = .ok (.ireturn, 1) := by decide +kernel
theorem dX5_gain_42 : decode cX5_gain 42 = .ok (.iconst 0, 1) := by decide +kernel
theorem dX5_gain_43 : decode cX5_gain 43 = .ok (.ireturn, 1) := by decide +kernel
theorem dX5_aside_0 : decode cX5_aside 0 = .ok (.iload_n 0, 1) := by decide +kernel
theorem dX5_aside_1 : decode cX5_aside 1 = .ok (.iconst 2, 1) := by decide +kernel
theorem dX5_aside_2 : decode cX5_aside 2 = .ok (.if_icmp .ne 5, 3) := by decide +kernel
theorem dX5_aside_5 : decode cX5_aside 5 = .ok (.iconst 3, 1) := by decide +kernel
theorem dX5_aside_6 : decode cX5_aside 6 = .ok (.ireturn, 1) := by decide +kernel
theorem dX5_aside_7 : decode cX5_aside 7 = .ok (.iload_n 0, 1) := by decide +kernel
theorem dX5_aside_8 : decode cX5_aside 8 = .ok (.iload_n 1, 1) := by decide +kernel
theorem dX5_aside_9 : decode cX5_aside 9 = .ok (.if_icmp .ne 7, 3) := by decide +kernel
theorem dX5_aside_12 : decode cX5_aside 12 = .ok (.iconst 0, 1) := by decide +kernel
theorem dX5_aside_13 : decode cX5_aside 13 = .ok (.goto 5, 3) := by decide +kernel
theorem dX5_aside_16 : decode cX5_aside 16 = .ok (.bipush 20, 2) := by decide +kernel
theorem dX5_aside_18 : decode cX5_aside 18 = .ok (.ireturn, 1) := by decide +kernel
theorem dX6_init_0 : decode cX6_init 0 = .ok (.aload_n 0, 1) := by decide +kernel
theorem dX6_init_1 : decode cX6_init 1 = .ok (.invokespecial 3, 3) := by decide +kernel
theorem dX6_init_4 : decode cX6_init 4 = .ok (.aload_n 0, 1) := by decide +kernel
theorem dX6_init_5 : decode cX6_init 5 = .ok (.new 9, 3) := by decide +kernel
theorem dX6_init_8 : decode cX6_init 8 = .ok (.dup, 1) := by decide +kernel
theorem dX6_init_9 : decode cX6_init 9 = .ok (.invokespecial 11, 3) := by decide +kernel
theorem dX6_init_12 : decode cX6_init 12 = .ok (.putfield 12, 3) := by decide +kernel
theorem dX6_init_15 : decode cX6_init 15 = .ok (.aload_n 0, 1) := by decide +kernel
theorem dX6_init_16 : decode cX6_init 16 = .ok (.new 9, 3) := by decide +kernel
theorem dX6_init_19 : decode cX6_init 19 = .ok (.dup, 1) := by decide +kernel
theorem dX6_init_20 : decode cX6_init 20 = .ok (.invokespecial 11, 3) := by decide +kernel
theorem dX6_init_23 : decode cX6_init 23 = .ok (.putfield 16, 3) := by decide +kernel
theorem dX6_init_26 : decode cX6_init 26 = .ok (.aload_n 0, 1) := by decide +kernel
theorem dX6_init_27 : decode cX6_init 27 = .ok (.new 19, 3) := by decide +kernel
theorem dX6_init_30 : decode cX6_init 30 = .ok (.dup, 1) := by decide +kernel
theorem dX6_init_31 : decode cX6_init 31 = .ok (.invokespecial 21, 3) := by decide +kernel
theorem dX6_init_34 : decode cX6_init 34 = .ok (.putfield 22, 3) := by decide +kernel
theorem dX6_init_37 : decode cX6_init 37 = .ok (.aload_n 0, 1) := by decide +kernel
theorem dX6_init_38 : decode cX6_init 38 = .ok (.new 26, 3) := by decide +kernel
theorem dX6_init_41 : decode cX6_init 41 = .ok (.dup, 1) := by decide +kernel
theorem dX6_init_42 : decode cX6_init 42 = .ok (.invokespecial 28, 3) := by decide +kernel
theorem dX6_init_45 : decode cX6_init 45 = .ok (.putfield 29, 3) := by decide +kernel
theorem dX6_init_48 : decode cX6_init 48 = .ok (.aload_n 0, 1) := by decide +kernel
theorem dX6_init_49 : decode cX6_init 49 = .ok (.new 33, 3) := by decide +kernel
theorem dX6_init_52 : decode cX6_init 52 = .ok (.dup, 1) := by decide +kernel
theorem dX6_init_53 : decode cX6_init 53 = .ok (.bipush 12, 2) := by decide +kernel
theorem dX6_init_55 : decode cX6_init 55 = .ok (.invokespecial 35, 3) := by decide +kernel
