theorem dX6_init_58 : decode cX6_init 58 = .ok (.putfield 38, 3) := by decide +kernel
theorem dX6_init_61 : decode cX6_init 61 = .ok (.aload_n 0, 1) := by decide +kernel
theorem dX6_init_62 : decode cX6_init 62 = .ok (.new 33, 3) := by decide +kernel
theorem dX6_init_65 : decode cX6_init 65 = .ok (.dup, 1) := by decide +kernel
theorem dX6_init_66 : decode cX6_init 66 = .ok (.bipush 6, 2) := by decide +kernel
theorem dX6_init_68 : decode cX6_init 68 = .ok (.invokespecial 35, 3) := by decide +kernel
theorem dX6_init_71 : decode cX6_init 71 = .ok (.putfield 42, 3) := by decide +kernel
theorem dX6_init_74 : decode cX6_init 74 = .ok (.aload_n 0, 1) := by decide +kernel
theorem dX6_init_75 : decode cX6_init 75 = .ok (.new 45, 3) := by decide +kernel
theorem dX6_init_78 : decode cX6_init 78 = .ok (.dup, 1) := by decide +kernel
theorem dX6_init_79 : decode cX6_init 79 = .ok (.invokespecial 47, 3) := by decide +kernel
theorem dX6_init_82 : decode cX6_init 82 = .ok (.putfield 48, 3) := by decide +kernel
theorem dX6_init_85 : decode cX6_init 85 = .ok (.aload_n 0, 1) := by decide +kernel
theorem dX6_init_86 : decode cX6_init 86 = .ok (.new 52, 3) := by decide +kernel
theorem dX6_init_89 : decode cX6_init 89 = .ok (.dup, 1) := by decide +kernel
theorem dX6_init_90 : decode cX6_init 90 = .ok (.invokespecial 54, 3) := by decide +kernel
theorem dX6_init_93 : decode cX6_init 93 = .ok (.putfield 55, 3) := by decide +kernel
theorem dX6_init_96 : decode cX6_init 96 = .ok (.return_, 1) := by decide +kernel
theorem dX6_sun_0 : decode cX6_sun 0 = .ok (.iload_n 1, 1) := by decide +kernel
theorem dX6_sun_1 : decode cX6_sun 1 = .ok (.iconst 0, 1) := by decide +kernel
theorem dX6_sun_2 : decode cX6_sun 2 = .ok (.bipush 100, 2) := by decide +kernel
theorem dX6_sun_4 : decode cX6_sun 4 = .ok (.invokestatic 59, 3) := by decide +kernel
theorem dX6_sun_7 : decode cX6_sun 7 = .ok (.aload_n 0, 1) := by decide +kernel
theorem dX6_sun_8 : decode cX6_sun 8 = .ok (.getfield 12, 3) := by decide +kernel
theorem dX6_sun_11 : decode cX6_sun 11 = .ok (.getfield 63, 3) := by decide +kernel
theorem dX6_sun_14 : decode cX6_sun 14 = .ok (.istore_n 2, 1) := by decide +kernel
theorem dX6_sun_15 : decode cX6_sun 15 = .ok (.aload_n 0, 1) := by decide +kernel
theorem dX6_sun_16 : decode cX6_sun 16 = .ok (.getfield 12, 3) := by decide +kernel
theorem dX6_sun_19 : decode cX6_sun 19 = .ok (.iload_n 1, 1) := by decide +kernel
theorem dX6_sun_20 : decode cX6_sun 20 = .ok (.invokevirtual 67, 3) := by decide +kernel
theorem dX6_sun_23 : decode cX6_sun 23 = .ok (.aload_n 0, 1) := by decide +kernel
theorem dX6_sun_24 : decode cX6_sun 24 = .ok (.getfield 16, 3) := by decide +kernel
theorem dX6_sun_27 : decode cX6_sun 27 = .ok (.iload_n 1, 1) := by decide +kernel
theorem dX6_sun_28 : decode cX6_sun 28 = .ok (.invokevirtual 67, 3) := by decide +kernel
theorem dX6_sun_31 : decode cX6_sun 31 = .ok (.iload_n 2, 1) := by decide +kernel
theorem dX6_sun_32 : decode cX6_sun 32 = .ok (.ireturn, 1) := by decide +kernel
theorem dX6_storm_0 : decode cX6_storm 0 = .ok (.iload_n 1, 1) := by decide +kernel
theorem dX6_storm_1 : decode cX6_storm 1 = .ok (.iconst 1, 1) := by decide +kernel
theorem dX6_storm_2 : decode cX6_storm 2 = .ok (.bipush 60, 2) := by decide +kernel
theorem dX6_storm_4 : decode cX6_storm 4 = .ok (.invokestatic 59, 3) := by decide +kernel
theorem dX6_storm_7 : decode cX6_storm 7 = .ok (.iload_n 2, 1) := by decide +kernel
theorem dX6_storm_8 : decode cX6_storm 8 = .ok (.iconst 1, 1) := by decide +kernel
theorem dX6_storm_9 : decode cX6_storm 9 = .ok (.bipush 72, 2) := by decide +kernel
theorem dX6_storm_11 : decode cX6_storm 11 = .ok (.invokestatic 59, 3) := by decide +kernel
theorem dX6_storm_14 : decode cX6_storm 14 = .ok (.aload_n 0, 1) := by decide +kernel
theorem dX6_storm_15 : decode cX6_storm 15 = .ok (.getfield 12, 3) := by decide +kernel
theorem dX6_storm_18 : decode cX6_storm 18 = .ok (.iload_n 1, 1) := by decide +kernel
theorem dX6_storm_19 : decode cX6_storm 19 = .ok (.iload_n 2, 1) := by decide +kernel
theorem dX6_storm_20 : decode cX6_storm 20 = .ok (.invokevirtual 70, 3) := by decide +kernel
theorem dX6_storm_23 : decode cX6_storm 23 = .ok (.return_, 1) := by decide +kernel
theorem dX6_flare_0 : decode cX6_flare 0 = .ok (.iload_n 1, 1) := by decide +kernel
theorem dX6_flare_1 : decode cX6_flare 1 = .ok (.iconst 1, 1) := by decide +kernel
theorem dX6_flare_2 : decode cX6_flare 2 = .ok (.bipush 80, 2) := by decide +kernel
theorem dX6_flare_4 : decode cX6_flare 4 = .ok (.invokestatic 59, 3) := by decide +kernel
theorem dX6_flare_7 : decode cX6_flare 7 = .ok (.aload_n 0, 1) := by decide +kernel
theorem dX6_flare_8 : decode cX6_flare 8 = .ok (.getfield 12, 3) := by decide +kernel
theorem dX6_flare_11 : decode cX6_flare 11 = .ok (.getfield 74, 3) := by decide +kernel
theorem dX6_flare_14 : decode cX6_flare 14 = .ok (.istore_n 2, 1) := by decide +kernel
theorem dX6_flare_15 : decode cX6_flare 15 = .ok (.aload_n 0, 1) := by decide +kernel
theorem dX6_flare_16 : decode cX6_flare 16 = .ok (.getfield 12, 3) := by decide +kernel
theorem dX6_flare_19 : decode cX6_flare 19 = .ok (.iload_n 1, 1) := by decide +kernel
theorem dX6_flare_20 : decode cX6_flare 20 = .ok (.invokevirtual 77, 3) := by decide +kernel
theorem dX6_flare_23 : decode cX6_flare 23 = .ok (.iload_n 2, 1) := by decide +kernel
theorem dX6_flare_24 : decode cX6_flare 24 = .ok (.ireturn, 1) := by decide +kernel
theorem dX6_cloud_0 : decode cX6_cloud 0 = .ok (.iload_n 1, 1) := by decide +kernel
theorem dX6_cloud_1 : decode cX6_cloud 1 = .ok (.invokestatic 80, 3) := by decide +kernel
theorem dX6_cloud_4 : decode cX6_cloud 4 = .ok (.iload_n 2, 1) := by decide +kernel
theorem dX6_cloud_5 : decode cX6_cloud 5 = .ok (.iconst 1, 1) := by decide +kernel
theorem dX6_cloud_6 : decode cX6_cloud 6 = .ok (.bipush 100, 2) := by decide +kernel
theorem dX6_cloud_8 : decode cX6_cloud 8 = .ok (.invokestatic 59, 3) := by decide +kernel
theorem dX6_cloud_11 : decode cX6_cloud 11 = .ok (.iload_n 3, 1) := by decide +kernel
theorem dX6_cloud_12 : decode cX6_cloud 12 = .ok (.iconst 1, 1) := by decide +kernel
theorem dX6_cloud_13 : decode cX6_cloud 13 = .ok (.bipush 24, 2) := by decide +kernel
theorem dX6_cloud_15 : decode cX6_cloud 15 = .ok (.invokestatic 59, 3) := by decide +kernel
theorem dX6_cloud_18 : decode cX6_cloud 18 = .ok (.aload_n 0, 1) := by decide +kernel
theorem dX6_cloud_19 : decode cX6_cloud 19 = .ok (.getfield 12, 3) := by decide +kernel
theorem dX6_cloud_22 : decode cX6_cloud 22 = .ok (.iload_n 1, 1) := by decide +kernel
theorem dX6_cloud_23 : decode cX6_cloud 23 = .ok (.iload_n 2, 1) := by decide +kernel
theorem dX6_cloud_24 : decode cX6_cloud 24 = .ok (.iload_n 3, 1) := by decide +kernel
theorem dX6_cloud_25 : decode cX6_cloud 25 = .ok (.invokevirtual 83, 3) := by decide +kernel
theorem dX6_cloud_28 : decode cX6_cloud 28 = .ok (.return_, 1) := by decide +kernel
theorem dX6_sea_0 : decode cX6_sea 0 = .ok (.iload_n 1, 1) := by decide +kernel
theorem dX6_sea_1 : decode cX6_sea 1 = .ok (.invokestatic 80, 3) := by decide +kernel
theorem dX6_sea_4 : decode cX6_sea 4 = .ok (.aload_n 0, 1) := by decide +kernel
theorem dX6_sea_5 : decode cX6_sea 5 = .ok (.getfield 22, 3) := by decide +kernel
theorem dX6_sea_8 : decode cX6_sea 8 = .ok (.getfield 86, 3) := by decide +kernel
theorem dX6_sea_11 : decode cX6_sea 11 = .ok (.iload_n 1, 1) := by decide +kernel
theorem dX6_sea_12 : decode cX6_sea 12 = .ok (.baload, 1) := by decide +kernel
theorem dX6_sea_13 : decode cX6_sea 13 = .ok (.istore_n 3, 1) := by decide +kernel
theorem dX6_sea_14 : decode cX6_sea 14 = .ok (.aload_n 0, 1) := by decide +kernel
theorem dX6_sea_15 : decode cX6_sea 15 = .ok (.getfield 22, 3) := by decide +kernel
theorem dX6_sea_18 : decode cX6_sea 18 = .ok (.getfield 86, 3) := by decide +kernel
theorem dX6_sea_21 : decode cX6_sea 21 = .ok (.iload_n 1, 1) := by decide +kernel
theorem dX6_sea_22 : decode cX6_sea 22 = .ok (.iload_n 2, 1) := by decide +kernel
theorem dX6_sea_23 : decode cX6_sea 23 = .ok (.bastore, 1) := by decide +kernel
theorem dX6_sea_24 : decode cX6_sea 24 = .ok (.iload_n 3, 1) := by decide +kernel
theorem dX6_sea_25 : decode cX6_sea 25 = .ok (.ireturn, 1) := by decide +kernel
theorem dX6_noise_0 : decode cX6_noise 0 = .ok (.iload_n 1, 1) := by decide +kernel
theorem dX6_noise_1 : decode cX6_noise 1 = .ok (.invokestatic 80, 3) := by decide +kernel
theorem dX6_noise_4 : decode cX6_noise 4 = .ok (.iload_n 2, 1) := by decide +kernel
theorem dX6_noise_5 : decode cX6_noise 5 = .ok (.iconst 0, 1) := by decide +kernel
theorem dX6_noise_6 : decode cX6_noise 6 = .ok (.bipush 40, 2) := by decide +kernel
theorem dX6_noise_8 : decode cX6_noise 8 = .ok (.invokestatic 59, 3) := by decide +kernel
theorem dX6_noise_11 : decode cX6_noise 11 = .ok (.aload_n 0, 1) := by decide +kernel
theorem dX6_noise_12 : decode cX6_noise 12 = .ok (.getfield 22, 3) := by decide +kernel
theorem dX6_noise_15 : decode cX6_noise 15 = .ok (.getfield 90, 3) := by decide +kernel
theorem dX6_noise_18 : decode cX6_noise 18 = .ok (.iload_n 1, 1) := by decide +kernel
theorem dX6_noise_19 : decode cX6_noise 19 = .ok (.iaload, 1) := by decide +kernel
theorem dX6_noise_20 : decode cX6_noise 20 = .ok (.istore_n 3, 1) := by decide +kernel
theorem dX6_noise_21 : decode cX6_noise 21 = .ok (.aload_n 0, 1) := by decide +kernel
theorem dX6_noise_22 : decode cX6_noise 22 = .ok (.getfield 22, 3) := by decide +kernel
theorem dX6_noise_25 : decode cX6_noise 25 = .ok (.getfield 90, 3) := by decide +kernel
theorem dX6_noise_28 : decode cX6_noise 28 = .ok (.iload_n 1, 1) := by decide +kernel
theorem dX6_noise_29 : decode cX6_noise 29 = .ok (.iload_n 2, 1) := by decide +kernel
theorem dX6_noise_30 : decode cX6_noise 30 = .ok (.iastore, 1) := by decide +kernel
theorem dX6_noise_31 : decode cX6_noise 31 = .ok (.iload_n 3, 1) := by decide +kernel
theorem dX6_noise_32 : decode cX6_noise 32 = .ok (.ireturn, 1) := by decide +kernel
theorem dX6_pass_0 : decode cX6_pass 0 = .ok (.iload_n 1, 1) := by decide +kernel
theorem dX6_pass_1 : decode cX6_pass 1 = .ok (.iconst 1, 1) := by decide +kernel
theorem dX6_pass_2 : decode cX6_pass 2 = .ok (.bipush 48, 2) := by decide +kernel
theorem dX6_pass_4 : decode cX6_pass 4 = .ok (.invokestatic 59, 3) := by decide +kernel
theorem dX6_pass_7 : decode cX6_pass 7 = .ok (.aload_n 0, 1) := by decide +kernel
theorem dX6_pass_8 : decode cX6_pass 8 = .ok (.getfield 12, 3) := by decide +kernel
theorem dX6_pass_11 : decode cX6_pass 11 = .ok (.getfield 94, 3) := by decide +kernel
theorem dX6_pass_14 : decode cX6_pass 14 = .ok (.iload_n 1, 1) := by decide +kernel
theorem dX6_pass_15 : decode cX6_pass 15 = .ok (.iadd, 1) := by decide +kernel
theorem dX6_pass_16 : decode cX6_pass 16 = .ok (.sipush 5000, 3) := by decide +kernel
theorem dX6_pass_19 : decode cX6_pass 19 = .ok (.if_icmp .le 13, 3) := by decide +kernel
theorem dX6_pass_22 : decode cX6_pass 22 = .ok (.new 97, 3) := by decide +kernel
theorem dX6_pass_25 : decode cX6_pass 25 = .ok (.dup, 1) := by decide +kernel
theorem dX6_pass_26 : decode cX6_pass 26 = .ok (.ldc 99, 2) := by decide +kernel
theorem dX6_pass_28 : decode cX6_pass 28 = .ok (.invokespecial 101, 3) := by decide +kernel
theorem dX6_pass_31 : decode cX6_pass 31 = .ok (.athrow, 1) := by decide +kernel
theorem dX6_pass_32 : decode cX6_pass 32 = .ok (.aload_n 0, 1) := by decide +kernel
theorem dX6_pass_33 : decode cX6_pass 33 = .ok (.getfield 12, 3) := by decide +kernel
theorem dX6_pass_36 : decode cX6_pass 36 = .ok (.iload_n 1, 1) := by decide +kernel
theorem dX6_pass_37 : decode cX6_pass 37 = .ok (.invokevirtual 104, 3) := by decide +kernel
theorem dX6_pass_40 : decode cX6_pass 40 = .ok (.aload_n 0, 1) := by decide +kernel
theorem dX6_pass_41 : decode cX6_pass 41 = .ok (.getfield 16, 3) := by decide +kernel
theorem dX6_pass_44 : decode cX6_pass 44 = .ok (.iload_n 1, 1) := by decide +kernel
theorem dX6_pass_45 : decode cX6_pass 45 = .ok (.invokevirtual 104, 3) := by decide +kernel
theorem dX6_pass_48 : decode cX6_pass 48 = .ok (.aload_n 0, 1) := by decide +kernel
theorem dX6_pass_49 : decode cX6_pass 49 = .ok (.getfield 12, 3) := by decide +kernel
theorem dX6_pass_52 : decode cX6_pass 52 = .ok (.getfield 94, 3) := by decide +kernel
theorem dX6_pass_55 : decode cX6_pass 55 = .ok (.ireturn, 1) := by decide +kernel
theorem dX6_station_0 : decode cX6_station 0 = .ok (.iload_n 1, 1) := by decide +kernel
theorem dX6_station_1 : decode cX6_station 1 = .ok (.invokestatic 80, 3) := by decide +kernel
theorem dX6_station_4 : decode cX6_station 4 = .ok (.iload_n 2, 1) := by decide +kernel
theorem dX6_station_5 : decode cX6_station 5 = .ok (.iconst 1, 1) := by decide +kernel
theorem dX6_station_6 : decode cX6_station 6 = .ok (.bipush 80, 2) := by decide +kernel
theorem dX6_station_8 : decode cX6_station 8 = .ok (.invokestatic 59, 3) := by decide +kernel
theorem dX6_station_11 : decode cX6_station 11 = .ok (.iload_n 3, 1) := by decide +kernel
theorem dX6_station_12 : decode cX6_station 12 = .ok (.iconst 0, 1) := by decide +kernel
theorem dX6_station_13 : decode cX6_station 13 = .ok (.iconst 2, 1) := by decide +kernel
theorem dX6_station_14 : decode cX6_station 14 = .ok (.invokestatic 59, 3) := by decide +kernel
theorem dX6_station_17 : decode cX6_station 17 = .ok (.iload 4, 2) := by decide +kernel
theorem dX6_station_19 : decode cX6_station 19 = .ok (.iconst 0, 1) := by decide +kernel
theorem dX6_station_20 : decode cX6_station 20 = .ok (.iconst 2, 1) := by decide +kernel
theorem dX6_station_21 : decode cX6_station 21 = .ok (.invokestatic 59, 3) := by decide +kernel
theorem dX6_station_24 : decode cX6_station 24 = .ok (.aload_n 0, 1) := by decide +kernel
theorem dX6_station_25 : decode cX6_station 25 = .ok (.getfield 38, 3) := by decide +kernel
theorem dX6_station_28 : decode cX6_station 28 = .ok (.invokevirtual 107, 3) := by decide +kernel
theorem dX6_station_31 : decode cX6_station 31 = .ok (.ifCond .eq 13, 3) := by decide +kernel
theorem dX6_station_34 : decode cX6_station 34 = .ok (.new 97, 3) := by decide +kernel
theorem dX6_station_37 : decode cX6_station 37 = .ok (.dup, 1) := by decide +kernel
theorem dX6_station_38 : decode cX6_station 38 = .ok (.ldc 111, 2) := by decide +kernel
theorem dX6_station_40 : decode cX6_station 40 = .ok (.invokespecial 101, 3) := by decide +kernel
theorem dX6_station_43 : decode cX6_station 43 = .ok (.athrow, 1) := by decide +kernel
theorem dX6_station_44 : decode cX6_station 44 = .ok (.aload_n 0, 1) := by decide +kernel
theorem dX6_station_45 : decode cX6_station 45 = .ok (.getfield 38, 3) := by decide +kernel
theorem dX6_station_48 : decode cX6_station 48 = .ok (.iload_n 1, 1) := by decide +kernel
theorem dX6_station_49 : decode cX6_station 49 = .ok (.iload_n 2, 1) := by decide +kernel
theorem dX6_station_50 : decode cX6_station 50 = .ok (.iload_n 3, 1) := by decide +kernel
theorem dX6_station_51 : decode cX6_station 51 = .ok (.iload 4, 2) := by decide +kernel
theorem dX6_station_53 : decode cX6_station 53 = .ok (.iconst (-1), 1) := by decide +kernel
theorem dX6_station_54 : decode cX6_station 54 = .ok (.invokevirtual 113, 3) := by decide +kernel
theorem dX6_station_57 : decode cX6_station 57 = .ok (.ireturn, 1) := by decide +kernel
theorem dX6_beacon_0 : decode cX6_beacon 0 = .ok (.iload_n 1, 1) := by decide +kernel
theorem dX6_beacon_1 : decode cX6_beacon 1 = .ok (.invokestatic 80, 3) := by decide +kernel
theorem dX6_beacon_4 : decode cX6_beacon 4 = .ok (.iload_n 2, 1) := by decide +kernel
theorem dX6_beacon_5 : decode cX6_beacon 5 = .ok (.invokestatic 117, 3) := by decide +kernel
theorem dX6_beacon_8 : decode cX6_beacon 8 = .ok (.iload_n 3, 1) := by decide +kernel
theorem dX6_beacon_9 : decode cX6_beacon 9 = .ok (.iconst 1, 1) := by decide +kernel
theorem dX6_beacon_10 : decode cX6_beacon 10 = .ok (.bipush 80, 2) := by decide +kernel
theorem dX6_beacon_12 : decode cX6_beacon 12 = .ok (.invokestatic 59, 3) := by decide +kernel
theorem dX6_beacon_15 : decode cX6_beacon 15 = .ok (.aload_n 0, 1) := by decide +kernel
theorem dX6_beacon_16 : decode cX6_beacon 16 = .ok (.getfield 42, 3) := by decide +kernel
theorem dX6_beacon_19 : decode cX6_beacon 19 = .ok (.invokevirtual 107, 3) := by decide +kernel
theorem dX6_beacon_22 : decode cX6_beacon 22 = .ok (.ifCond .eq 13, 3) := by decide +kernel
theorem dX6_beacon_25 : decode cX6_beacon 25 = .ok (.new 97, 3) := by decide +kernel
theorem dX6_beacon_28 : decode cX6_beacon 28 = .ok (.dup, 1) := by decide +kernel
theorem dX6_beacon_29 : decode cX6_beacon 29 = .ok (.ldc 120, 2) := by decide +kernel
theorem dX6_beacon_31 : decode cX6_beacon 31 = .ok (.invokespecial 101, 3) := by decide +kernel
theorem dX6_beacon_34 : decode cX6_beacon 34 = .ok (.athrow, 1) := by decide +kernel
theorem dX6_beacon_35 : decode cX6_beacon 35 = .ok (.aload_n 0, 1) := by decide +kernel
theorem dX6_beacon_36 : decode cX6_beacon 36 = .ok (.getfield 42, 3) := by decide +kernel
theorem dX6_beacon_39 : decode cX6_beacon 39 = .ok (.iload_n 1, 1) := by decide +kernel
theorem dX6_beacon_40 : decode cX6_beacon 40 = .ok (.iload_n 3, 1) := by decide +kernel
theorem dX6_beacon_41 : decode cX6_beacon 41 = .ok (.iconst 2, 1) := by decide +kernel
theorem dX6_beacon_42 : decode cX6_beacon 42 = .ok (.iconst 2, 1) := by decide +kernel
theorem dX6_beacon_43 : decode cX6_beacon 43 = .ok (.iload_n 2, 1) := by decide +kernel
theorem dX6_beacon_44 : decode cX6_beacon 44 = .ok (.invokevirtual 113, 3) := by decide +kernel
theorem dX6_beacon_47 : decode cX6_beacon 47 = .ok (.ireturn, 1) := by decide +kernel
theorem dX6_call_0 : decode cX6_call 0 = .ok (.aload_n 0, 1) := by decide +kernel
theorem dX6_call_1 : decode cX6_call 1 = .ok (.iload_n 1, 1) := by decide +kernel
theorem dX6_call_2 : decode cX6_call 2 = .ok (.invokevirtual 122, 3) := by decide +kernel
theorem dX6_call_5 : decode cX6_call 5 = .ok (.aload_n 0, 1) := by decide +kernel
theorem dX6_call_6 : decode cX6_call 6 = .ok (.iload_n 2, 1) := by decide +kernel
theorem dX6_call_7 : decode cX6_call 7 = .ok (.invokevirtual 122, 3) := by decide +kernel
theorem dX6_call_10 : decode cX6_call 10 = .ok (.iload_n 3, 1) := by decide +kernel
theorem dX6_call_11 : decode cX6_call 11 = .ok (.invokestatic 117, 3) := by decide +kernel
theorem dX6_call_14 : decode cX6_call 14 = .ok (.iload 4, 2) := by decide +kernel
theorem dX6_call_16 : decode cX6_call 16 = .ok (.iconst 0, 1) := by decide +kernel
theorem dX6_call_17 : decode cX6_call 17 = .ok (.iconst 2, 1) := by decide +kernel
theorem dX6_call_18 : decode cX6_call 18 = .ok (.invokestatic 59, 3) := by decide +kernel
theorem dX6_call_21 : decode cX6_call 21 = .ok (.iload_n 1, 1) := by decide +kernel
theorem dX6_call_22 : decode cX6_call 22 = .ok (.iload_n 2, 1) := by decide +kernel
theorem dX6_call_23 : decode cX6_call 23 = .ok (.invokestatic 125, 3) := by decide +kernel
theorem dX6_call_26 : decode cX6_call 26 = .ok (.aload_n 0, 1) := by decide +kernel
theorem dX6_call_27 : decode cX6_call 27 = .ok (.getfield 48, 3) := by decide +kernel
theorem dX6_call_30 : decode cX6_call 30 = .ok (.invokevirtual 128, 3) := by decide +kernel
theorem dX6_call_33 : decode cX6_call 33 = .ok (.ifCond .eq 13, 3) := by decide +kernel
theorem dX6_call_36 : decode cX6_call 36 = .ok (.new 97, 3) := by decide +kernel
theorem dX6_call_39 : decode cX6_call 39 = .ok (.dup, 1) := by decide +kernel
theorem dX6_call_40 : decode cX6_call 40 = .ok (.ldc 129, 2) := by decide +kernel
theorem dX6_call_42 : decode cX6_call 42 = .ok (.invokespecial 101, 3) := by decide +kernel
theorem dX6_call_45 : decode cX6_call 45 = .ok (.athrow, 1) := by decide +kernel
theorem dX6_call_46 : decode cX6_call 46 = .ok (.iload 4, 2) := by decide +kernel
theorem dX6_call_48 : decode cX6_call 48 = .ok (.invokestatic 131, 3) := by decide +kernel
theorem dX6_call_51 : decode cX6_call 51 = .ok (.istore 5, 2) := by decide +kernel
theorem dX6_call_53 : decode cX6_call 53 = .ok (.aload_n 0, 1) := by decide +kernel
theorem dX6_call_54 : decode cX6_call 54 = .ok (.iload_n 1, 1) := by decide +kernel
theorem dX6_call_55 : decode cX6_call 55 = .ok (.iload_n 2, 1) := by decide +kernel
theorem dX6_call_56 : decode cX6_call 56 = .ok (.iload_n 3, 1) := by decide +kernel
theorem dX6_call_57 : decode cX6_call 57 = .ok (.invokevirtual 135, 3) := by decide +kernel
theorem dX6_call_60 : decode cX6_call 60 = .ok (.iload 5, 2) := by decide +kernel
theorem dX6_call_62 : decode cX6_call 62 = .ok (.if_icmp .lt 15, 3) := by decide +kernel
theorem dX6_call_65 : decode cX6_call 65 = .ok (.aload_n 0, 1) := by decide +kernel
theorem dX6_call_66 : decode cX6_call 66 = .ok (.iload_n 2, 1) := by decide +kernel
theorem dX6_call_67 : decode cX6_call 67 = .ok (.iload_n 1, 1) := by decide +kernel
theorem dX6_call_68 : decode cX6_call 68 = .ok (.iload_n 3, 1) := by decide +kernel
theorem dX6_call_69 : decode cX6_call 69 = .ok (.invokevirtual 135, 3) := by decide +kernel
theorem dX6_call_72 : decode cX6_call 72 = .ok (.iload 5, 2) := by decide +kernel
theorem dX6_call_74 : decode cX6_call 74 = .ok (.if_icmp .ge 5, 3) := by decide +kernel
theorem dX6_call_77 : decode cX6_call 77 = .ok (.iconst 0, 1) := by decide +kernel
theorem dX6_call_78 : decode cX6_call 78 = .ok (.ireturn, 1) := by decide +kernel
theorem dX6_call_79 : decode cX6_call 79 = .ok (.aload_n 0, 1) := by decide +kernel
theorem dX6_call_80 : decode cX6_call 80 = .ok (.getfield 48, 3) := by decide +kernel
theorem dX6_call_83 : decode cX6_call 83 = .ok (.iload_n 1, 1) := by decide +kernel
theorem dX6_call_84 : decode cX6_call 84 = .ok (.iload_n 2, 1) := by decide +kernel
theorem dX6_call_85 : decode cX6_call 85 = .ok (.iload_n 3, 1) := by decide +kernel
theorem dX6_call_86 : decode cX6_call 86 = .ok (.iload 4, 2) := by decide +kernel
theorem dX6_call_88 : decode cX6_call 88 = .ok (.aload_n 0, 1) := by decide +kernel
theorem dX6_call_89 : decode cX6_call 89 = .ok (.getfield 12, 3) := by decide +kernel
theorem dX6_call_92 : decode cX6_call 92 = .ok (.getfield 94, 3) := by decide +kernel
theorem dX6_call_95 : decode cX6_call 95 = .ok (.invokevirtual 139, 3) := by decide +kernel
theorem dX6_call_98 : decode cX6_call 98 = .ok (.iconst 1, 1) := by decide +kernel
theorem dX6_call_99 : decode cX6_call 99 = .ok (.ireturn, 1) := by decide +kernel
theorem dX6_log_0 : decode cX6_log 0 = .ok (.aload_n 0, 1) := by decide +kernel
theorem dX6_log_1 : decode cX6_log 1 = .ok (.iload_n 1, 1) := by decide +kernel
theorem dX6_log_2 : decode cX6_log 2 = .ok (.invokevirtual 122, 3) := by decide +kernel
theorem dX6_log_5 : decode cX6_log 5 = .ok (.aload_n 0, 1) := by decide +kernel
theorem dX6_log_6 : decode cX6_log 6 = .ok (.iload_n 2, 1) := by decide +kernel
theorem dX6_log_7 : decode cX6_log 7 = .ok (.invokevirtual 122, 3) := by decide +kernel
theorem dX6_log_10 : decode cX6_log 10 = .ok (.iload_n 3, 1) := by decide +kernel
theorem dX6_log_11 : decode cX6_log 11 = .ok (.invokestatic 117, 3) := by decide +kernel
theorem dX6_log_14 : decode cX6_log 14 = .ok (.iload_n 1, 1) := by decide +kernel
theorem dX6_log_15 : decode cX6_log 15 = .ok (.iload_n 2, 1) := by decide +kernel
theorem dX6_log_16 : decode cX6_log 16 = .ok (.invokestatic 125, 3) := by decide +kernel
theorem dX6_log_19 : decode cX6_log 19 = .ok (.aload_n 0, 1) := by decide +kernel
theorem dX6_log_20 : decode cX6_log 20 = .ok (.getfield 55, 3) := by decide +kernel
theorem dX6_log_23 : decode cX6_log 23 = .ok (.invokevirtual 142, 3) := by decide +kernel
theorem dX6_log_26 : decode cX6_log 26 = .ok (.ifCond .eq 13, 3) := by decide +kernel
theorem dX6_log_29 : decode cX6_log 29 = .ok (.new 97, 3) := by decide +kernel
theorem dX6_log_32 : decode cX6_log 32 = .ok (.dup, 1) := by decide +kernel
theorem dX6_log_33 : decode cX6_log 33 = .ok (.ldc 143, 2) := by decide +kernel
theorem dX6_log_35 : decode cX6_log 35 = .ok (.invokespecial 101, 3) := by decide +kernel
theorem dX6_log_38 : decode cX6_log 38 = .ok (.athrow, 1) := by decide +kernel
theorem dX6_log_39 : decode cX6_log 39 = .ok (.aload_n 0, 1) := by decide +kernel
theorem dX6_log_40 : decode cX6_log 40 = .ok (.getfield 55, 3) := by decide +kernel
theorem dX6_log_43 : decode cX6_log 43 = .ok (.iload_n 1, 1) := by decide +kernel
theorem dX6_log_44 : decode cX6_log 44 = .ok (.iload_n 2, 1) := by decide +kernel
theorem dX6_log_45 : decode cX6_log 45 = .ok (.iload_n 3, 1) := by decide +kernel
theorem dX6_log_46 : decode cX6_log 46 = .ok (.aload_n 0, 1) := by decide +kernel
theorem dX6_log_47 : decode cX6_log 47 = .ok (.getfield 12, 3) := by decide +kernel
theorem dX6_log_50 : decode cX6_log 50 = .ok (.getfield 94, 3) := by decide +kernel
theorem dX6_log_53 : decode cX6_log 53 = .ok (.invokevirtual 145, 3) := by decide +kernel
theorem dX6_log_56 : decode cX6_log 56 = .ok (.ireturn, 1) := by decide +kernel
theorem dX6_listen_0 : decode cX6_listen 0 = .ok (.iload_n 1, 1) := by decide +kernel
theorem dX6_listen_1 : decode cX6_listen 1 = .ok (.invokestatic 80, 3) := by decide +kernel
theorem dX6_listen_4 : decode cX6_listen 4 = .ok (.iconst 0, 1) := by decide +kernel
theorem dX6_listen_5 : decode cX6_listen 5 = .ok (.istore_n 2, 1) := by decide +kernel
theorem dX6_listen_6 : decode cX6_listen 6 = .ok (.iconst 0, 1) := by decide +kernel
theorem dX6_listen_7 : decode cX6_listen 7 = .ok (.istore_n 3, 1) := by decide +kernel
theorem dX6_listen_8 : decode cX6_listen 8 = .ok (.iload_n 3, 1) := by decide +kernel
theorem dX6_listen_9 : decode cX6_listen 9 = .ok (.aload_n 0, 1) := by decide +kernel
theorem dX6_listen_10 : decode cX6_listen 10 = .ok (.getfield 42, 3) := by decide +kernel
theorem dX6_listen_13 : decode cX6_listen 13 = .ok (.getfield 148, 3) := by decide +kernel
theorem dX6_listen_16 : decode cX6_listen 16 = .ok (.if_icmp .ge 110, 3) := by decide +kernel
theorem dX6_listen_19 : decode cX6_listen 19 = .ok (.aload_n 0, 1) := by decide +kernel
theorem dX6_listen_20 : decode cX6_listen 20 = .ok (.getfield 42, 3) := by decide +kernel
theorem dX6_listen_23 : decode cX6_listen 23 = .ok (.getfield 151, 3) := by decide +kernel
theorem dX6_listen_26 : decode cX6_listen 26 = .ok (.iload_n 3, 1) := by decide +kernel
theorem dX6_listen_27 : decode cX6_listen 27 = .ok (.iaload, 1) := by decide +kernel
theorem dX6_listen_28 : decode cX6_listen 28 = .ok (.istore 4, 2) := by decide +kernel
theorem dX6_listen_30 : decode cX6_listen 30 = .ok (.aload_n 0, 1) := by decide +kernel
theorem dX6_listen_31 : decode cX6_listen 31 = .ok (.aload_n 0, 1) := by decide +kernel
theorem dX6_listen_32 : decode cX6_listen 32 = .ok (.getfield 12, 3) := by decide +kernel
theorem dX6_listen_35 : decode cX6_listen 35 = .ok (.aload_n 0, 1) := by decide +kernel
theorem dX6_listen_36 : decode cX6_listen 36 = .ok (.getfield 42, 3) := by decide +kernel
theorem dX6_listen_39 : decode cX6_listen 39 = .ok (.iload_n 3, 1) := by decide +kernel
theorem dX6_listen_40 : decode cX6_listen 40 = .ok (.iload 4, 2) := by decide +kernel
theorem dX6_listen_42 : decode cX6_listen 42 = .ok (.iload_n 1, 1) := by decide +kernel
theorem dX6_listen_43 : decode cX6_listen 43 = .ok (.invokevirtual 154, 3) := by decide +kernel
theorem dX6_listen_46 : decode cX6_listen 46 = .ok (.ifCond .lt 7, 3) := by decide +kernel
theorem dX6_listen_49 : decode cX6_listen 49 = .ok (.iconst 1, 1) := by decide +kernel
theorem dX6_listen_50 : decode cX6_listen 50 = .ok (.goto 4, 3) := by decide +kernel
theorem dX6_listen_53 : decode cX6_listen 53 = .ok (.iconst 0, 1) := by decide +kernel
theorem dX6_listen_54 : decode cX6_listen 54 = .ok (.istore 5, 2) := by decide +kernel
theorem dX6_listen_56 : decode cX6_listen 56 = .ok (.aload_n 0, 1) := by decide +kernel
theorem dX6_listen_57 : decode cX6_listen 57 = .ok (.aload_n 0, 1) := by decide +kernel
theorem dX6_listen_58 : decode cX6_listen 58 = .ok (.getfield 16, 3) := by decide +kernel
theorem dX6_listen_61 : decode cX6_listen 61 = .ok (.aload_n 0, 1) := by decide +kernel
theorem dX6_listen_62 : decode cX6_listen 62 = .ok (.getfield 42, 3) := by decide +kernel
theorem dX6_listen_65 : decode cX6_listen 65 = .ok (.iload_n 3, 1) := by decide +kernel
theorem dX6_listen_66 : decode cX6_listen 66 = .ok (.iload 4, 2) := by decide +kernel
theorem dX6_listen_68 : decode cX6_listen 68 = .ok (.iload_n 1, 1) := by decide +kernel
theorem dX6_listen_69 : decode cX6_listen 69 = .ok (.invokevirtual 154, 3) := by decide +kernel
theorem dX6_listen_72 : decode cX6_listen 72 = .ok (.ifCond .lt 7, 3) := by decide +kernel
theorem dX6_listen_75 : decode cX6_listen 75 = .ok (.iconst 1, 1) := by decide +kernel
theorem dX6_listen_76 : decode cX6_listen 76 = .ok (.goto 4, 3) := by decide +kernel
theorem dX6_listen_79 : decode cX6_listen 79 = .ok (.iconst 0, 1) := by decide +kernel
theorem dX6_listen_80 : decode cX6_listen 80 = .ok (.istore 6, 2) := by decide +kernel
theorem dX6_listen_82 : decode cX6_listen 82 = .ok (.iload 5, 2) := by decide +kernel
theorem dX6_listen_84 : decode cX6_listen 84 = .ok (.ifCond .eq 9, 3) := by decide +kernel
theorem dX6_listen_87 : decode cX6_listen 87 = .ok (.iload_n 2, 1) := by decide +kernel
theorem dX6_listen_88 : decode cX6_listen 88 = .ok (.iconst 1, 1) := by decide +kernel
theorem dX6_listen_89 : decode cX6_listen 89 = .ok (.iload_n 3, 1) := by decide +kernel
theorem dX6_listen_90 : decode cX6_listen 90 = .ok (.ishl, 1) := by decide +kernel
theorem dX6_listen_91 : decode cX6_listen 91 = .ok (.ior, 1) := by decide +kernel
theorem dX6_listen_92 : decode cX6_listen 92 = .ok (.istore_n 2, 1) := by decide +kernel
theorem dX6_listen_93 : decode cX6_listen 93 = .ok (.iload 5, 2) := by decide +kernel
theorem dX6_listen_95 : decode cX6_listen 95 = .ok (.iload 6, 2) := by decide +kernel
theorem dX6_listen_97 : decode cX6_listen 97 = .ok (.if_icmp .ne 13, 3) := by decide +kernel
theorem dX6_listen_100 : decode cX6_listen 100 = .ok (.aload_n 0, 1) := by decide +kernel
theorem dX6_listen_101 : decode cX6_listen 101 = .ok (.dup, 1) := by decide +kernel
theorem dX6_listen_102 : decode cX6_listen 102 = .ok (.getfield 158, 3) := by decide +kernel
theorem dX6_listen_105 : decode cX6_listen 105 = .ok (.iconst 1, 1) := by decide +kernel
theorem dX6_listen_106 : decode cX6_listen 106 = .ok (.iadd, 1) := by decide +kernel
theorem dX6_listen_107 : decode cX6_listen 107 = .ok (.putfield 158, 3) := by decide +kernel
theorem dX6_listen_110 : decode cX6_listen 110 = .ok (.aload_n 0, 1) := by decide +kernel
theorem dX6_listen_111 : decode cX6_listen 111 = .ok (.dup, 1) := by decide +kernel
theorem dX6_listen_112 : decode cX6_listen 112 = .ok (.getfield 161, 3) := by decide +kernel
theorem dX6_listen_115 : decode cX6_listen 115 = .ok (.iconst 1, 1) := by decide +kernel
theorem dX6_listen_116 : decode cX6_listen 116 = .ok (.iadd, 1) := by decide +kernel
theorem dX6_listen_117 : decode cX6_listen 117 = .ok (.putfield 161, 3) := by decide +kernel
theorem dX6_listen_120 : decode cX6_listen 120 = .ok (.iinc 3 1, 3) := by decide +kernel
theorem dX6_listen_123 : decode cX6_listen 123 = .ok (.goto (-115), 3) := by decide +kernel
theorem dX6_listen_126 : decode cX6_listen 126 = .ok (.iload_n 2, 1) := by decide +kernel
theorem dX6_listen_127 : decode cX6_listen 127 = .ok (.ireturn, 1) := by decide +kernel
theorem dX6_hour_0 : decode cX6_hour 0 = .ok (.aload_n 0, 1) := by decide +kernel
theorem dX6_hour_1 : decode cX6_hour 1 = .ok (.getfield 12, 3) := by decide +kernel
theorem dX6_hour_4 : decode cX6_hour 4 = .ok (.getfield 94, 3) := by decide +kernel
theorem dX6_hour_7 : decode cX6_hour 7 = .ok (.ireturn, 1) := by decide +kernel
theorem dX6_light_0 : decode cX6_light 0 = .ok (.iload_n 1, 1) := by decide +kernel
theorem dX6_light_1 : decode cX6_light 1 = .ok (.invokestatic 80, 3) := by decide +kernel
theorem dX6_light_4 : decode cX6_light 4 = .ok (.iload_n 2, 1) := by decide +kernel
theorem dX6_light_5 : decode cX6_light 5 = .ok (.iconst 0, 1) := by decide +kernel
theorem dX6_light_6 : decode cX6_light 6 = .ok (.bipush 24, 2) := by decide +kernel
theorem dX6_light_8 : decode cX6_light 8 = .ok (.invokestatic 59, 3) := by decide +kernel
theorem dX6_light_11 : decode cX6_light 11 = .ok (.aload_n 0, 1) := by decide +kernel
theorem dX6_light_12 : decode cX6_light 12 = .ok (.getfield 12, 3) := by decide +kernel
theorem dX6_light_15 : decode cX6_light 15 = .ok (.getfield 94, 3) := by decide +kernel
theorem dX6_light_18 : decode cX6_light 18 = .ok (.iload_n 2, 1) := by decide +kernel
theorem dX6_light_19 : decode cX6_light 19 = .ok (.iadd, 1) := by decide +kernel
theorem dX6_light_20 : decode cX6_light 20 = .ok (.iload_n 1, 1) := by decide +kernel
theorem dX6_light_21 : decode cX6_light 21 = .ok (.invokestatic 164, 3) := by decide +kernel
theorem dX6_light_24 : decode cX6_light 24 = .ok (.ireturn, 1) := by decide +kernel
theorem dX6_density_0 : decode cX6_density 0 = .ok (.iload_n 1, 1) := by decide +kernel
theorem dX6_density_1 : decode cX6_density 1 = .ok (.invokestatic 80, 3) := by decide +kernel
theorem dX6_density_4 : decode cX6_density 4 = .ok (.iload_n 2, 1) := by decide +kernel
theorem dX6_density_5 : decode cX6_density 5 = .ok (.iconst 0, 1) := by decide +kernel
theorem dX6_density_6 : decode cX6_density 6 = .ok (.iconst 2, 1) := by decide +kernel
theorem dX6_density_7 : decode cX6_density 7 = .ok (.invokestatic 59, 3) := by decide +kernel
theorem dX6_density_10 : decode cX6_density 10 = .ok (.aload_n 0, 1) := by decide +kernel
theorem dX6_density_11 : decode cX6_density 11 = .ok (.getfield 12, 3) := by decide +kernel
theorem dX6_density_14 : decode cX6_density 14 = .ok (.getfield 168, 3) := by decide +kernel
theorem dX6_density_17 : decode cX6_density 17 = .ok (.iload_n 2, 1) := by decide +kernel
theorem dX6_density_18 : decode cX6_density 18 = .ok (.aaload, 1) := by decide +kernel
theorem dX6_density_19 : decode cX6_density 19 = .ok (.iload_n 1, 1) := by decide +kernel
theorem dX6_density_20 : decode cX6_density 20 = .ok (.iaload, 1) := by decide +kernel
theorem dX6_density_21 : decode cX6_density 21 = .ok (.ireturn, 1) := by decide +kernel
theorem dX6_landing_0 : decode cX6_landing 0 = .ok (.iload_n 1, 1) := by decide +kernel
theorem dX6_landing_1 : decode cX6_landing 1 = .ok (.iload_n 3, 1) := by decide +kernel
theorem dX6_landing_2 : decode cX6_landing 2 = .ok (.iload 4, 2) := by decide +kernel
theorem dX6_landing_4 : decode cX6_landing 4 = .ok (.iload 5, 2) := by decide +kernel
theorem dX6_landing_6 : decode cX6_landing 6 = .ok (.invokestatic 172, 3) := by decide +kernel
theorem dX6_landing_9 : decode cX6_landing 9 = .ok (.iload_n 2, 1) := by decide +kernel
theorem dX6_landing_10 : decode cX6_landing 10 = .ok (.ifCond .eq 7, 3) := by decide +kernel
theorem dX6_landing_13 : decode cX6_landing 13 = .ok (.iconst 1, 1) := by decide +kernel
theorem dX6_landing_14 : decode cX6_landing 14 = .ok (.goto 4, 3) := by decide +kernel
theorem dX6_landing_17 : decode cX6_landing 17 = .ok (.iconst (-1), 1) := by decide +kernel
theorem dX6_landing_18 : decode cX6_landing 18 = .ok (.istore 6, 2) := by decide +kernel
theorem dX6_landing_20 : decode cX6_landing 20 = .ok (.iload_n 1, 1) := by decide +kernel
theorem dX6_landing_21 : decode cX6_landing 21 = .ok (.istore 7, 2) := by decide +kernel
theorem dX6_landing_23 : decode cX6_landing 23 = .ok (.iconst 0, 1) := by decide +kernel
theorem dX6_landing_24 : decode cX6_landing 24 = .ok (.istore 8, 2) := by decide +kernel
theorem dX6_landing_26 : decode cX6_landing 26 = .ok (.iload 8, 2) := by decide +kernel
theorem dX6_landing_28 : decode cX6_landing 28 = .ok (.iload 5, 2) := by decide +kernel
theorem dX6_landing_30 : decode cX6_landing 30 = .ok (.if_icmp .ge 50, 3) := by decide +kernel
theorem dX6_landing_33 : decode cX6_landing 33 = .ok (.aload_n 0, 1) := by decide +kernel
theorem dX6_landing_34 : decode cX6_landing 34 = .ok (.getfield 12, 3) := by decide +kernel
theorem dX6_landing_37 : decode cX6_landing 37 = .ok (.iload 7, 2) := by decide +kernel
theorem dX6_landing_39 : decode cX6_landing 39 = .ok (.iload 6, 2) := by decide +kernel
theorem dX6_landing_41 : decode cX6_landing 41 = .ok (.iload_n 3, 1) := by decide +kernel
theorem dX6_landing_42 : decode cX6_landing 42 = .ok (.iload 4, 2) := by decide +kernel
theorem dX6_landing_44 : decode cX6_landing 44 = .ok (.invokevirtual 176, 3) := by decide +kernel
theorem dX6_landing_47 : decode cX6_landing 47 = .ok (.istore 9, 2) := by decide +kernel
theorem dX6_landing_49 : decode cX6_landing 49 = .ok (.iload 9, 2) := by decide +kernel
theorem dX6_landing_51 : decode cX6_landing 51 = .ok (.iconst (-1), 1) := by decide +kernel
theorem dX6_landing_52 : decode cX6_landing 52 = .ok (.if_icmp .ne 5, 3) := by decide +kernel
theorem dX6_landing_55 : decode cX6_landing 55 = .ok (.iconst (-1), 1) := by decide +kernel
theorem dX6_landing_56 : decode cX6_landing 56 = .ok (.ireturn, 1) := by decide +kernel
theorem dX6_landing_57 : decode cX6_landing 57 = .ok (.iload 7, 2) := by decide +kernel
theorem dX6_landing_59 : decode cX6_landing 59 = .ok (.iload 6, 2) := by decide +kernel
theorem dX6_landing_61 : decode cX6_landing 61 = .ok (.iload 9, 2) := by decide +kernel
theorem dX6_landing_63 : decode cX6_landing 63 = .ok (.iload_n 3, 1) := by decide +kernel
theorem dX6_landing_64 : decode cX6_landing 64 = .ok (.invokestatic 179, 3) := by decide +kernel
theorem dX6_landing_67 : decode cX6_landing 67 = .ok (.imul, 1) := by decide +kernel
theorem dX6_landing_68 : decode cX6_landing 68 = .ok (.iadd, 1) := by decide +kernel
theorem dX6_landing_69 : decode cX6_landing 69 = .ok (.invokestatic 182, 3) := by decide +kernel
theorem dX6_landing_72 : decode cX6_landing 72 = .ok (.istore 7, 2) := by decide +kernel
theorem dX6_landing_74 : decode cX6_landing 74 = .ok (.iinc 8 1, 3) := by decide +kernel
theorem dX6_landing_77 : decode cX6_landing 77 = .ok (.goto (-51), 3) := by decide +kernel
theorem dX6_landing_80 : decode cX6_landing 80 = .ok (.iload 7, 2) := by decide +kernel
theorem dX6_landing_82 : decode cX6_landing 82 = .ok (.ireturn, 1) := by decide +kernel
theorem dX6_landingAnew_0 : decode cX6_landingAnew 0 = .ok (.iload_n 1, 1) := by decide +kernel
theorem dX6_landingAnew_1 : decode cX6_landingAnew 1 = .ok (.iload_n 3, 1) := by decide +kernel
theorem dX6_landingAnew_2 : decode cX6_landingAnew 2 = .ok (.iload 4, 2) := by decide +kernel
theorem dX6_landingAnew_4 : decode cX6_landingAnew 4 = .ok (.iload 5, 2) := by decide +kernel
theorem dX6_landingAnew_6 : decode cX6_landingAnew 6 = .ok (.invokestatic 172, 3) := by decide +kernel
theorem dX6_landingAnew_9 : decode cX6_landingAnew 9 = .ok (.iload_n 1, 1) := by decide +kernel
theorem dX6_landingAnew_10 : decode cX6_landingAnew 10 = .ok (.istore 6, 2) := by decide +kernel
theorem dX6_landingAnew_12 : decode cX6_landingAnew 12 = .ok (.iconst 0, 1) := by decide +kernel
theorem dX6_landingAnew_13 : decode cX6_landingAnew 13 = .ok (.istore 7, 2) := by decide +kernel
theorem dX6_landingAnew_15 : decode cX6_landingAnew 15 = .ok (.iload 7, 2) := by decide +kernel
theorem dX6_landingAnew_17 : decode cX6_landingAnew 17 = .ok (.iload 5, 2) := by decide +kernel
theorem dX6_landingAnew_19 : decode cX6_landingAnew 19 = .ok (.if_icmp .ge 39, 3) := by decide +kernel
theorem dX6_landingAnew_22 : decode cX6_landingAnew 22 = .ok (.aload_n 0, 1) := by decide +kernel
theorem dX6_landingAnew_23 : decode cX6_landingAnew 23 = .ok (.iload 6, 2) := by decide +kernel
theorem dX6_landingAnew_25 : decode cX6_landingAnew 25 = .ok (.iload_n 2, 1) := by decide +kernel
theorem dX6_landingAnew_26 : decode cX6_landingAnew 26 = .ok (.iload_n 3, 1) := by decide +kernel
theorem dX6_landingAnew_27 : decode cX6_landingAnew 27 = .ok (.iload 4, 2) := by decide +kernel
theorem dX6_landingAnew_29 : decode cX6_landingAnew 29 = .ok (.invokevirtual 185, 3) := by decide +kernel
theorem dX6_landingAnew_32 : decode cX6_landingAnew 32 = .ok (.istore 8, 2) := by decide +kernel
theorem dX6_landingAnew_34 : decode cX6_landingAnew 34 = .ok (.iload 8, 2) := by decide +kernel
theorem dX6_landingAnew_36 : decode cX6_landingAnew 36 = .ok (.iconst (-1), 1) := by decide +kernel
theorem dX6_landingAnew_37 : decode cX6_landingAnew 37 = .ok (.if_icmp .ne 5, 3) := by decide +kernel
theorem dX6_landingAnew_40 : decode cX6_landingAnew 40 = .ok (.iconst (-1), 1) := by decide +kernel
theorem dX6_landingAnew_41 : decode cX6_landingAnew 41 = .ok (.ireturn, 1) := by decide +kernel
theorem dX6_landingAnew_42 : decode cX6_landingAnew 42 = .ok (.iload 6, 2) := by decide +kernel
theorem dX6_landingAnew_44 : decode cX6_landingAnew 44 = .ok (.iload_n 2, 1) := by decide +kernel
theorem dX6_landingAnew_45 : decode cX6_landingAnew 45 = .ok (.iload 8, 2) := by decide +kernel
theorem dX6_landingAnew_47 : decode cX6_landingAnew 47 = .ok (.invokestatic 189, 3) := by decide +kernel
theorem dX6_landingAnew_50 : decode cX6_landingAnew 50 = .ok (.istore 6, 2) := by decide +kernel
theorem dX6_landingAnew_52 : decode cX6_landingAnew 52 = .ok (.iinc 7 1, 3) := by decide +kernel
theorem dX6_landingAnew_55 : decode cX6_landingAnew 55 = .ok (.goto (-40), 3) := by decide +kernel
theorem dX6_landingAnew_58 : decode cX6_landingAnew 58 = .ok (.iload 6, 2) := by decide +kernel
theorem dX6_landingAnew_60 : decode cX6_landingAnew 60 = .ok (.ireturn, 1) := by decide +kernel
theorem dX6_paths_0 : decode cX6_paths 0 = .ok (.iload_n 1, 1) := by decide +kernel
theorem dX6_paths_1 : decode cX6_paths 1 = .ok (.iload_n 2, 1) := by decide +kernel
theorem dX6_paths_2 : decode cX6_paths 2 = .ok (.iload_n 3, 1) := by decide +kernel
theorem dX6_paths_3 : decode cX6_paths 3 = .ok (.iload 4, 2) := by decide +kernel
theorem dX6_paths_5 : decode cX6_paths 5 = .ok (.invokestatic 193, 3) := by decide +kernel
theorem dX6_paths_8 : decode cX6_paths 8 = .ok (.iconst 0, 1) := by decide +kernel
theorem dX6_paths_9 : decode cX6_paths 9 = .ok (.istore 5, 2) := by decide +kernel
theorem dX6_paths_11 : decode cX6_paths 11 = .ok (.iconst 0, 1) := by decide +kernel
theorem dX6_paths_12 : decode cX6_paths 12 = .ok (.istore 6, 2) := by decide +kernel
theorem dX6_paths_14 : decode cX6_paths 14 = .ok (.iload 6, 2) := by decide +kernel
theorem dX6_paths_16 : decode cX6_paths 16 = .ok (.bipush 18, 2) := by decide +kernel
theorem dX6_paths_18 : decode cX6_paths 18 = .ok (.if_icmp .ge 30, 3) := by decide +kernel
theorem dX6_paths_21 : decode cX6_paths 21 = .ok (.aload_n 0, 1) := by decide +kernel
theorem dX6_paths_22 : decode cX6_paths 22 = .ok (.aload_n 0, 1) := by decide +kernel
theorem dX6_paths_23 : decode cX6_paths 23 = .ok (.getfield 12, 3) := by decide +kernel
theorem dX6_paths_26 : decode cX6_paths 26 = .ok (.iload_n 1, 1) := by decide +kernel
theorem dX6_paths_27 : decode cX6_paths 27 = .ok (.iload_n 2, 1) := by decide +kernel
theorem dX6_paths_28 : decode cX6_paths 28 = .ok (.iload 6, 2) := by decide +kernel
theorem dX6_paths_30 : decode cX6_paths 30 = .ok (.iload_n 3, 1) := by decide +kernel
theorem dX6_paths_31 : decode cX6_paths 31 = .ok (.iload 4, 2) := by decide +kernel
theorem dX6_paths_33 : decode cX6_paths 33 = .ok (.invokevirtual 196, 3) := by decide +kernel
theorem dX6_paths_36 : decode cX6_paths 36 = .ok (.ifCond .eq 6, 3) := by decide +kernel
theorem dX6_paths_39 : decode cX6_paths 39 = .ok (.iinc 5 1, 3) := by decide +kernel
theorem dX6_paths_42 : decode cX6_paths 42 = .ok (.iinc 6 1, 3) := by decide +kernel
theorem dX6_paths_45 : decode cX6_paths 45 = .ok (.goto (-31), 3) := by decide +kernel
theorem dX6_paths_48 : decode cX6_paths 48 = .ok (.iload 5, 2) := by decide +kernel
theorem dX6_paths_50 : decode cX6_paths 50 = .ok (.ireturn, 1) := by decide +kernel
theorem dX6_path_0 : decode cX6_path 0 = .ok (.iload_n 1, 1) := by decide +kernel
theorem dX6_path_1 : decode cX6_path 1 = .ok (.iload_n 2, 1) := by decide +kernel
theorem dX6_path_2 : decode cX6_path 2 = .ok (.iload_n 3, 1) := by decide +kernel
theorem dX6_path_3 : decode cX6_path 3 = .ok (.iload 4, 2) := by decide +kernel
theorem dX6_path_5 : decode cX6_path 5 = .ok (.invokestatic 193, 3) := by decide +kernel
theorem dX6_path_8 : decode cX6_path 8 = .ok (.iload 6, 2) := by decide +kernel
theorem dX6_path_10 : decode cX6_path 10 = .ok (.iconst 0, 1) := by decide +kernel
theorem dX6_path_11 : decode cX6_path 11 = .ok (.iconst 5, 1) := by decide +kernel
theorem dX6_path_12 : decode cX6_path 12 = .ok (.invokestatic 59, 3) := by decide +kernel
theorem dX6_path_15 : decode cX6_path 15 = .ok (.iconst 0, 1) := by decide +kernel
theorem dX6_path_16 : decode cX6_path 16 = .ok (.istore 7, 2) := by decide +kernel
theorem dX6_path_18 : decode cX6_path 18 = .ok (.iconst 0, 1) := by decide +kernel
theorem dX6_path_19 : decode cX6_path 19 = .ok (.istore 8, 2) := by decide +kernel
theorem dX6_path_21 : decode cX6_path 21 = .ok (.iload 8, 2) := by decide +kernel
theorem dX6_path_23 : decode cX6_path 23 = .ok (.bipush 18, 2) := by decide +kernel
theorem dX6_path_25 : decode cX6_path 25 = .ok (.if_icmp .ge 47, 3) := by decide +kernel
theorem dX6_path_28 : decode cX6_path 28 = .ok (.aload_n 0, 1) := by decide +kernel
theorem dX6_path_29 : decode cX6_path 29 = .ok (.aload_n 0, 1) := by decide +kernel
theorem dX6_path_30 : decode cX6_path 30 = .ok (.getfield 12, 3) := by decide +kernel
theorem dX6_path_33 : decode cX6_path 33 = .ok (.iload_n 1, 1) := by decide +kernel
theorem dX6_path_34 : decode cX6_path 34 = .ok (.iload_n 2, 1) := by decide +kernel
theorem dX6_path_35 : decode cX6_path 35 = .ok (.iload 8, 2) := by decide +kernel
theorem dX6_path_37 : decode cX6_path 37 = .ok (.iload_n 3, 1) := by decide +kernel
theorem dX6_path_38 : decode cX6_path 38 = .ok (.iload 4, 2) := by decide +kernel
theorem dX6_path_40 : decode cX6_path 40 = .ok (.invokevirtual 196, 3) := by decide +kernel
theorem dX6_path_43 : decode cX6_path 43 = .ok (.ifCond .eq 23, 3) := by decide +kernel
theorem dX6_path_46 : decode cX6_path 46 = .ok (.iload 7, 2) := by decide +kernel
theorem dX6_path_48 : decode cX6_path 48 = .ok (.iload 5, 2) := by decide +kernel
theorem dX6_path_50 : decode cX6_path 50 = .ok (.if_icmp .ne 13, 3) := by decide +kernel
theorem dX6_path_53 : decode cX6_path 53 = .ok (.aload_n 0, 1) := by decide +kernel
theorem dX6_path_54 : decode cX6_path 54 = .ok (.getfield 29, 3) := by decide +kernel
theorem dX6_path_57 : decode cX6_path 57 = .ok (.iload 6, 2) := by decide +kernel
theorem dX6_path_59 : decode cX6_path 59 = .ok (.invokevirtual 200, 3) := by decide +kernel
theorem dX6_path_62 : decode cX6_path 62 = .ok (.ireturn, 1) := by decide +kernel
theorem dX6_path_63 : decode cX6_path 63 = .ok (.iinc 7 1, 3) := by decide +kernel
theorem dX6_path_66 : decode cX6_path 66 = .ok (.iinc 8 1, 3) := by decide +kernel
theorem dX6_path_69 : decode cX6_path 69 = .ok (.goto (-48), 3) := by decide +kernel
theorem dX6_path_72 : decode cX6_path 72 = .ok (.new 203, 3) := by decide +kernel
theorem dX6_path_75 : decode cX6_path 75 = .ok (.dup, 1) := by decide +kernel
theorem dX6_path_76 : decode cX6_path 76 = .ok (.ldc 205, 2) := by decide +kernel
theorem dX6_path_78 : decode cX6_path 78 = .ok (.invokespecial 207, 3) := by decide +kernel
theorem dX6_path_81 : decode cX6_path 81 = .ok (.athrow, 1) := by decide +kernel
theorem dX6_explain_0 : decode cX6_explain 0 = .ok (.iload_n 1, 1) := by decide +kernel
theorem dX6_explain_1 : decode cX6_explain 1 = .ok (.iload_n 2, 1) := by decide +kernel
theorem dX6_explain_2 : decode cX6_explain 2 = .ok (.iload_n 3, 1) := by decide +kernel
theorem dX6_explain_3 : decode cX6_explain 3 = .ok (.iload 4, 2) := by decide +kernel
theorem dX6_explain_5 : decode cX6_explain 5 = .ok (.invokestatic 193, 3) := by decide +kernel
theorem dX6_explain_8 : decode cX6_explain 8 = .ok (.iload 5, 2) := by decide +kernel
theorem dX6_explain_10 : decode cX6_explain 10 = .ok (.iconst 0, 1) := by decide +kernel
theorem dX6_explain_11 : decode cX6_explain 11 = .ok (.sipush 1000, 3) := by decide +kernel
theorem dX6_explain_14 : decode cX6_explain 14 = .ok (.invokestatic 59, 3) := by decide +kernel
theorem dX6_explain_17 : decode cX6_explain 17 = .ok (.iconst 0, 1) := by decide +kernel
theorem dX6_explain_18 : decode cX6_explain 18 = .ok (.istore 6, 2) := by decide +kernel
theorem dX6_explain_20 : decode cX6_explain 20 = .ok (.iconst (-1), 1) := by decide +kernel
theorem dX6_explain_21 : decode cX6_explain 21 = .ok (.istore 7, 2) := by decide +kernel
theorem dX6_explain_23 : decode cX6_explain 23 = .ok (.iconst 0, 1) := by decide +kernel
theorem dX6_explain_24 : decode cX6_explain 24 = .ok (.istore 8, 2) := by decide +kernel
theorem dX6_explain_26 : decode cX6_explain 26 = .ok (.iconst 0, 1) := by decide +kernel
theorem dX6_explain_27 : decode cX6_explain 27 = .ok (.istore 9, 2) := by decide +kernel
theorem dX6_explain_29 : decode cX6_explain 29 = .ok (.iload 9, 2) := by decide +kernel
theorem dX6_explain_31 : decode cX6_explain 31 = .ok (.bipush 18, 2) := by decide +kernel
theorem dX6_explain_33 : decode cX6_explain 33 = .ok (.if_icmp .ge 66, 3) := by decide +kernel
theorem dX6_explain_36 : decode cX6_explain 36 = .ok (.aload_n 0, 1) := by decide +kernel
theorem dX6_explain_37 : decode cX6_explain 37 = .ok (.aload_n 0, 1) := by decide +kernel
theorem dX6_explain_38 : decode cX6_explain 38 = .ok (.getfield 12, 3) := by decide +kernel
theorem dX6_explain_41 : decode cX6_explain 41 = .ok (.iload_n 1, 1) := by decide +kernel
theorem dX6_explain_42 : decode cX6_explain 42 = .ok (.iload_n 2, 1) := by decide +kernel
theorem dX6_explain_43 : decode cX6_explain 43 = .ok (.iload 9, 2) := by decide +kernel
theorem dX6_explain_45 : decode cX6_explain 45 = .ok (.iload_n 3, 1) := by decide +kernel
theorem dX6_explain_46 : decode cX6_explain 46 = .ok (.iload 4, 2) := by decide +kernel
theorem dX6_explain_48 : decode cX6_explain 48 = .ok (.invokevirtual 196, 3) := by decide +kernel
theorem dX6_explain_51 : decode cX6_explain 51 = .ok (.ifCond .eq 42, 3) := by decide +kernel
theorem dX6_explain_54 : decode cX6_explain 54 = .ok (.aload_n 0, 1) := by decide +kernel
theorem dX6_explain_55 : decode cX6_explain 55 = .ok (.getfield 29, 3) := by decide +kernel
theorem dX6_explain_58 : decode cX6_explain 58 = .ok (.getfield 208, 3) := by decide +kernel
theorem dX6_explain_61 : decode cX6_explain 61 = .ok (.iload 5, 2) := by decide +kernel
theorem dX6_explain_63 : decode cX6_explain 63 = .ok (.isub, 1) := by decide +kernel
theorem dX6_explain_64 : decode cX6_explain 64 = .ok (.invokestatic 211, 3) := by decide +kernel
theorem dX6_explain_67 : decode cX6_explain 67 = .ok (.istore 10, 2) := by decide +kernel
theorem dX6_explain_69 : decode cX6_explain 69 = .ok (.iload 7, 2) := by decide +kernel
theorem dX6_explain_71 : decode cX6_explain 71 = .ok (.iconst (-1), 1) := by decide +kernel
theorem dX6_explain_72 : decode cX6_explain 72 = .ok (.if_icmp .eq 10, 3) := by decide +kernel
theorem dX6_explain_75 : decode cX6_explain 75 = .ok (.iload 10, 2) := by decide +kernel
theorem dX6_explain_77 : decode cX6_explain 77 = .ok (.iload 8, 2) := by decide +kernel
theorem dX6_explain_79 : decode cX6_explain 79 = .ok (.if_icmp .ge 11, 3) := by decide +kernel
theorem dX6_explain_82 : decode cX6_explain 82 = .ok (.iload 6, 2) := by decide +kernel
theorem dX6_explain_84 : decode cX6_explain 84 = .ok (.istore 7, 2) := by decide +kernel
theorem dX6_explain_86 : decode cX6_explain 86 = .ok (.iload 10, 2) := by decide +kernel
theorem dX6_explain_88 : decode cX6_explain 88 = .ok (.istore 8, 2) := by decide +kernel
theorem dX6_explain_90 : decode cX6_explain 90 = .ok (.iinc 6 1, 3) := by decide +kernel
theorem dX6_explain_93 : decode cX6_explain 93 = .ok (.iinc 9 1, 3) := by decide +kernel
theorem dX6_explain_96 : decode cX6_explain 96 = .ok (.goto (-67), 3) := by decide +kernel
theorem dX6_explain_99 : decode cX6_explain 99 = .ok (.iload 7, 2) := by decide +kernel
theorem dX6_explain_101 : decode cX6_explain 101 = .ok (.ireturn, 1) := by decide +kernel
theorem dX6_usable_0 : decode cX6_usable 0 = .ok (.iload_n 1, 1) := by decide +kernel
theorem dX6_usable_1 : decode cX6_usable 1 = .ok (.invokestatic 80, 3) := by decide +kernel
theorem dX6_usable_4 : decode cX6_usable 4 = .ok (.iload_n 2, 1) := by decide +kernel
theorem dX6_usable_5 : decode cX6_usable 5 = .ok (.invokestatic 80, 3) := by decide +kernel
theorem dX6_usable_8 : decode cX6_usable 8 = .ok (.iload_n 3, 1) := by decide +kernel
theorem dX6_usable_9 : decode cX6_usable 9 = .ok (.invokestatic 216, 3) := by decide +kernel
theorem dX6_usable_12 : decode cX6_usable 12 = .ok (.iload 4, 2) := by decide +kernel
theorem dX6_usable_14 : decode cX6_usable 14 = .ok (.ifCond .eq 9, 3) := by decide +kernel
theorem dX6_usable_17 : decode cX6_usable 17 = .ok (.sipush 300, 3) := by decide +kernel
theorem dX6_usable_20 : decode cX6_usable 20 = .ok (.goto 5, 3) := by decide +kernel
theorem dX6_usable_23 : decode cX6_usable 23 = .ok (.bipush 10, 2) := by decide +kernel
theorem dX6_usable_25 : decode cX6_usable 25 = .ok (.istore 5, 2) := by decide +kernel
theorem dX6_usable_27 : decode cX6_usable 27 = .ok (.iload 4, 2) := by decide +kernel
theorem dX6_usable_29 : decode cX6_usable 29 = .ok (.ifCond .eq 8, 3) := by decide +kernel
theorem dX6_usable_32 : decode cX6_usable 32 = .ok (.bipush (-10), 2) := by decide +kernel
theorem dX6_usable_34 : decode cX6_usable 34 = .ok (.goto 5, 3) := by decide +kernel
theorem dX6_usable_37 : decode cX6_usable 37 = .ok (.bipush 10, 2) := by decide +kernel
theorem dX6_usable_39 : decode cX6_usable 39 = .ok (.istore 6, 2) := by decide +kernel
theorem dX6_usable_41 : decode cX6_usable 41 = .ok (.bipush 30, 2) := by decide +kernel
theorem dX6_usable_43 : decode cX6_usable 43 = .ok (.istore 7, 2) := by decide +kernel
theorem dX6_usable_45 : decode cX6_usable 45 = .ok (.iconst 0, 1) := by decide +kernel
theorem dX6_usable_46 : decode cX6_usable 46 = .ok (.istore 8, 2) := by decide +kernel
theorem dX6_usable_48 : decode cX6_usable 48 = .ok (.iload 8, 2) := by decide +kernel
theorem dX6_usable_50 : decode cX6_usable 50 = .ok (.iload 7, 2) := by decide +kernel
theorem dX6_usable_52 : decode cX6_usable 52 = .ok (.if_icmp .ge 34, 3) := by decide +kernel
theorem dX6_usable_55 : decode cX6_usable 55 = .ok (.iload 5, 2) := by decide +kernel
theorem dX6_usable_57 : decode cX6_usable 57 = .ok (.iload 8, 2) := by decide +kernel
theorem dX6_usable_59 : decode cX6_usable 59 = .ok (.iload 6, 2) := by decide +kernel
theorem dX6_usable_61 : decode cX6_usable 61 = .ok (.imul, 1) := by decide +kernel
theorem dX6_usable_62 : decode cX6_usable 62 = .ok (.iadd, 1) := by decide +kernel
theorem dX6_usable_63 : decode cX6_usable 63 = .ok (.istore 9, 2) := by decide +kernel
theorem dX6_usable_65 : decode cX6_usable 65 = .ok (.aload_n 0, 1) := by decide +kernel
theorem dX6_usable_66 : decode cX6_usable 66 = .ok (.iload_n 1, 1) := by decide +kernel
theorem dX6_usable_67 : decode cX6_usable 67 = .ok (.iload_n 2, 1) := by decide +kernel
theorem dX6_usable_68 : decode cX6_usable 68 = .ok (.iload 9, 2) := by decide +kernel
theorem dX6_usable_70 : decode cX6_usable 70 = .ok (.iload_n 3, 1) := by decide +kernel
theorem dX6_usable_71 : decode cX6_usable 71 = .ok (.invokevirtual 219, 3) := by decide +kernel
theorem dX6_usable_74 : decode cX6_usable 74 = .ok (.ifCond .eq 6, 3) := by decide +kernel
theorem dX6_usable_77 : decode cX6_usable 77 = .ok (.iload 9, 2) := by decide +kernel
theorem dX6_usable_79 : decode cX6_usable 79 = .ok (.ireturn, 1) := by decide +kernel
theorem dX6_usable_80 : decode cX6_usable 80 = .ok (.iinc 8 1, 3) := by decide +kernel
theorem dX6_usable_83 : decode cX6_usable 83 = .ok (.goto (-35), 3) := by decide +kernel
theorem dX6_usable_86 : decode cX6_usable 86 = .ok (.iconst (-1), 1) := by decide +kernel
theorem dX6_usable_87 : decode cX6_usable 87 = .ok (.ireturn, 1) := by decide +kernel
theorem dX6_skipped_0 : decode cX6_skipped 0 = .ok (.iload_n 1, 1) := by decide +kernel
theorem dX6_skipped_1 : decode cX6_skipped 1 = .ok (.invokestatic 80, 3) := by decide +kernel
theorem dX6_skipped_4 : decode cX6_skipped 4 = .ok (.iload_n 3, 1) := by decide +kernel
theorem dX6_skipped_5 : decode cX6_skipped 5 = .ok (.invokestatic 117, 3) := by decide +kernel
theorem dX6_skipped_8 : decode cX6_skipped 8 = .ok (.iconst (-1), 1) := by decide +kernel
theorem dX6_skipped_9 : decode cX6_skipped 9 = .ok (.istore 4, 2) := by decide +kernel
theorem dX6_skipped_11 : decode cX6_skipped 11 = .ok (.iconst 1, 1) := by decide +kernel
theorem dX6_skipped_12 : decode cX6_skipped 12 = .ok (.istore 5, 2) := by decide +kernel
theorem dX6_skipped_14 : decode cX6_skipped 14 = .ok (.iload 5, 2) := by decide +kernel
theorem dX6_skipped_16 : decode cX6_skipped 16 = .ok (.bipush 9, 2) := by decide +kernel
theorem dX6_skipped_18 : decode cX6_skipped 18 = .ok (.if_icmp .gt 66, 3) := by decide +kernel
theorem dX6_skipped_21 : decode cX6_skipped 21 = .ok (.aload_n 0, 1) := by decide +kernel
theorem dX6_skipped_22 : decode cX6_skipped 22 = .ok (.getfield 12, 3) := by decide +kernel
theorem dX6_skipped_25 : decode cX6_skipped 25 = .ok (.iload_n 1, 1) := by decide +kernel
theorem dX6_skipped_26 : decode cX6_skipped 26 = .ok (.iload_n 2, 1) := by decide +kernel
theorem dX6_skipped_27 : decode cX6_skipped 27 = .ok (.ifCond .eq 7, 3) := by decide +kernel
theorem dX6_skipped_30 : decode cX6_skipped 30 = .ok (.iconst 1, 1) := by decide +kernel
theorem dX6_skipped_31 : decode cX6_skipped 31 = .ok (.goto 4, 3) := by decide +kernel
theorem dX6_skipped_34 : decode cX6_skipped 34 = .ok (.iconst (-1), 1) := by decide +kernel
theorem dX6_skipped_35 : decode cX6_skipped 35 = .ok (.iload 5, 2) := by decide +kernel
theorem dX6_skipped_37 : decode cX6_skipped 37 = .ok (.iload_n 3, 1) := by decide +kernel
theorem dX6_skipped_38 : decode cX6_skipped 38 = .ok (.invokevirtual 176, 3) := by decide +kernel
theorem dX6_skipped_41 : decode cX6_skipped 41 = .ok (.istore 6, 2) := by decide +kernel
theorem dX6_skipped_43 : decode cX6_skipped 43 = .ok (.iload 6, 2) := by decide +kernel
theorem dX6_skipped_45 : decode cX6_skipped 45 = .ok (.iconst (-1), 1) := by decide +kernel
theorem dX6_skipped_46 : decode cX6_skipped 46 = .ok (.if_icmp .eq 32, 3) := by decide +kernel
theorem dX6_skipped_49 : decode cX6_skipped 49 = .ok (.iload 6, 2) := by decide +kernel
theorem dX6_skipped_51 : decode cX6_skipped 51 = .ok (.iload 5, 2) := by decide +kernel
theorem dX6_skipped_53 : decode cX6_skipped 53 = .ok (.invokestatic 179, 3) := by decide +kernel
theorem dX6_skipped_56 : decode cX6_skipped 56 = .ok (.istore 7, 2) := by decide +kernel
theorem dX6_skipped_58 : decode cX6_skipped 58 = .ok (.iload 4, 2) := by decide +kernel
theorem dX6_skipped_60 : decode cX6_skipped 60 = .ok (.iconst (-1), 1) := by decide +kernel
theorem dX6_skipped_61 : decode cX6_skipped 61 = .ok (.if_icmp .ne 8, 3) := by decide +kernel
theorem dX6_skipped_64 : decode cX6_skipped 64 = .ok (.iload 7, 2) := by decide +kernel
theorem dX6_skipped_66 : decode cX6_skipped 66 = .ok (.goto 10, 3) := by decide +kernel
theorem dX6_skipped_69 : decode cX6_skipped 69 = .ok (.iload 4, 2) := by decide +kernel
theorem dX6_skipped_71 : decode cX6_skipped 71 = .ok (.iload 7, 2) := by decide +kernel
theorem dX6_skipped_73 : decode cX6_skipped 73 = .ok (.invokestatic 223, 3) := by decide +kernel
theorem dX6_skipped_76 : decode cX6_skipped 76 = .ok (.istore 4, 2) := by decide +kernel
theorem dX6_skipped_78 : decode cX6_skipped 78 = .ok (.iinc 5 1, 3) := by decide +kernel
theorem dX6_skipped_81 : decode cX6_skipped 81 = .ok (.goto (-67), 3) := by decide +kernel
theorem dX6_skipped_84 : decode cX6_skipped 84 = .ok (.iload 4, 2) := by decide +kernel
theorem dX6_skipped_86 : decode cX6_skipped 86 = .ok (.iconst (-1), 1) := by decide +kernel
theorem dX6_skipped_87 : decode cX6_skipped 87 = .ok (.if_icmp .ne 7, 3) := by decide +kernel
theorem dX6_skipped_90 : decode cX6_skipped 90 = .ok (.iconst (-1), 1) := by decide +kernel
theorem dX6_skipped_91 : decode cX6_skipped 91 = .ok (.goto 11, 3) := by decide +kernel
theorem dX6_skipped_94 : decode cX6_skipped 94 = .ok (.iconst 0, 1) := by decide +kernel
theorem dX6_skipped_95 : decode cX6_skipped 95 = .ok (.iload 4, 2) := by decide +kernel
theorem dX6_skipped_97 : decode cX6_skipped 97 = .ok (.iconst 1, 1) := by decide +kernel
theorem dX6_skipped_98 : decode cX6_skipped 98 = .ok (.isub, 1) := by decide +kernel
theorem dX6_skipped_99 : decode cX6_skipped 99 = .ok (.invokestatic 226, 3) := by decide +kernel
theorem dX6_skipped_102 : decode cX6_skipped 102 = .ok (.ireturn, 1) := by decide +kernel
theorem dX6_signal_0 : decode cX6_signal 0 = .ok (.aload_n 0, 1) := by decide +kernel
theorem dX6_signal_1 : decode cX6_signal 1 = .ok (.iload_n 1, 1) := by decide +kernel
theorem dX6_signal_2 : decode cX6_signal 2 = .ok (.invokevirtual 122, 3) := by decide +kernel
theorem dX6_signal_5 : decode cX6_signal 5 = .ok (.aload_n 0, 1) := by decide +kernel
theorem dX6_signal_6 : decode cX6_signal 6 = .ok (.iload_n 2, 1) := by decide +kernel
theorem dX6_signal_7 : decode cX6_signal 7 = .ok (.invokevirtual 122, 3) := by decide +kernel
theorem dX6_signal_10 : decode cX6_signal 10 = .ok (.iload_n 3, 1) := by decide +kernel
theorem dX6_signal_11 : decode cX6_signal 11 = .ok (.invokestatic 117, 3) := by decide +kernel
theorem dX6_signal_14 : decode cX6_signal 14 = .ok (.iload_n 1, 1) := by decide +kernel
theorem dX6_signal_15 : decode cX6_signal 15 = .ok (.iload_n 2, 1) := by decide +kernel
theorem dX6_signal_16 : decode cX6_signal 16 = .ok (.invokestatic 125, 3) := by decide +kernel
theorem dX6_signal_19 : decode cX6_signal 19 = .ok (.aload_n 0, 1) := by decide +kernel
theorem dX6_signal_20 : decode cX6_signal 20 = .ok (.iload_n 1, 1) := by decide +kernel
theorem dX6_signal_21 : decode cX6_signal 21 = .ok (.iload_n 2, 1) := by decide +kernel
theorem dX6_signal_22 : decode cX6_signal 22 = .ok (.iload_n 3, 1) := by decide +kernel
theorem dX6_signal_23 : decode cX6_signal 23 = .ok (.invokevirtual 135, 3) := by decide +kernel
theorem dX6_signal_26 : decode cX6_signal 26 = .ok (.ireturn, 1) := by decide +kernel
theorem dX6_contactOf_0 : decode cX6_contactOf 0 = .ok (.aload_n 0, 1) := by decide +kernel
theorem dX6_contactOf_1 : decode cX6_contactOf 1 = .ok (.getfield 48, 3) := by decide +kernel
theorem dX6_contactOf_4 : decode cX6_contactOf 4 = .ok (.iload_n 1, 1) := by decide +kernel
theorem dX6_contactOf_5 : decode cX6_contactOf 5 = .ok (.invokevirtual 229, 3) := by decide +kernel
theorem dX6_contactOf_8 : decode cX6_contactOf 8 = .ok (.ifCond .ne 13, 3) := by decide +kernel
theorem dX6_contactOf_11 : decode cX6_contactOf 11 = .ok (.new 203, 3) := by decide +kernel
theorem dX6_contactOf_14 : decode cX6_contactOf 14 = .ok (.dup, 1) := by decide +kernel
theorem dX6_contactOf_15 : decode cX6_contactOf 15 = .ok (.ldc 233, 2) := by decide +kernel
theorem dX6_contactOf_17 : decode cX6_contactOf 17 = .ok (.invokespecial 207, 3) := by decide +kernel
theorem dX6_contactOf_20 : decode cX6_contactOf 20 = .ok (.athrow, 1) := by decide +kernel
theorem dX6_contactOf_21 : decode cX6_contactOf 21 = .ok (.iload_n 2, 1) := by decide +kernel
theorem dX6_contactOf_22 : decode cX6_contactOf 22 = .ok (.iconst 0, 1) := by decide +kernel
theorem dX6_contactOf_23 : decode cX6_contactOf 23 = .ok (.iconst 4, 1) := by decide +kernel
theorem dX6_contactOf_24 : decode cX6_contactOf 24 = .ok (.invokestatic 59, 3) := by decide +kernel
theorem dX6_contactOf_27 : decode cX6_contactOf 27 = .ok (.aload_n 0, 1) := by decide +kernel
theorem dX6_contactOf_28 : decode cX6_contactOf 28 = .ok (.getfield 48, 3) := by decide +kernel
theorem dX6_contactOf_31 : decode cX6_contactOf 31 = .ok (.iload_n 1, 1) := by decide +kernel
theorem dX6_contactOf_32 : decode cX6_contactOf 32 = .ok (.iload_n 2, 1) := by decide +kernel
theorem dX6_contactOf_33 : decode cX6_contactOf 33 = .ok (.invokevirtual 235, 3) := by decide +kernel
theorem dX6_contactOf_36 : decode cX6_contactOf 36 = .ok (.ireturn, 1) := by decide +kernel
theorem dX6_entryOf_0 : decode cX6_entryOf 0 = .ok (.aload_n 0, 1) := by decide +kernel
theorem dX6_entryOf_1 : decode cX6_entryOf 1 = .ok (.getfield 55, 3) := by decide +kernel
theorem dX6_entryOf_4 : decode cX6_entryOf 4 = .ok (.iload_n 1, 1) := by decide +kernel
theorem dX6_entryOf_5 : decode cX6_entryOf 5 = .ok (.invokevirtual 237, 3) := by decide +kernel
theorem dX6_entryOf_8 : decode cX6_entryOf 8 = .ok (.ifCond .ne 13, 3) := by decide +kernel
theorem dX6_entryOf_11 : decode cX6_entryOf 11 = .ok (.new 203, 3) := by decide +kernel
theorem dX6_entryOf_14 : decode cX6_entryOf 14 = .ok (.dup, 1) := by decide +kernel
theorem dX6_entryOf_15 : decode cX6_entryOf 15 = .ok (.ldc 238, 2) := by decide +kernel
theorem dX6_entryOf_17 : decode cX6_entryOf 17 = .ok (.invokespecial 207, 3) := by decide +kernel
theorem dX6_entryOf_20 : decode cX6_entryOf 20 = .ok (.athrow, 1) := by decide +kernel
theorem dX6_entryOf_21 : decode cX6_entryOf 21 = .ok (.iload_n 2, 1) := by decide +kernel
theorem dX6_entryOf_22 : decode cX6_entryOf 22 = .ok (.iconst 0, 1) := by decide +kernel
theorem dX6_entryOf_23 : decode cX6_entryOf 23 = .ok (.iconst 5, 1) := by decide +kernel
theorem dX6_entryOf_24 : decode cX6_entryOf 24 = .ok (.invokestatic 59, 3) := by decide +kernel
theorem dX6_entryOf_27 : decode cX6_entryOf 27 = .ok (.iload_n 2, 1) := by decide +kernel
theorem dX6_entryOf_28 : decode cX6_entryOf 28 = .ok (.iconst 5, 1) := by decide +kernel
theorem dX6_entryOf_29 : decode cX6_entryOf 29 = .ok (.if_icmp .ne 17, 3) := by decide +kernel
theorem dX6_entryOf_32 : decode cX6_entryOf 32 = .ok (.aload_n 0, 1) := by decide +kernel
theorem dX6_entryOf_33 : decode cX6_entryOf 33 = .ok (.iload_n 1, 1) := by decide +kernel
theorem dX6_entryOf_34 : decode cX6_entryOf 34 = .ok (.invokevirtual 240, 3) := by decide +kernel
theorem dX6_entryOf_37 : decode cX6_entryOf 37 = .ok (.ifCond .eq 7, 3) := by decide +kernel
theorem dX6_entryOf_40 : decode cX6_entryOf 40 = .ok (.iconst 1, 1) := by decide +kernel
theorem dX6_entryOf_41 : decode cX6_entryOf 41 = .ok (.goto 4, 3) := by decide +kernel
theorem dX6_entryOf_44 : decode cX6_entryOf 44 = .ok (.iconst 0, 1) := by decide +kernel
theorem dX6_entryOf_45 : decode cX6_entryOf 45 = .ok (.ireturn, 1) := by decide +kernel
theorem dX6_entryOf_46 : decode cX6_entryOf 46 = .ok (.aload_n 0, 1) := by decide +kernel
theorem dX6_entryOf_47 : decode cX6_entryOf 47 = .ok (.getfield 55, 3) := by decide +kernel
theorem dX6_entryOf_50 : decode cX6_entryOf 50 = .ok (.iload_n 1, 1) := by decide +kernel
theorem dX6_entryOf_51 : decode cX6_entryOf 51 = .ok (.iload_n 2, 1) := by decide +kernel
theorem dX6_entryOf_52 : decode cX6_entryOf 52 = .ok (.invokevirtual 243, 3) := by decide +kernel
theorem dX6_entryOf_55 : decode cX6_entryOf 55 = .ok (.ireturn, 1) := by decide +kernel
theorem dX6_score_0 : decode cX6_score 0 = .ok (.aload_n 0, 1) := by decide +kernel
theorem dX6_score_1 : decode cX6_score 1 = .ok (.iload_n 1, 1) := by decide +kernel
theorem dX6_score_2 : decode cX6_score 2 = .ok (.invokevirtual 122, 3) := by decide +kernel
theorem dX6_score_5 : decode cX6_score 5 = .ok (.iconst 0, 1) := by decide +kernel
theorem dX6_score_6 : decode cX6_score 6 = .ok (.istore_n 2, 1) := by decide +kernel
theorem dX6_score_7 : decode cX6_score 7 = .ok (.iconst 0, 1) := by decide +kernel
theorem dX6_score_8 : decode cX6_score 8 = .ok (.istore_n 3, 1) := by decide +kernel
theorem dX6_score_9 : decode cX6_score 9 = .ok (.iconst 0, 1) := by decide +kernel
theorem dX6_score_10 : decode cX6_score 10 = .ok (.istore 4, 2) := by decide +kernel
theorem dX6_score_12 : decode cX6_score 12 = .ok (.iconst 0, 1) := by decide +kernel
theorem dX6_score_13 : decode cX6_score 13 = .ok (.istore 5, 2) := by decide +kernel
theorem dX6_score_15 : decode cX6_score 15 = .ok (.iload 5, 2) := by decide +kernel
theorem dX6_score_17 : decode cX6_score 17 = .ok (.aload_n 0, 1) := by decide +kernel
theorem dX6_score_18 : decode cX6_score 18 = .ok (.getfield 55, 3) := by decide +kernel
theorem dX6_score_21 : decode cX6_score 21 = .ok (.getfield 244, 3) := by decide +kernel
theorem dX6_score_24 : decode cX6_score 24 = .ok (.if_icmp .ge 129, 3) := by decide +kernel
theorem dX6_score_27 : decode cX6_score 27 = .ok (.aload_n 0, 1) := by decide +kernel
theorem dX6_score_28 : decode cX6_score 28 = .ok (.getfield 55, 3) := by decide +kernel
theorem dX6_score_31 : decode cX6_score 31 = .ok (.getfield 245, 3) := by decide +kernel
theorem dX6_score_34 : decode cX6_score 34 = .ok (.iload 5, 2) := by decide +kernel
theorem dX6_score_36 : decode cX6_score 36 = .ok (.iaload, 1) := by decide +kernel
theorem dX6_score_37 : decode cX6_score 37 = .ok (.iload_n 1, 1) := by decide +kernel
theorem dX6_score_38 : decode cX6_score 38 = .ok (.if_icmp .eq 6, 3) := by decide +kernel
theorem dX6_score_41 : decode cX6_score 41 = .ok (.goto 106, 3) := by decide +kernel
theorem dX6_score_44 : decode cX6_score 44 = .ok (.aload_n 0, 1) := by decide +kernel
theorem dX6_score_45 : decode cX6_score 45 = .ok (.iload 5, 2) := by decide +kernel
theorem dX6_score_47 : decode cX6_score 47 = .ok (.invokevirtual 240, 3) := by decide +kernel
theorem dX6_score_50 : decode cX6_score 50 = .ok (.ifCond .eq 58, 3) := by decide +kernel
theorem dX6_score_53 : decode cX6_score 53 = .ok (.aload_n 0, 1) := by decide +kernel
theorem dX6_score_54 : decode cX6_score 54 = .ok (.getfield 38, 3) := by decide +kernel
theorem dX6_score_57 : decode cX6_score 57 = .ok (.getfield 248, 3) := by decide +kernel
theorem dX6_score_60 : decode cX6_score 60 = .ok (.aload_n 0, 1) := by decide +kernel
theorem dX6_score_61 : decode cX6_score 61 = .ok (.getfield 55, 3) := by decide +kernel
theorem dX6_score_64 : decode cX6_score 64 = .ok (.getfield 251, 3) := by decide +kernel
theorem dX6_score_67 : decode cX6_score 67 = .ok (.iload 5, 2) := by decide +kernel
theorem dX6_score_69 : decode cX6_score 69 = .ok (.iaload, 1) := by decide +kernel
theorem dX6_score_70 : decode cX6_score 70 = .ok (.iaload, 1) := by decide +kernel
theorem dX6_score_71 : decode cX6_score 71 = .ok (.istore 6, 2) := by decide +kernel
theorem dX6_score_73 : decode cX6_score 73 = .ok (.iload_n 2, 1) := by decide +kernel
theorem dX6_score_74 : decode cX6_score 74 = .ok (.iconst 1, 1) := by decide +kernel
theorem dX6_score_75 : decode cX6_score 75 = .ok (.aload_n 0, 1) := by decide +kernel
theorem dX6_score_76 : decode cX6_score 76 = .ok (.getfield 38, 3) := by decide +kernel
theorem dX6_score_79 : decode cX6_score 79 = .ok (.getfield 248, 3) := by decide +kernel
theorem dX6_score_82 : decode cX6_score 82 = .ok (.iload_n 1, 1) := by decide +kernel
theorem dX6_score_83 : decode cX6_score 83 = .ok (.iaload, 1) := by decide +kernel
theorem dX6_score_84 : decode cX6_score 84 = .ok (.iload 6, 2) := by decide +kernel
theorem dX6_score_86 : decode cX6_score 86 = .ok (.invokestatic 254, 3) := by decide +kernel
theorem dX6_score_89 : decode cX6_score 89 = .ok (.bipush 6, 2) := by decide +kernel
theorem dX6_score_91 : decode cX6_score 91 = .ok (.idiv, 1) := by decide +kernel
theorem dX6_score_92 : decode cX6_score 92 = .ok (.iadd, 1) := by decide +kernel
theorem dX6_score_93 : decode cX6_score 93 = .ok (.iadd, 1) := by decide +kernel
theorem dX6_score_94 : decode cX6_score 94 = .ok (.istore_n 2, 1) := by decide +kernel
theorem dX6_score_95 : decode cX6_score 95 = .ok (.iload_n 3, 1) := by decide +kernel
theorem dX6_score_96 : decode cX6_score 96 = .ok (.iconst 1, 1) := by decide +kernel
theorem dX6_score_97 : decode cX6_score 97 = .ok (.iload 6, 2) := by decide +kernel
theorem dX6_score_99 : decode cX6_score 99 = .ok (.bipush 6, 2) := by decide +kernel
theorem dX6_score_101 : decode cX6_score 101 = .ok (.idiv, 1) := by decide +kernel
theorem dX6_score_102 : decode cX6_score 102 = .ok (.ishl, 1) := by decide +kernel
theorem dX6_score_103 : decode cX6_score 103 = .ok (.ior, 1) := by decide +kernel
theorem dX6_score_104 : decode cX6_score 104 = .ok (.istore_n 3, 1) := by decide +kernel
theorem dX6_score_105 : decode cX6_score 105 = .ok (.goto 42, 3) := by decide +kernel
theorem dX6_score_108 : decode cX6_score 108 = .ok (.aload_n 0, 1) := by decide +kernel
theorem dX6_score_109 : decode cX6_score 109 = .ok (.getfield 55, 3) := by decide +kernel
theorem dX6_score_112 : decode cX6_score 112 = .ok (.getfield 257, 3) := by decide +kernel
theorem dX6_score_115 : decode cX6_score 115 = .ok (.iload 5, 2) := by decide +kernel
theorem dX6_score_117 : decode cX6_score 117 = .ok (.iaload, 1) := by decide +kernel
theorem dX6_score_118 : decode cX6_score 118 = .ok (.iconst (-1), 1) := by decide +kernel
theorem dX6_score_119 : decode cX6_score 119 = .ok (.if_icmp .ne 28, 3) := by decide +kernel
theorem dX6_score_122 : decode cX6_score 122 = .ok (.aload_n 0, 1) := by decide +kernel
theorem dX6_score_123 : decode cX6_score 123 = .ok (.getfield 12, 3) := by decide +kernel
theorem dX6_score_126 : decode cX6_score 126 = .ok (.getfield 94, 3) := by decide +kernel
theorem dX6_score_129 : decode cX6_score 129 = .ok (.aload_n 0, 1) := by decide +kernel
theorem dX6_score_130 : decode cX6_score 130 = .ok (.getfield 55, 3) := by decide +kernel
theorem dX6_score_133 : decode cX6_score 133 = .ok (.getfield 260, 3) := by decide +kernel
theorem dX6_score_136 : decode cX6_score 136 = .ok (.iload 5, 2) := by decide +kernel
theorem dX6_score_138 : decode cX6_score 138 = .ok (.iaload, 1) := by decide +kernel
theorem dX6_score_139 : decode cX6_score 139 = .ok (.isub, 1) := by decide +kernel
theorem dX6_score_140 : decode cX6_score 140 = .ok (.iconst 2, 1) := by decide +kernel
theorem dX6_score_141 : decode cX6_score 141 = .ok (.if_icmp .lt 6, 3) := by decide +kernel
theorem dX6_score_144 : decode cX6_score 144 = .ok (.iinc 4 1, 3) := by decide +kernel
theorem dX6_score_147 : decode cX6_score 147 = .ok (.iinc 5 1, 3) := by decide +kernel
theorem dX6_score_150 : decode cX6_score 150 = .ok (.goto (-135), 3) := by decide +kernel
theorem dX6_score_153 : decode cX6_score 153 = .ok (.iload_n 2, 1) := by decide +kernel
theorem dX6_score_154 : decode cX6_score 154 = .ok (.iload_n 3, 1) := by decide +kernel
theorem dX6_score_155 : decode cX6_score 155 = .ok (.invokestatic 263, 3) := by decide +kernel
theorem dX6_score_158 : decode cX6_score 158 = .ok (.imul, 1) := by decide +kernel
theorem dX6_score_159 : decode cX6_score 159 = .ok (.iconst 3, 1) := by decide +kernel
theorem dX6_score_160 : decode cX6_score 160 = .ok (.iload 4, 2) := by decide +kernel
theorem dX6_score_162 : decode cX6_score 162 = .ok (.imul, 1) := by decide +kernel
theorem dX6_score_163 : decode cX6_score 163 = .ok (.isub, 1) := by decide +kernel
theorem dX6_score_164 : decode cX6_score 164 = .ok (.ireturn, 1) := by decide +kernel
theorem dX6_forecasts_0 : decode cX6_forecasts 0 = .ok (.iload_n 1, 1) := by decide +kernel
theorem dX6_forecasts_1 : decode cX6_forecasts 1 = .ok (.ifCond .eq 10, 3) := by decide +kernel
theorem dX6_forecasts_4 : decode cX6_forecasts 4 = .ok (.aload_n 0, 1) := by decide +kernel
theorem dX6_forecasts_5 : decode cX6_forecasts 5 = .ok (.getfield 158, 3) := by decide +kernel
theorem dX6_forecasts_8 : decode cX6_forecasts 8 = .ok (.goto 7, 3) := by decide +kernel
theorem dX6_forecasts_11 : decode cX6_forecasts 11 = .ok (.aload_n 0, 1) := by decide +kernel
theorem dX6_forecasts_12 : decode cX6_forecasts 12 = .ok (.getfield 161, 3) := by decide +kernel
theorem dX6_forecasts_15 : decode cX6_forecasts 15 = .ok (.ireturn, 1) := by decide +kernel
theorem dX6_count_0 : decode cX6_count 0 = .ok (.iload_n 1, 1) := by decide +kernel
theorem dX6_count_1 : decode cX6_count 1 = .ok (.iconst 0, 1) := by decide +kernel
theorem dX6_count_2 : decode cX6_count 2 = .ok (.iconst 4, 1) := by decide +kernel
theorem dX6_count_3 : decode cX6_count 3 = .ok (.invokestatic 59, 3) := by decide +kernel
theorem dX6_count_6 : decode cX6_count 6 = .ok (.iload_n 1, 1) := by decide +kernel
theorem dX6_count_7 : decode cX6_count 7 = .ok (.tableswitch 61 0 3 #[29, 37, 45, 53], 29) := by decide +kernel
theorem dX6_count_36 : decode cX6_count 36 = .ok (.aload_n 0, 1) := by decide +kernel
theorem dX6_count_37 : decode cX6_count 37 = .ok (.getfield 38, 3) := by decide +kernel
theorem dX6_count_40 : decode cX6_count 40 = .ok (.getfield 148, 3) := by decide +kernel
theorem dX6_count_43 : decode cX6_count 43 = .ok (.ireturn, 1) := by decide +kernel
theorem dX6_count_44 : decode cX6_count 44 = .ok (.aload_n 0, 1) := by decide +kernel
theorem dX6_count_45 : decode cX6_count 45 = .ok (.getfield 42, 3) := by decide +kernel
theorem dX6_count_48 : decode cX6_count 48 = .ok (.getfield 148, 3) := by decide +kernel
theorem dX6_count_51 : decode cX6_count 51 = .ok (.ireturn, 1) := by decide +kernel
theorem dX6_count_52 : decode cX6_count 52 = .ok (.aload_n 0, 1) := by decide +kernel
theorem dX6_count_53 : decode cX6_count 53 = .ok (.getfield 48, 3) := by decide +kernel
theorem dX6_count_56 : decode cX6_count 56 = .ok (.getfield 268, 3) := by decide +kernel
theorem dX6_count_59 : decode cX6_count 59 = .ok (.ireturn, 1) := by decide +kernel
theorem dX6_count_60 : decode cX6_count 60 = .ok (.aload_n 0, 1) := by decide +kernel
theorem dX6_count_61 : decode cX6_count 61 = .ok (.getfield 55, 3) := by decide +kernel
theorem dX6_count_64 : decode cX6_count 64 = .ok (.getfield 244, 3) := by decide +kernel
theorem dX6_count_67 : decode cX6_count 67 = .ok (.ireturn, 1) := by decide +kernel
theorem dX6_count_68 : decode cX6_count 68 = .ok (.aload_n 0, 1) := by decide +kernel
theorem dX6_count_69 : decode cX6_count 69 = .ok (.getfield 55, 3) := by decide +kernel
theorem dX6_count_72 : decode cX6_count 72 = .ok (.getfield 269, 3) := by decide +kernel
theorem dX6_count_75 : decode cX6_count 75 = .ok (.ireturn, 1) := by decide +kernel
theorem dX6_needPlace_0 : decode cX6_needPlace 0 = .ok (.iload_n 0, 1) := by decide +kernel
theorem dX6_needPlace_1 : decode cX6_needPlace 1 = .ok (.ifCond .lt 9, 3) := by decide +kernel
theorem dX6_needPlace_4 : decode cX6_needPlace 4 = .ok (.iload_n 0, 1) := by decide +kernel
theorem dX6_needPlace_5 : decode cX6_needPlace 5 = .ok (.bipush 48, 2) := by decide +kernel
theorem dX6_needPlace_7 : decode cX6_needPlace 7 = .ok (.if_icmp .lt 14, 3) := by decide +kernel
theorem dX6_needPlace_10 : decode cX6_needPlace 10 = .ok (.new 203, 3) := by decide +kernel
theorem dX6_needPlace_13 : decode cX6_needPlace 13 = .ok (.dup, 1) := by decide +kernel
theorem dX6_needPlace_14 : decode cX6_needPlace 14 = .ok (.ldc_w 272, 3) := by decide +kernel
theorem dX6_needPlace_17 : decode cX6_needPlace 17 = .ok (.invokespecial 207, 3) := by decide +kernel
