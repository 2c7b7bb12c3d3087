theorem dX7_init_0 : decode cX7_init 0 = .ok (.aload_n 0, 1) := by decide +kernel
theorem dX7_init_1 : decode cX7_init 1 = .ok (.invokespecial 1, 3) := by decide +kernel
theorem dX7_init_4 : decode cX7_init 4 = .ok (.aload_n 0, 1) := by decide +kernel
theorem dX7_init_5 : decode cX7_init 5 = .ok (.new 7, 3) := by decide +kernel
theorem dX7_init_8 : decode cX7_init 8 = .ok (.dup, 1) := by decide +kernel
theorem dX7_init_9 : decode cX7_init 9 = .ok (.invokespecial 9, 3) := by decide +kernel
theorem dX7_init_12 : decode cX7_init 12 = .ok (.putfield 10, 3) := by decide +kernel
theorem dX7_init_15 : decode cX7_init 15 = .ok (.aload_n 0, 1) := by decide +kernel
theorem dX7_init_16 : decode cX7_init 16 = .ok (.new 7, 3) := by decide +kernel
theorem dX7_init_19 : decode cX7_init 19 = .ok (.dup, 1) := by decide +kernel
theorem dX7_init_20 : decode cX7_init 20 = .ok (.invokespecial 9, 3) := by decide +kernel
theorem dX7_init_23 : decode cX7_init 23 = .ok (.putfield 16, 3) := by decide +kernel
theorem dX7_init_26 : decode cX7_init 26 = .ok (.aload_n 0, 1) := by decide +kernel
theorem dX7_init_27 : decode cX7_init 27 = .ok (.new 7, 3) := by decide +kernel
theorem dX7_init_30 : decode cX7_init 30 = .ok (.dup, 1) := by decide +kernel
theorem dX7_init_31 : decode cX7_init 31 = .ok (.invokespecial 9, 3) := by decide +kernel
theorem dX7_init_34 : decode cX7_init 34 = .ok (.putfield 19, 3) := by decide +kernel
theorem dX7_init_37 : decode cX7_init 37 = .ok (.aload_n 0, 1) := by decide +kernel
theorem dX7_init_38 : decode cX7_init 38 = .ok (.iconst 0, 1) := by decide +kernel
theorem dX7_init_39 : decode cX7_init 39 = .ok (.putfield 22, 3) := by decide +kernel
theorem dX7_init_42 : decode cX7_init 42 = .ok (.aload_n 0, 1) := by decide +kernel
theorem dX7_init_43 : decode cX7_init 43 = .ok (.new 26, 3) := by decide +kernel
theorem dX7_init_46 : decode cX7_init 46 = .ok (.dup, 1) := by decide +kernel
theorem dX7_init_47 : decode cX7_init 47 = .ok (.invokespecial 28, 3) := by decide +kernel
theorem dX7_init_50 : decode cX7_init 50 = .ok (.putfield 29, 3) := by decide +kernel
theorem dX7_init_53 : decode cX7_init 53 = .ok (.aload_n 0, 1) := by decide +kernel
theorem dX7_init_54 : decode cX7_init 54 = .ok (.new 33, 3) := by decide +kernel
theorem dX7_init_57 : decode cX7_init 57 = .ok (.dup, 1) := by decide +kernel
theorem dX7_init_58 : decode cX7_init 58 = .ok (.invokespecial 35, 3) := by decide +kernel
theorem dX7_init_61 : decode cX7_init 61 = .ok (.putfield 36, 3) := by decide +kernel
theorem dX7_init_64 : decode cX7_init 64 = .ok (.aload_n 0, 1) := by decide +kernel
theorem dX7_init_65 : decode cX7_init 65 = .ok (.new 40, 3) := by decide +kernel
theorem dX7_init_68 : decode cX7_init 68 = .ok (.dup, 1) := by decide +kernel
theorem dX7_init_69 : decode cX7_init 69 = .ok (.aload_n 0, 1) := by decide +kernel
theorem dX7_init_70 : decode cX7_init 70 = .ok (.getfield 36, 3) := by decide +kernel
theorem dX7_init_73 : decode cX7_init 73 = .ok (.invokespecial 42, 3) := by decide +kernel
theorem dX7_init_76 : decode cX7_init 76 = .ok (.putfield 45, 3) := by decide +kernel
theorem dX7_init_79 : decode cX7_init 79 = .ok (.aload_n 0, 1) := by decide +kernel
theorem dX7_init_80 : decode cX7_init 80 = .ok (.iconst 4, 1) := by decide +kernel
theorem dX7_init_81 : decode cX7_init 81 = .ok (.anewarray 49, 3) := by decide +kernel
theorem dX7_init_84 : decode cX7_init 84 = .ok (.putfield 51, 3) := by decide +kernel
theorem dX7_init_87 : decode cX7_init 87 = .ok (.aload_n 0, 1) := by decide +kernel
theorem dX7_init_88 : decode cX7_init 88 = .ok (.bipush 7, 2) := by decide +kernel
theorem dX7_init_90 : decode cX7_init 90 = .ok (.newarray .int, 2) := by decide +kernel
theorem dX7_init_92 : decode cX7_init 92 = .ok (.putfield 55, 3) := by decide +kernel
theorem dX7_init_95 : decode cX7_init 95 = .ok (.iconst 0, 1) := by decide +kernel
theorem dX7_init_96 : decode cX7_init 96 = .ok (.istore_n 1, 1) := by decide +kernel
theorem dX7_init_97 : decode cX7_init 97 = .ok (.iload_n 1, 1) := by decide +kernel
theorem dX7_init_98 : decode cX7_init 98 = .ok (.iconst 4, 1) := by decide +kernel
theorem dX7_init_99 : decode cX7_init 99 = .ok (.if_icmp .ge 22, 3) := by decide +kernel
theorem dX7_init_102 : decode cX7_init 102 = .ok (.aload_n 0, 1) := by decide +kernel
theorem dX7_init_103 : decode cX7_init 103 = .ok (.getfield 51, 3) := by decide +kernel
theorem dX7_init_106 : decode cX7_init 106 = .ok (.iload_n 1, 1) := by decide +kernel
theorem dX7_init_107 : decode cX7_init 107 = .ok (.new 49, 3) := by decide +kernel
theorem dX7_init_110 : decode cX7_init 110 = .ok (.dup, 1) := by decide +kernel
theorem dX7_init_111 : decode cX7_init 111 = .ok (.invokespecial 59, 3) := by decide +kernel
theorem dX7_init_114 : decode cX7_init 114 = .ok (.aastore, 1) := by decide +kernel
theorem dX7_init_115 : decode cX7_init 115 = .ok (.iinc 1 1, 3) := by decide +kernel
theorem dX7_init_118 : decode cX7_init 118 = .ok (.goto (-21), 3) := by decide +kernel
theorem dX7_init_121 : decode cX7_init 121 = .ok (.return_, 1) := by decide +kernel
theorem dX7_step_0 : decode cX7_step 0 = .ok (.iload_n 1, 1) := by decide +kernel
theorem dX7_step_1 : decode cX7_step 1 = .ok (.invokestatic 60, 3) := by decide +kernel
theorem dX7_step_4 : decode cX7_step 4 = .ok (.ifCond .ne 9, 3) := by decide +kernel
theorem dX7_step_7 : decode cX7_step 7 = .ok (.aload_n 0, 1) := by decide +kernel
theorem dX7_step_8 : decode cX7_step 8 = .ok (.iconst 0, 1) := by decide +kernel
theorem dX7_step_9 : decode cX7_step 9 = .ok (.invokevirtual 64, 3) := by decide +kernel
theorem dX7_step_12 : decode cX7_step 12 = .ok (.ireturn, 1) := by decide +kernel
theorem dX7_step_13 : decode cX7_step 13 = .ok (.aload_n 0, 1) := by decide +kernel
theorem dX7_step_14 : decode cX7_step 14 = .ok (.getfield 10, 3) := by decide +kernel
theorem dX7_step_17 : decode cX7_step 17 = .ok (.getfield 68, 3) := by decide +kernel
theorem dX7_step_20 : decode cX7_step 20 = .ok (.astore 4, 2) := by decide +kernel
theorem dX7_step_22 : decode cX7_step 22 = .ok (.iload_n 2, 1) := by decide +kernel
theorem dX7_step_23 : decode cX7_step 23 = .ok (.tableswitch 65 0 2 #[25, 38, 52], 25) := by decide +kernel
theorem dX7_step_48 : decode cX7_step 48 = .ok (.aload 4, 2) := by decide +kernel
theorem dX7_step_50 : decode cX7_step 50 = .ok (.getfield 72, 3) := by decide +kernel
theorem dX7_step_53 : decode cX7_step 53 = .ok (.astore 5, 2) := by decide +kernel
theorem dX7_step_55 : decode cX7_step 55 = .ok (.iconst 2, 1) := by decide +kernel
theorem dX7_step_56 : decode cX7_step 56 = .ok (.istore 6, 2) := by decide +kernel
theorem dX7_step_58 : decode cX7_step 58 = .ok (.goto 36, 3) := by decide +kernel
theorem dX7_step_61 : decode cX7_step 61 = .ok (.aload 4, 2) := by decide +kernel
theorem dX7_step_63 : decode cX7_step 63 = .ok (.getfield 77, 3) := by decide +kernel
theorem dX7_step_66 : decode cX7_step 66 = .ok (.astore 5, 2) := by decide +kernel
theorem dX7_step_68 : decode cX7_step 68 = .ok (.bipush 99, 2) := by decide +kernel
theorem dX7_step_70 : decode cX7_step 70 = .ok (.istore 6, 2) := by decide +kernel
theorem dX7_step_72 : decode cX7_step 72 = .ok (.goto 22, 3) := by decide +kernel
theorem dX7_step_75 : decode cX7_step 75 = .ok (.aload 4, 2) := by decide +kernel
theorem dX7_step_77 : decode cX7_step 77 = .ok (.getfield 80, 3) := by decide +kernel
theorem dX7_step_80 : decode cX7_step 80 = .ok (.astore 5, 2) := by decide +kernel
theorem dX7_step_82 : decode cX7_step 82 = .ok (.iconst 1, 1) := by decide +kernel
theorem dX7_step_83 : decode cX7_step 83 = .ok (.istore 6, 2) := by decide +kernel
theorem dX7_step_85 : decode cX7_step 85 = .ok (.goto 9, 3) := by decide +kernel
theorem dX7_step_88 : decode cX7_step 88 = .ok (.aload_n 0, 1) := by decide +kernel
theorem dX7_step_89 : decode cX7_step 89 = .ok (.iconst 0, 1) := by decide +kernel
theorem dX7_step_90 : decode cX7_step 90 = .ok (.invokevirtual 64, 3) := by decide +kernel
theorem dX7_step_93 : decode cX7_step 93 = .ok (.ireturn, 1) := by decide +kernel
theorem dX7_step_94 : decode cX7_step 94 = .ok (.iload_n 3, 1) := by decide +kernel
theorem dX7_step_95 : decode cX7_step 95 = .ok (.iload 6, 2) := by decide +kernel
theorem dX7_step_97 : decode cX7_step 97 = .ok (.invokestatic 83, 3) := by decide +kernel
theorem dX7_step_100 : decode cX7_step 100 = .ok (.ifCond .ne 9, 3) := by decide +kernel
theorem dX7_step_103 : decode cX7_step 103 = .ok (.aload_n 0, 1) := by decide +kernel
theorem dX7_step_104 : decode cX7_step 104 = .ok (.iconst 0, 1) := by decide +kernel
theorem dX7_step_105 : decode cX7_step 105 = .ok (.invokevirtual 64, 3) := by decide +kernel
theorem dX7_step_108 : decode cX7_step 108 = .ok (.ireturn, 1) := by decide +kernel
theorem dX7_step_109 : decode cX7_step 109 = .ok (.aload 5, 2) := by decide +kernel
theorem dX7_step_111 : decode cX7_step 111 = .ok (.iload_n 1, 1) := by decide +kernel
theorem dX7_step_112 : decode cX7_step 112 = .ok (.iaload, 1) := by decide +kernel
theorem dX7_step_113 : decode cX7_step 113 = .ok (.istore 7, 2) := by decide +kernel
theorem dX7_step_115 : decode cX7_step 115 = .ok (.aload 5, 2) := by decide +kernel
theorem dX7_step_117 : decode cX7_step 117 = .ok (.iload_n 1, 1) := by decide +kernel
theorem dX7_step_118 : decode cX7_step 118 = .ok (.iload_n 3, 1) := by decide +kernel
theorem dX7_step_119 : decode cX7_step 119 = .ok (.iastore, 1) := by decide +kernel
theorem dX7_step_120 : decode cX7_step 120 = .ok (.iload 7, 2) := by decide +kernel
theorem dX7_step_122 : decode cX7_step 122 = .ok (.ireturn, 1) := by decide +kernel
theorem dX7_stepOf_0 : decode cX7_stepOf 0 = .ok (.iload_n 1, 1) := by decide +kernel
theorem dX7_stepOf_1 : decode cX7_stepOf 1 = .ok (.invokestatic 60, 3) := by decide +kernel
theorem dX7_stepOf_4 : decode cX7_stepOf 4 = .ok (.ifCond .ne 9, 3) := by decide +kernel
theorem dX7_stepOf_7 : decode cX7_stepOf 7 = .ok (.aload_n 0, 1) := by decide +kernel
theorem dX7_stepOf_8 : decode cX7_stepOf 8 = .ok (.iconst 0, 1) := by decide +kernel
theorem dX7_stepOf_9 : decode cX7_stepOf 9 = .ok (.invokevirtual 64, 3) := by decide +kernel
theorem dX7_stepOf_12 : decode cX7_stepOf 12 = .ok (.ireturn, 1) := by decide +kernel
theorem dX7_stepOf_13 : decode cX7_stepOf 13 = .ok (.aload_n 0, 1) := by decide +kernel
theorem dX7_stepOf_14 : decode cX7_stepOf 14 = .ok (.getfield 10, 3) := by decide +kernel
theorem dX7_stepOf_17 : decode cX7_stepOf 17 = .ok (.getfield 68, 3) := by decide +kernel
theorem dX7_stepOf_20 : decode cX7_stepOf 20 = .ok (.astore_n 3, 1) := by decide +kernel
theorem dX7_stepOf_21 : decode cX7_stepOf 21 = .ok (.iload_n 2, 1) := by decide +kernel
theorem dX7_stepOf_22 : decode cX7_stepOf 22 = .ok (.tableswitch 71 0 4 #[34, 41, 48, 55, 61], 34) := by decide +kernel
theorem dX7_stepOf_56 : decode cX7_stepOf 56 = .ok (.aload_n 3, 1) := by decide +kernel
theorem dX7_stepOf_57 : decode cX7_stepOf 57 = .ok (.getfield 72, 3) := by decide +kernel
theorem dX7_stepOf_60 : decode cX7_stepOf 60 = .ok (.iload_n 1, 1) := by decide +kernel
theorem dX7_stepOf_61 : decode cX7_stepOf 61 = .ok (.iaload, 1) := by decide +kernel
theorem dX7_stepOf_62 : decode cX7_stepOf 62 = .ok (.ireturn, 1) := by decide +kernel
theorem dX7_stepOf_63 : decode cX7_stepOf 63 = .ok (.aload_n 3, 1) := by decide +kernel
theorem dX7_stepOf_64 : decode cX7_stepOf 64 = .ok (.getfield 77, 3) := by decide +kernel
theorem dX7_stepOf_67 : decode cX7_stepOf 67 = .ok (.iload_n 1, 1) := by decide +kernel
theorem dX7_stepOf_68 : decode cX7_stepOf 68 = .ok (.iaload, 1) := by decide +kernel
theorem dX7_stepOf_69 : decode cX7_stepOf 69 = .ok (.ireturn, 1) := by decide +kernel
theorem dX7_stepOf_70 : decode cX7_stepOf 70 = .ok (.aload_n 3, 1) := by decide +kernel
theorem dX7_stepOf_71 : decode cX7_stepOf 71 = .ok (.getfield 80, 3) := by decide +kernel
theorem dX7_stepOf_74 : decode cX7_stepOf 74 = .ok (.iload_n 1, 1) := by decide +kernel
theorem dX7_stepOf_75 : decode cX7_stepOf 75 = .ok (.iaload, 1) := by decide +kernel
theorem dX7_stepOf_76 : decode cX7_stepOf 76 = .ok (.ireturn, 1) := by decide +kernel
theorem dX7_stepOf_77 : decode cX7_stepOf 77 = .ok (.aload_n 3, 1) := by decide +kernel
theorem dX7_stepOf_78 : decode cX7_stepOf 78 = .ok (.iload_n 1, 1) := by decide +kernel
theorem dX7_stepOf_79 : decode cX7_stepOf 79 = .ok (.invokevirtual 87, 3) := by decide +kernel
theorem dX7_stepOf_82 : decode cX7_stepOf 82 = .ok (.ireturn, 1) := by decide +kernel
theorem dX7_stepOf_83 : decode cX7_stepOf 83 = .ok (.aload_n 0, 1) := by decide +kernel
theorem dX7_stepOf_84 : decode cX7_stepOf 84 = .ok (.getfield 10, 3) := by decide +kernel
theorem dX7_stepOf_87 : decode cX7_stepOf 87 = .ok (.iconst 1, 1) := by decide +kernel
theorem dX7_stepOf_88 : decode cX7_stepOf 88 = .ok (.iload_n 1, 1) := by decide +kernel
theorem dX7_stepOf_89 : decode cX7_stepOf 89 = .ok (.invokevirtual 90, 3) := by decide +kernel
theorem dX7_stepOf_92 : decode cX7_stepOf 92 = .ok (.ireturn, 1) := by decide +kernel
theorem dX7_stepOf_93 : decode cX7_stepOf 93 = .ok (.aload_n 0, 1) := by decide +kernel
theorem dX7_stepOf_94 : decode cX7_stepOf 94 = .ok (.iconst 0, 1) := by decide +kernel
theorem dX7_stepOf_95 : decode cX7_stepOf 95 = .ok (.invokevirtual 64, 3) := by decide +kernel
theorem dX7_stepOf_98 : decode cX7_stepOf 98 = .ok (.ireturn, 1) := by decide +kernel
theorem dX7_weather_0 : decode cX7_weather 0 = .ok (.iload_n 1, 1) := by decide +kernel
theorem dX7_weather_1 : decode cX7_weather 1 = .ok (.iconst 1, 1) := by decide +kernel
theorem dX7_weather_2 : decode cX7_weather 2 = .ok (.invokestatic 83, 3) := by decide +kernel
theorem dX7_weather_5 : decode cX7_weather 5 = .ok (.ifCond .eq 12, 3) := by decide +kernel
theorem dX7_weather_8 : decode cX7_weather 8 = .ok (.iload_n 2, 1) := by decide +kernel
theorem dX7_weather_9 : decode cX7_weather 9 = .ok (.bipush 99, 2) := by decide +kernel
theorem dX7_weather_11 : decode cX7_weather 11 = .ok (.invokestatic 83, 3) := by decide +kernel
theorem dX7_weather_14 : decode cX7_weather 14 = .ok (.ifCond .ne 9, 3) := by decide +kernel
theorem dX7_weather_17 : decode cX7_weather 17 = .ok (.aload_n 0, 1) := by decide +kernel
theorem dX7_weather_18 : decode cX7_weather 18 = .ok (.iconst 0, 1) := by decide +kernel
theorem dX7_weather_19 : decode cX7_weather 19 = .ok (.invokevirtual 64, 3) := by decide +kernel
theorem dX7_weather_22 : decode cX7_weather 22 = .ok (.ireturn, 1) := by decide +kernel
theorem dX7_weather_23 : decode cX7_weather 23 = .ok (.aload_n 0, 1) := by decide +kernel
theorem dX7_weather_24 : decode cX7_weather 24 = .ok (.getfield 10, 3) := by decide +kernel
theorem dX7_weather_27 : decode cX7_weather 27 = .ok (.getfield 68, 3) := by decide +kernel
theorem dX7_weather_30 : decode cX7_weather 30 = .ok (.astore_n 3, 1) := by decide +kernel
theorem dX7_weather_31 : decode cX7_weather 31 = .ok (.iload_n 1, 1) := by decide +kernel
theorem dX7_weather_32 : decode cX7_weather 32 = .ok (.ifCond .ne 17, 3) := by decide +kernel
theorem dX7_weather_35 : decode cX7_weather 35 = .ok (.aload_n 3, 1) := by decide +kernel
theorem dX7_weather_36 : decode cX7_weather 36 = .ok (.getfield 94, 3) := by decide +kernel
theorem dX7_weather_39 : decode cX7_weather 39 = .ok (.istore 4, 2) := by decide +kernel
theorem dX7_weather_41 : decode cX7_weather 41 = .ok (.aload_n 3, 1) := by decide +kernel
theorem dX7_weather_42 : decode cX7_weather 42 = .ok (.iload_n 2, 1) := by decide +kernel
theorem dX7_weather_43 : decode cX7_weather 43 = .ok (.putfield 94, 3) := by decide +kernel
theorem dX7_weather_46 : decode cX7_weather 46 = .ok (.iload 4, 2) := by decide +kernel
theorem dX7_weather_48 : decode cX7_weather 48 = .ok (.ireturn, 1) := by decide +kernel
theorem dX7_weather_49 : decode cX7_weather 49 = .ok (.aload_n 3, 1) := by decide +kernel
theorem dX7_weather_50 : decode cX7_weather 50 = .ok (.getfield 98, 3) := by decide +kernel
theorem dX7_weather_53 : decode cX7_weather 53 = .ok (.istore 4, 2) := by decide +kernel
theorem dX7_weather_55 : decode cX7_weather 55 = .ok (.aload_n 3, 1) := by decide +kernel
theorem dX7_weather_56 : decode cX7_weather 56 = .ok (.iload_n 2, 1) := by decide +kernel
theorem dX7_weather_57 : decode cX7_weather 57 = .ok (.putfield 98, 3) := by decide +kernel
theorem dX7_weather_60 : decode cX7_weather 60 = .ok (.iload 4, 2) := by decide +kernel
theorem dX7_weather_62 : decode cX7_weather 62 = .ok (.ireturn, 1) := by decide +kernel
theorem dX7_umbrella_0 : decode cX7_umbrella 0 = .ok (.iload_n 1, 1) := by decide +kernel
theorem dX7_umbrella_1 : decode cX7_umbrella 1 = .ok (.invokestatic 101, 3) := by decide +kernel
theorem dX7_umbrella_4 : decode cX7_umbrella 4 = .ok (.ifCond .ne 9, 3) := by decide +kernel
theorem dX7_umbrella_7 : decode cX7_umbrella 7 = .ok (.aload_n 0, 1) := by decide +kernel
theorem dX7_umbrella_8 : decode cX7_umbrella 8 = .ok (.iconst 0, 1) := by decide +kernel
theorem dX7_umbrella_9 : decode cX7_umbrella 9 = .ok (.invokevirtual 64, 3) := by decide +kernel
theorem dX7_umbrella_12 : decode cX7_umbrella 12 = .ok (.ireturn, 1) := by decide +kernel
theorem dX7_umbrella_13 : decode cX7_umbrella 13 = .ok (.aload_n 0, 1) := by decide +kernel
theorem dX7_umbrella_14 : decode cX7_umbrella 14 = .ok (.getfield 10, 3) := by decide +kernel
theorem dX7_umbrella_17 : decode cX7_umbrella 17 = .ok (.invokevirtual 104, 3) := by decide +kernel
theorem dX7_umbrella_20 : decode cX7_umbrella 20 = .ok (.ifCond .eq 9, 3) := by decide +kernel
theorem dX7_umbrella_23 : decode cX7_umbrella 23 = .ok (.aload_n 0, 1) := by decide +kernel
theorem dX7_umbrella_24 : decode cX7_umbrella 24 = .ok (.iconst 1, 1) := by decide +kernel
theorem dX7_umbrella_25 : decode cX7_umbrella 25 = .ok (.invokevirtual 64, 3) := by decide +kernel
theorem dX7_umbrella_28 : decode cX7_umbrella 28 = .ok (.ireturn, 1) := by decide +kernel
theorem dX7_umbrella_29 : decode cX7_umbrella 29 = .ok (.aload_n 0, 1) := by decide +kernel
theorem dX7_umbrella_30 : decode cX7_umbrella 30 = .ok (.getfield 10, 3) := by decide +kernel
theorem dX7_umbrella_33 : decode cX7_umbrella 33 = .ok (.iload_n 1, 1) := by decide +kernel
theorem dX7_umbrella_34 : decode cX7_umbrella 34 = .ok (.invokevirtual 108, 3) := by decide +kernel
theorem dX7_umbrella_37 : decode cX7_umbrella 37 = .ok (.ireturn, 1) := by decide +kernel
theorem dX7_of_0 : decode cX7_of 0 = .ok (.aload_n 0, 1) := by decide +kernel
theorem dX7_of_1 : decode cX7_of 1 = .ok (.iload_n 1, 1) := by decide +kernel
theorem dX7_of_2 : decode cX7_of 2 = .ok (.invokevirtual 111, 3) := by decide +kernel
theorem dX7_of_5 : decode cX7_of 5 = .ok (.ifCond .eq 12, 3) := by decide +kernel
theorem dX7_of_8 : decode cX7_of 8 = .ok (.iload_n 2, 1) := by decide +kernel
theorem dX7_of_9 : decode cX7_of 9 = .ok (.bipush 10, 2) := by decide +kernel
theorem dX7_of_11 : decode cX7_of 11 = .ok (.invokestatic 83, 3) := by decide +kernel
theorem dX7_of_14 : decode cX7_of 14 = .ok (.ifCond .ne 9, 3) := by decide +kernel
theorem dX7_of_17 : decode cX7_of 17 = .ok (.aload_n 0, 1) := by decide +kernel
theorem dX7_of_18 : decode cX7_of 18 = .ok (.iconst 0, 1) := by decide +kernel
theorem dX7_of_19 : decode cX7_of 19 = .ok (.invokevirtual 64, 3) := by decide +kernel
theorem dX7_of_22 : decode cX7_of 22 = .ok (.ireturn, 1) := by decide +kernel
theorem dX7_of_23 : decode cX7_of 23 = .ok (.aload_n 0, 1) := by decide +kernel
theorem dX7_of_24 : decode cX7_of 24 = .ok (.getfield 10, 3) := by decide +kernel
theorem dX7_of_27 : decode cX7_of 27 = .ok (.getfield 114, 3) := by decide +kernel
theorem dX7_of_30 : decode cX7_of 30 = .ok (.iload_n 1, 1) := by decide +kernel
theorem dX7_of_31 : decode cX7_of 31 = .ok (.aaload, 1) := by decide +kernel
theorem dX7_of_32 : decode cX7_of 32 = .ok (.astore_n 3, 1) := by decide +kernel
theorem dX7_of_33 : decode cX7_of 33 = .ok (.iload_n 2, 1) := by decide +kernel
theorem dX7_of_34 : decode cX7_of 34 = .ok (.tableswitch 58 8 10 #[26, 31, 43], 26) := by decide +kernel
theorem dX7_of_60 : decode cX7_of 60 = .ok (.aload_n 3, 1) := by decide +kernel
theorem dX7_of_61 : decode cX7_of 61 = .ok (.invokevirtual 118, 3) := by decide +kernel
theorem dX7_of_64 : decode cX7_of 64 = .ok (.ireturn, 1) := by decide +kernel
theorem dX7_of_65 : decode cX7_of 65 = .ok (.aload_n 3, 1) := by decide +kernel
theorem dX7_of_66 : decode cX7_of 66 = .ok (.aload_n 0, 1) := by decide +kernel
theorem dX7_of_67 : decode cX7_of 67 = .ok (.getfield 10, 3) := by decide +kernel
theorem dX7_of_70 : decode cX7_of 70 = .ok (.getfield 68, 3) := by decide +kernel
theorem dX7_of_73 : decode cX7_of 73 = .ok (.invokevirtual 124, 3) := by decide +kernel
theorem dX7_of_76 : decode cX7_of 76 = .ok (.ireturn, 1) := by decide +kernel
theorem dX7_of_77 : decode cX7_of 77 = .ok (.aload_n 3, 1) := by decide +kernel
theorem dX7_of_78 : decode cX7_of 78 = .ok (.aload_n 0, 1) := by decide +kernel
theorem dX7_of_79 : decode cX7_of 79 = .ok (.getfield 10, 3) := by decide +kernel
theorem dX7_of_82 : decode cX7_of 82 = .ok (.getfield 68, 3) := by decide +kernel
theorem dX7_of_85 : decode cX7_of 85 = .ok (.getfield 128, 3) := by decide +kernel
theorem dX7_of_88 : decode cX7_of 88 = .ok (.invokevirtual 131, 3) := by decide +kernel
theorem dX7_of_91 : decode cX7_of 91 = .ok (.ireturn, 1) := by decide +kernel
theorem dX7_of_92 : decode cX7_of 92 = .ok (.aload_n 3, 1) := by decide +kernel
theorem dX7_of_93 : decode cX7_of 93 = .ok (.iload_n 2, 1) := by decide +kernel
theorem dX7_of_94 : decode cX7_of 94 = .ok (.invokevirtual 134, 3) := by decide +kernel
theorem dX7_of_97 : decode cX7_of 97 = .ok (.ireturn, 1) := by decide +kernel
theorem dX7_change_0 : decode cX7_change 0 = .ok (.aload_n 0, 1) := by decide +kernel
theorem dX7_change_1 : decode cX7_change 1 = .ok (.iload_n 1, 1) := by decide +kernel
theorem dX7_change_2 : decode cX7_change 2 = .ok (.invokevirtual 111, 3) := by decide +kernel
theorem dX7_change_5 : decode cX7_change 5 = .ok (.ifCond .eq 24, 3) := by decide +kernel
theorem dX7_change_8 : decode cX7_change 8 = .ok (.iload_n 2, 1) := by decide +kernel
theorem dX7_change_9 : decode cX7_change 9 = .ok (.bipush 7, 2) := by decide +kernel
theorem dX7_change_11 : decode cX7_change 11 = .ok (.invokestatic 83, 3) := by decide +kernel
theorem dX7_change_14 : decode cX7_change 14 = .ok (.ifCond .eq 15, 3) := by decide +kernel
theorem dX7_change_17 : decode cX7_change 17 = .ok (.iload_n 3, 1) := by decide +kernel
theorem dX7_change_18 : decode cX7_change 18 = .ok (.getstatic 137, 3) := by decide +kernel
theorem dX7_change_21 : decode cX7_change 21 = .ok (.iload_n 2, 1) := by decide +kernel
theorem dX7_change_22 : decode cX7_change 22 = .ok (.iaload, 1) := by decide +kernel
theorem dX7_change_23 : decode cX7_change 23 = .ok (.invokestatic 83, 3) := by decide +kernel
theorem dX7_change_26 : decode cX7_change 26 = .ok (.ifCond .ne 9, 3) := by decide +kernel
theorem dX7_change_29 : decode cX7_change 29 = .ok (.aload_n 0, 1) := by decide +kernel
theorem dX7_change_30 : decode cX7_change 30 = .ok (.iconst 0, 1) := by decide +kernel
theorem dX7_change_31 : decode cX7_change 31 = .ok (.invokevirtual 64, 3) := by decide +kernel
theorem dX7_change_34 : decode cX7_change 34 = .ok (.ireturn, 1) := by decide +kernel
theorem dX7_change_35 : decode cX7_change 35 = .ok (.aload_n 0, 1) := by decide +kernel
theorem dX7_change_36 : decode cX7_change 36 = .ok (.getfield 10, 3) := by decide +kernel
theorem dX7_change_39 : decode cX7_change 39 = .ok (.getfield 114, 3) := by decide +kernel
theorem dX7_change_42 : decode cX7_change 42 = .ok (.iload_n 1, 1) := by decide +kernel
theorem dX7_change_43 : decode cX7_change 43 = .ok (.aaload, 1) := by decide +kernel
theorem dX7_change_44 : decode cX7_change 44 = .ok (.astore 4, 2) := by decide +kernel
theorem dX7_change_46 : decode cX7_change 46 = .ok (.aload 4, 2) := by decide +kernel
theorem dX7_change_48 : decode cX7_change 48 = .ok (.iload_n 2, 1) := by decide +kernel
theorem dX7_change_49 : decode cX7_change 49 = .ok (.invokevirtual 134, 3) := by decide +kernel
theorem dX7_change_52 : decode cX7_change 52 = .ok (.istore 5, 2) := by decide +kernel
theorem dX7_change_54 : decode cX7_change 54 = .ok (.aload 4, 2) := by decide +kernel
theorem dX7_change_56 : decode cX7_change 56 = .ok (.iload_n 2, 1) := by decide +kernel
theorem dX7_change_57 : decode cX7_change 57 = .ok (.iload_n 3, 1) := by decide +kernel
theorem dX7_change_58 : decode cX7_change 58 = .ok (.invokevirtual 140, 3) := by decide +kernel
theorem dX7_change_61 : decode cX7_change 61 = .ok (.iload 5, 2) := by decide +kernel
theorem dX7_change_63 : decode cX7_change 63 = .ok (.ireturn, 1) := by decide +kernel
theorem dX7_bears_0 : decode cX7_bears 0 = .ok (.aload_n 0, 1) := by decide +kernel
theorem dX7_bears_1 : decode cX7_bears 1 = .ok (.iload_n 1, 1) := by decide +kernel
theorem dX7_bears_2 : decode cX7_bears 2 = .ok (.invokevirtual 111, 3) := by decide +kernel
theorem dX7_bears_5 : decode cX7_bears 5 = .ok (.ifCond .eq 18, 3) := by decide +kernel
theorem dX7_bears_8 : decode cX7_bears 8 = .ok (.iload_n 2, 1) := by decide +kernel
theorem dX7_bears_9 : decode cX7_bears 9 = .ok (.invokestatic 60, 3) := by decide +kernel
theorem dX7_bears_12 : decode cX7_bears 12 = .ok (.ifCond .eq 11, 3) := by decide +kernel
theorem dX7_bears_15 : decode cX7_bears 15 = .ok (.iload_n 3, 1) := by decide +kernel
theorem dX7_bears_16 : decode cX7_bears 16 = .ok (.iconst 2, 1) := by decide +kernel
theorem dX7_bears_17 : decode cX7_bears 17 = .ok (.invokestatic 83, 3) := by decide +kernel
theorem dX7_bears_20 : decode cX7_bears 20 = .ok (.ifCond .ne 9, 3) := by decide +kernel
theorem dX7_bears_23 : decode cX7_bears 23 = .ok (.aload_n 0, 1) := by decide +kernel
theorem dX7_bears_24 : decode cX7_bears 24 = .ok (.iconst 0, 1) := by decide +kernel
theorem dX7_bears_25 : decode cX7_bears 25 = .ok (.invokevirtual 64, 3) := by decide +kernel
theorem dX7_bears_28 : decode cX7_bears 28 = .ok (.ireturn, 1) := by decide +kernel
theorem dX7_bears_29 : decode cX7_bears 29 = .ok (.aload_n 0, 1) := by decide +kernel
theorem dX7_bears_30 : decode cX7_bears 30 = .ok (.getfield 10, 3) := by decide +kernel
theorem dX7_bears_33 : decode cX7_bears 33 = .ok (.getfield 114, 3) := by decide +kernel
theorem dX7_bears_36 : decode cX7_bears 36 = .ok (.iload_n 1, 1) := by decide +kernel
theorem dX7_bears_37 : decode cX7_bears 37 = .ok (.aaload, 1) := by decide +kernel
theorem dX7_bears_38 : decode cX7_bears 38 = .ok (.invokevirtual 118, 3) := by decide +kernel
theorem dX7_bears_41 : decode cX7_bears 41 = .ok (.istore 4, 2) := by decide +kernel
theorem dX7_bears_43 : decode cX7_bears 43 = .ok (.iload 4, 2) := by decide +kernel
theorem dX7_bears_45 : decode cX7_bears 45 = .ok (.aload_n 0, 1) := by decide +kernel
theorem dX7_bears_46 : decode cX7_bears 46 = .ok (.getfield 10, 3) := by decide +kernel
theorem dX7_bears_49 : decode cX7_bears 49 = .ok (.getfield 68, 3) := by decide +kernel
theorem dX7_bears_52 : decode cX7_bears 52 = .ok (.getfield 72, 3) := by decide +kernel
theorem dX7_bears_55 : decode cX7_bears 55 = .ok (.iload_n 2, 1) := by decide +kernel
theorem dX7_bears_56 : decode cX7_bears 56 = .ok (.iaload, 1) := by decide +kernel
theorem dX7_bears_57 : decode cX7_bears 57 = .ok (.iload_n 3, 1) := by decide +kernel
theorem dX7_bears_58 : decode cX7_bears 58 = .ok (.invokestatic 144, 3) := by decide +kernel
theorem dX7_bears_61 : decode cX7_bears 61 = .ok (.ireturn, 1) := by decide +kernel
theorem dX7_go_0 : decode cX7_go 0 = .ok (.iload_n 1, 1) := by decide +kernel
theorem dX7_go_1 : decode cX7_go 1 = .ok (.iconst 1, 1) := by decide +kernel
theorem dX7_go_2 : decode cX7_go 2 = .ok (.if_icmp .lt 9, 3) := by decide +kernel
theorem dX7_go_5 : decode cX7_go 5 = .ok (.iload_n 1, 1) := by decide +kernel
theorem dX7_go_6 : decode cX7_go 6 = .ok (.bipush 60, 2) := by decide +kernel
theorem dX7_go_8 : decode cX7_go 8 = .ok (.if_icmp .le 9, 3) := by decide +kernel
theorem dX7_go_11 : decode cX7_go 11 = .ok (.aload_n 0, 1) := by decide +kernel
theorem dX7_go_12 : decode cX7_go 12 = .ok (.iconst 0, 1) := by decide +kernel
theorem dX7_go_13 : decode cX7_go 13 = .ok (.invokevirtual 64, 3) := by decide +kernel
theorem dX7_go_16 : decode cX7_go 16 = .ok (.ireturn, 1) := by decide +kernel
theorem dX7_go_17 : decode cX7_go 17 = .ok (.aload_n 0, 1) := by decide +kernel
theorem dX7_go_18 : decode cX7_go 18 = .ok (.getfield 10, 3) := by decide +kernel
theorem dX7_go_21 : decode cX7_go 21 = .ok (.getfield 68, 3) := by decide +kernel
theorem dX7_go_24 : decode cX7_go 24 = .ok (.getfield 128, 3) := by decide +kernel
theorem dX7_go_27 : decode cX7_go 27 = .ok (.iload_n 1, 1) := by decide +kernel
theorem dX7_go_28 : decode cX7_go 28 = .ok (.iadd, 1) := by decide +kernel
theorem dX7_go_29 : decode cX7_go 29 = .ok (.ldc 148, 2) := by decide +kernel
theorem dX7_go_31 : decode cX7_go 31 = .ok (.if_icmp .le 9, 3) := by decide +kernel
theorem dX7_go_34 : decode cX7_go 34 = .ok (.aload_n 0, 1) := by decide +kernel
theorem dX7_go_35 : decode cX7_go 35 = .ok (.iconst 4, 1) := by decide +kernel
theorem dX7_go_36 : decode cX7_go 36 = .ok (.invokevirtual 64, 3) := by decide +kernel
theorem dX7_go_39 : decode cX7_go 39 = .ok (.ireturn, 1) := by decide +kernel
theorem dX7_go_40 : decode cX7_go 40 = .ok (.iconst 0, 1) := by decide +kernel
theorem dX7_go_41 : decode cX7_go 41 = .ok (.istore_n 2, 1) := by decide +kernel
theorem dX7_go_42 : decode cX7_go 42 = .ok (.iload_n 2, 1) := by decide +kernel
theorem dX7_go_43 : decode cX7_go 43 = .ok (.iload_n 1, 1) := by decide +kernel
theorem dX7_go_44 : decode cX7_go 44 = .ok (.if_icmp .ge 17, 3) := by decide +kernel
theorem dX7_go_47 : decode cX7_go 47 = .ok (.aload_n 0, 1) := by decide +kernel
theorem dX7_go_48 : decode cX7_go 48 = .ok (.getfield 10, 3) := by decide +kernel
theorem dX7_go_51 : decode cX7_go 51 = .ok (.invokevirtual 149, 3) := by decide +kernel
theorem dX7_go_54 : decode cX7_go 54 = .ok (.pop, 1) := by decide +kernel
theorem dX7_go_55 : decode cX7_go 55 = .ok (.iinc 2 1, 3) := by decide +kernel
theorem dX7_go_58 : decode cX7_go 58 = .ok (.goto (-16), 3) := by decide +kernel
theorem dX7_go_61 : decode cX7_go 61 = .ok (.aload_n 0, 1) := by decide +kernel
theorem dX7_go_62 : decode cX7_go 62 = .ok (.getfield 10, 3) := by decide +kernel
theorem dX7_go_65 : decode cX7_go 65 = .ok (.iconst 1, 1) := by decide +kernel
theorem dX7_go_66 : decode cX7_go 66 = .ok (.bipush 16, 2) := by decide +kernel
theorem dX7_go_68 : decode cX7_go 68 = .ok (.invokevirtual 90, 3) := by decide +kernel
theorem dX7_go_71 : decode cX7_go 71 = .ok (.ireturn, 1) := by decide +kernel
theorem dX7_now_0 : decode cX7_now 0 = .ok (.iload_n 1, 1) := by decide +kernel
theorem dX7_now_1 : decode cX7_now 1 = .ok (.tableswitch 115 0 6 #[43, 54, 64, 75, 85, 94, 105], 43) := by decide +kernel
theorem dX7_now_44 : decode cX7_now 44 = .ok (.aload_n 0, 1) := by decide +kernel
theorem dX7_now_45 : decode cX7_now 45 = .ok (.getfield 10, 3) := by decide +kernel
theorem dX7_now_48 : decode cX7_now 48 = .ok (.getfield 68, 3) := by decide +kernel
theorem dX7_now_51 : decode cX7_now 51 = .ok (.getfield 128, 3) := by decide +kernel
theorem dX7_now_54 : decode cX7_now 54 = .ok (.ireturn, 1) := by decide +kernel
theorem dX7_now_55 : decode cX7_now 55 = .ok (.aload_n 0, 1) := by decide +kernel
theorem dX7_now_56 : decode cX7_now 56 = .ok (.getfield 10, 3) := by decide +kernel
theorem dX7_now_59 : decode cX7_now 59 = .ok (.bipush 7, 2) := by decide +kernel
theorem dX7_now_61 : decode cX7_now 61 = .ok (.invokevirtual 152, 3) := by decide +kernel
theorem dX7_now_64 : decode cX7_now 64 = .ok (.ireturn, 1) := by decide +kernel
theorem dX7_now_65 : decode cX7_now 65 = .ok (.aload_n 0, 1) := by decide +kernel
theorem dX7_now_66 : decode cX7_now 66 = .ok (.getfield 10, 3) := by decide +kernel
theorem dX7_now_69 : decode cX7_now 69 = .ok (.iconst 1, 1) := by decide +kernel
theorem dX7_now_70 : decode cX7_now 70 = .ok (.bipush 16, 2) := by decide +kernel
theorem dX7_now_72 : decode cX7_now 72 = .ok (.invokevirtual 90, 3) := by decide +kernel
theorem dX7_now_75 : decode cX7_now 75 = .ok (.ireturn, 1) := by decide +kernel
theorem dX7_now_76 : decode cX7_now 76 = .ok (.aload_n 0, 1) := by decide +kernel
theorem dX7_now_77 : decode cX7_now 77 = .ok (.getfield 10, 3) := by decide +kernel
theorem dX7_now_80 : decode cX7_now 80 = .ok (.iconst 5, 1) := by decide +kernel
theorem dX7_now_81 : decode cX7_now 81 = .ok (.iconst 1, 1) := by decide +kernel
theorem dX7_now_82 : decode cX7_now 82 = .ok (.invokevirtual 90, 3) := by decide +kernel
theorem dX7_now_85 : decode cX7_now 85 = .ok (.ireturn, 1) := by decide +kernel
theorem dX7_now_86 : decode cX7_now 86 = .ok (.aload_n 0, 1) := by decide +kernel
theorem dX7_now_87 : decode cX7_now 87 = .ok (.getfield 10, 3) := by decide +kernel
theorem dX7_now_90 : decode cX7_now 90 = .ok (.iconst 4, 1) := by decide +kernel
theorem dX7_now_91 : decode cX7_now 91 = .ok (.invokevirtual 152, 3) := by decide +kernel
theorem dX7_now_94 : decode cX7_now 94 = .ok (.ireturn, 1) := by decide +kernel
theorem dX7_now_95 : decode cX7_now 95 = .ok (.aload_n 0, 1) := by decide +kernel
theorem dX7_now_96 : decode cX7_now 96 = .ok (.getfield 10, 3) := by decide +kernel
theorem dX7_now_99 : decode cX7_now 99 = .ok (.getfield 68, 3) := by decide +kernel
theorem dX7_now_102 : decode cX7_now 102 = .ok (.invokevirtual 155, 3) := by decide +kernel
theorem dX7_now_105 : decode cX7_now 105 = .ok (.ireturn, 1) := by decide +kernel
theorem dX7_now_106 : decode cX7_now 106 = .ok (.aload_n 0, 1) := by decide +kernel
theorem dX7_now_107 : decode cX7_now 107 = .ok (.getfield 10, 3) := by decide +kernel
theorem dX7_now_110 : decode cX7_now 110 = .ok (.bipush 6, 2) := by decide +kernel
theorem dX7_now_112 : decode cX7_now 112 = .ok (.invokevirtual 152, 3) := by decide +kernel
theorem dX7_now_115 : decode cX7_now 115 = .ok (.ireturn, 1) := by decide +kernel
theorem dX7_now_116 : decode cX7_now 116 = .ok (.aload_n 0, 1) := by decide +kernel
theorem dX7_now_117 : decode cX7_now 117 = .ok (.iconst 0, 1) := by decide +kernel
theorem dX7_now_118 : decode cX7_now 118 = .ok (.invokevirtual 64, 3) := by decide +kernel
theorem dX7_now_121 : decode cX7_now 121 = .ok (.ireturn, 1) := by decide +kernel
theorem dX7_ahead_0 : decode cX7_ahead 0 = .ok (.aload_n 0, 1) := by decide +kernel
theorem dX7_ahead_1 : decode cX7_ahead 1 = .ok (.iload_n 1, 1) := by decide +kernel
theorem dX7_ahead_2 : decode cX7_ahead 2 = .ok (.invokevirtual 111, 3) := by decide +kernel
theorem dX7_ahead_5 : decode cX7_ahead 5 = .ok (.ifCond .eq 23, 3) := by decide +kernel
theorem dX7_ahead_8 : decode cX7_ahead 8 = .ok (.iload_n 2, 1) := by decide +kernel
theorem dX7_ahead_9 : decode cX7_ahead 9 = .ok (.iconst 1, 1) := by decide +kernel
theorem dX7_ahead_10 : decode cX7_ahead 10 = .ok (.if_icmp .lt 18, 3) := by decide +kernel
theorem dX7_ahead_13 : decode cX7_ahead 13 = .ok (.iload_n 2, 1) := by decide +kernel
theorem dX7_ahead_14 : decode cX7_ahead 14 = .ok (.bipush 7, 2) := by decide +kernel
theorem dX7_ahead_16 : decode cX7_ahead 16 = .ok (.if_icmp .gt 12, 3) := by decide +kernel
theorem dX7_ahead_19 : decode cX7_ahead 19 = .ok (.iload_n 3, 1) := by decide +kernel
theorem dX7_ahead_20 : decode cX7_ahead 20 = .ok (.bipush 100, 2) := by decide +kernel
theorem dX7_ahead_22 : decode cX7_ahead 22 = .ok (.invokestatic 83, 3) := by decide +kernel
theorem dX7_ahead_25 : decode cX7_ahead 25 = .ok (.ifCond .ne 9, 3) := by decide +kernel
theorem dX7_ahead_28 : decode cX7_ahead 28 = .ok (.aload_n 0, 1) := by decide +kernel
theorem dX7_ahead_29 : decode cX7_ahead 29 = .ok (.iconst 0, 1) := by decide +kernel
theorem dX7_ahead_30 : decode cX7_ahead 30 = .ok (.invokevirtual 64, 3) := by decide +kernel
theorem dX7_ahead_33 : decode cX7_ahead 33 = .ok (.ireturn, 1) := by decide +kernel
theorem dX7_ahead_34 : decode cX7_ahead 34 = .ok (.aload_n 0, 1) := by decide +kernel
theorem dX7_ahead_35 : decode cX7_ahead 35 = .ok (.iload_n 1, 1) := by decide +kernel
theorem dX7_ahead_36 : decode cX7_ahead 36 = .ok (.invokevirtual 158, 3) := by decide +kernel
theorem dX7_ahead_39 : decode cX7_ahead 39 = .ok (.iconst 0, 1) := by decide +kernel
theorem dX7_ahead_40 : decode cX7_ahead 40 = .ok (.istore 4, 2) := by decide +kernel
theorem dX7_ahead_42 : decode cX7_ahead 42 = .ok (.iload 4, 2) := by decide +kernel
theorem dX7_ahead_44 : decode cX7_ahead 44 = .ok (.iload_n 3, 1) := by decide +kernel
theorem dX7_ahead_45 : decode cX7_ahead 45 = .ok (.if_icmp .ge 16, 3) := by decide +kernel
theorem dX7_ahead_48 : decode cX7_ahead 48 = .ok (.aload_n 0, 1) := by decide +kernel
theorem dX7_ahead_49 : decode cX7_ahead 49 = .ok (.getfield 29, 3) := by decide +kernel
theorem dX7_ahead_52 : decode cX7_ahead 52 = .ok (.invokevirtual 162, 3) := by decide +kernel
theorem dX7_ahead_55 : decode cX7_ahead 55 = .ok (.iinc 4 1, 3) := by decide +kernel
theorem dX7_ahead_58 : decode cX7_ahead 58 = .ok (.goto (-16), 3) := by decide +kernel
theorem dX7_ahead_61 : decode cX7_ahead 61 = .ok (.aload_n 0, 1) := by decide +kernel
theorem dX7_ahead_62 : decode cX7_ahead 62 = .ok (.getfield 29, 3) := by decide +kernel
theorem dX7_ahead_65 : decode cX7_ahead 65 = .ok (.getfield 165, 3) := by decide +kernel
theorem dX7_ahead_68 : decode cX7_ahead 68 = .ok (.iload_n 2, 1) := by decide +kernel
theorem dX7_ahead_69 : decode cX7_ahead 69 = .ok (.invokevirtual 134, 3) := by decide +kernel
theorem dX7_ahead_72 : decode cX7_ahead 72 = .ok (.ireturn, 1) := by decide +kernel
theorem dX7_home_0 : decode cX7_home 0 = .ok (.aload_n 0, 1) := by decide +kernel
theorem dX7_home_1 : decode cX7_home 1 = .ok (.iload_n 1, 1) := by decide +kernel
theorem dX7_home_2 : decode cX7_home 2 = .ok (.invokevirtual 111, 3) := by decide +kernel
theorem dX7_home_5 : decode cX7_home 5 = .ok (.ifCond .ne 9, 3) := by decide +kernel
theorem dX7_home_8 : decode cX7_home 8 = .ok (.aload_n 0, 1) := by decide +kernel
theorem dX7_home_9 : decode cX7_home 9 = .ok (.iconst 0, 1) := by decide +kernel
theorem dX7_home_10 : decode cX7_home 10 = .ok (.invokevirtual 64, 3) := by decide +kernel
theorem dX7_home_13 : decode cX7_home 13 = .ok (.ireturn, 1) := by decide +kernel
theorem dX7_home_14 : decode cX7_home 14 = .ok (.aload_n 0, 1) := by decide +kernel
theorem dX7_home_15 : decode cX7_home 15 = .ok (.iload_n 1, 1) := by decide +kernel
theorem dX7_home_16 : decode cX7_home 16 = .ok (.invokevirtual 158, 3) := by decide +kernel
theorem dX7_home_19 : decode cX7_home 19 = .ok (.aload_n 0, 1) := by decide +kernel
theorem dX7_home_20 : decode cX7_home 20 = .ok (.getfield 29, 3) := by decide +kernel
theorem dX7_home_23 : decode cX7_home 23 = .ok (.invokevirtual 169, 3) := by decide +kernel
theorem dX7_home_26 : decode cX7_home 26 = .ok (.istore_n 2, 1) := by decide +kernel
theorem dX7_home_27 : decode cX7_home 27 = .ok (.iload_n 2, 1) := by decide +kernel
theorem dX7_home_28 : decode cX7_home 28 = .ok (.ifCond .ge 11, 3) := by decide +kernel
theorem dX7_home_31 : decode cX7_home 31 = .ok (.aload_n 0, 1) := by decide +kernel
theorem dX7_home_32 : decode cX7_home 32 = .ok (.iconst 3, 1) := by decide +kernel
theorem dX7_home_33 : decode cX7_home 33 = .ok (.invokevirtual 64, 3) := by decide +kernel
theorem dX7_home_36 : decode cX7_home 36 = .ok (.goto 4, 3) := by decide +kernel
theorem dX7_home_39 : decode cX7_home 39 = .ok (.iload_n 2, 1) := by decide +kernel
theorem dX7_home_40 : decode cX7_home 40 = .ok (.ireturn, 1) := by decide +kernel
theorem dX7_homeWith_0 : decode cX7_homeWith 0 = .ok (.aload_n 0, 1) := by decide +kernel
theorem dX7_homeWith_1 : decode cX7_homeWith 1 = .ok (.iload_n 1, 1) := by decide +kernel
theorem dX7_homeWith_2 : decode cX7_homeWith 2 = .ok (.invokevirtual 111, 3) := by decide +kernel
theorem dX7_homeWith_5 : decode cX7_homeWith 5 = .ok (.ifCond .eq 20, 3) := by decide +kernel
theorem dX7_homeWith_8 : decode cX7_homeWith 8 = .ok (.iload_n 2, 1) := by decide +kernel
theorem dX7_homeWith_9 : decode cX7_homeWith 9 = .ok (.bipush 7, 2) := by decide +kernel
theorem dX7_homeWith_11 : decode cX7_homeWith 11 = .ok (.if_icmp .eq 20, 3) := by decide +kernel
theorem dX7_homeWith_14 : decode cX7_homeWith 14 = .ok (.iload_n 2, 1) := by decide +kernel
theorem dX7_homeWith_15 : decode cX7_homeWith 15 = .ok (.bipush 6, 2) := by decide +kernel
theorem dX7_homeWith_17 : decode cX7_homeWith 17 = .ok (.if_icmp .eq 14, 3) := by decide +kernel
theorem dX7_homeWith_20 : decode cX7_homeWith 20 = .ok (.iload_n 2, 1) := by decide +kernel
theorem dX7_homeWith_21 : decode cX7_homeWith 21 = .ok (.iconst 4, 1) := by decide +kernel
theorem dX7_homeWith_22 : decode cX7_homeWith 22 = .ok (.if_icmp .eq 9, 3) := by decide +kernel
theorem dX7_homeWith_25 : decode cX7_homeWith 25 = .ok (.aload_n 0, 1) := by decide +kernel
theorem dX7_homeWith_26 : decode cX7_homeWith 26 = .ok (.iconst 0, 1) := by decide +kernel
theorem dX7_homeWith_27 : decode cX7_homeWith 27 = .ok (.invokevirtual 64, 3) := by decide +kernel
theorem dX7_homeWith_30 : decode cX7_homeWith 30 = .ok (.ireturn, 1) := by decide +kernel
theorem dX7_homeWith_31 : decode cX7_homeWith 31 = .ok (.aload_n 0, 1) := by decide +kernel
theorem dX7_homeWith_32 : decode cX7_homeWith 32 = .ok (.iload_n 1, 1) := by decide +kernel
theorem dX7_homeWith_33 : decode cX7_homeWith 33 = .ok (.invokevirtual 158, 3) := by decide +kernel
theorem dX7_homeWith_36 : decode cX7_homeWith 36 = .ok (.aload_n 0, 1) := by decide +kernel
theorem dX7_homeWith_37 : decode cX7_homeWith 37 = .ok (.getfield 29, 3) := by decide +kernel
theorem dX7_homeWith_40 : decode cX7_homeWith 40 = .ok (.invokevirtual 169, 3) := by decide +kernel
theorem dX7_homeWith_43 : decode cX7_homeWith 43 = .ok (.ifCond .ge 11, 3) := by decide +kernel
theorem dX7_homeWith_46 : decode cX7_homeWith 46 = .ok (.aload_n 0, 1) := by decide +kernel
theorem dX7_homeWith_47 : decode cX7_homeWith 47 = .ok (.iconst 3, 1) := by decide +kernel
theorem dX7_homeWith_48 : decode cX7_homeWith 48 = .ok (.invokevirtual 64, 3) := by decide +kernel
theorem dX7_homeWith_51 : decode cX7_homeWith 51 = .ok (.goto 14, 3) := by decide +kernel
theorem dX7_homeWith_54 : decode cX7_homeWith 54 = .ok (.aload_n 0, 1) := by decide +kernel
theorem dX7_homeWith_55 : decode cX7_homeWith 55 = .ok (.getfield 29, 3) := by decide +kernel
theorem dX7_homeWith_58 : decode cX7_homeWith 58 = .ok (.getfield 165, 3) := by decide +kernel
theorem dX7_homeWith_61 : decode cX7_homeWith 61 = .ok (.iload_n 2, 1) := by decide +kernel
theorem dX7_homeWith_62 : decode cX7_homeWith 62 = .ok (.invokevirtual 134, 3) := by decide +kernel
theorem dX7_homeWith_65 : decode cX7_homeWith 65 = .ok (.ireturn, 1) := by decide +kernel
theorem dX7_whup_0 : decode cX7_whup 0 = .ok (.aload_n 0, 1) := by decide +kernel
theorem dX7_whup_1 : decode cX7_whup 1 = .ok (.iload_n 1, 1) := by decide +kernel
theorem dX7_whup_2 : decode cX7_whup 2 = .ok (.invokevirtual 111, 3) := by decide +kernel
theorem dX7_whup_5 : decode cX7_whup 5 = .ok (.ifCond .ne 9, 3) := by decide +kernel
theorem dX7_whup_8 : decode cX7_whup 8 = .ok (.aload_n 0, 1) := by decide +kernel
theorem dX7_whup_9 : decode cX7_whup 9 = .ok (.iconst 0, 1) := by decide +kernel
theorem dX7_whup_10 : decode cX7_whup 10 = .ok (.invokevirtual 64, 3) := by decide +kernel
theorem dX7_whup_13 : decode cX7_whup 13 = .ok (.ireturn, 1) := by decide +kernel
theorem dX7_whup_14 : decode cX7_whup 14 = .ok (.aload_n 0, 1) := by decide +kernel
theorem dX7_whup_15 : decode cX7_whup 15 = .ok (.iload_n 1, 1) := by decide +kernel
theorem dX7_whup_16 : decode cX7_whup 16 = .ok (.invokevirtual 158, 3) := by decide +kernel
theorem dX7_whup_19 : decode cX7_whup 19 = .ok (.aload_n 0, 1) := by decide +kernel
theorem dX7_whup_20 : decode cX7_whup 20 = .ok (.getfield 29, 3) := by decide +kernel
theorem dX7_whup_23 : decode cX7_whup 23 = .ok (.invokevirtual 172, 3) := by decide +kernel
theorem dX7_whup_26 : decode cX7_whup 26 = .ok (.istore_n 2, 1) := by decide +kernel
theorem dX7_whup_27 : decode cX7_whup 27 = .ok (.iload_n 2, 1) := by decide +kernel
theorem dX7_whup_28 : decode cX7_whup 28 = .ok (.ifCond .ge 11, 3) := by decide +kernel
theorem dX7_whup_31 : decode cX7_whup 31 = .ok (.aload_n 0, 1) := by decide +kernel
theorem dX7_whup_32 : decode cX7_whup 32 = .ok (.iconst 3, 1) := by decide +kernel
theorem dX7_whup_33 : decode cX7_whup 33 = .ok (.invokevirtual 64, 3) := by decide +kernel
theorem dX7_whup_36 : decode cX7_whup 36 = .ok (.goto 4, 3) := by decide +kernel
theorem dX7_whup_39 : decode cX7_whup 39 = .ok (.iload_n 2, 1) := by decide +kernel
theorem dX7_whup_40 : decode cX7_whup 40 = .ok (.ireturn, 1) := by decide +kernel
theorem dX7_first_0 : decode cX7_first 0 = .ok (.iconst (-1), 1) := by decide +kernel
theorem dX7_first_1 : decode cX7_first 1 = .ok (.istore_n 1, 1) := by decide +kernel
theorem dX7_first_2 : decode cX7_first 2 = .ok (.iconst 0, 1) := by decide +kernel
theorem dX7_first_3 : decode cX7_first 3 = .ok (.istore_n 2, 1) := by decide +kernel
theorem dX7_first_4 : decode cX7_first 4 = .ok (.iconst 0, 1) := by decide +kernel
theorem dX7_first_5 : decode cX7_first 5 = .ok (.istore_n 3, 1) := by decide +kernel
theorem dX7_first_6 : decode cX7_first 6 = .ok (.iload_n 3, 1) := by decide +kernel
theorem dX7_first_7 : decode cX7_first 7 = .ok (.aload_n 0, 1) := by decide +kernel
theorem dX7_first_8 : decode cX7_first 8 = .ok (.getfield 10, 3) := by decide +kernel
theorem dX7_first_11 : decode cX7_first 11 = .ok (.getfield 175, 3) := by decide +kernel
theorem dX7_first_14 : decode cX7_first 14 = .ok (.if_icmp .ge 43, 3) := by decide +kernel
theorem dX7_first_17 : decode cX7_first 17 = .ok (.aload_n 0, 1) := by decide +kernel
theorem dX7_first_18 : decode cX7_first 18 = .ok (.iload_n 3, 1) := by decide +kernel
theorem dX7_first_19 : decode cX7_first 19 = .ok (.invokevirtual 158, 3) := by decide +kernel
theorem dX7_first_22 : decode cX7_first 22 = .ok (.aload_n 0, 1) := by decide +kernel
theorem dX7_first_23 : decode cX7_first 23 = .ok (.getfield 29, 3) := by decide +kernel
theorem dX7_first_26 : decode cX7_first 26 = .ok (.invokevirtual 169, 3) := by decide +kernel
theorem dX7_first_29 : decode cX7_first 29 = .ok (.istore 4, 2) := by decide +kernel
theorem dX7_first_31 : decode cX7_first 31 = .ok (.iload 4, 2) := by decide +kernel
theorem dX7_first_33 : decode cX7_first 33 = .ok (.ifCond .lt 18, 3) := by decide +kernel
theorem dX7_first_36 : decode cX7_first 36 = .ok (.iload_n 1, 1) := by decide +kernel
theorem dX7_first_37 : decode cX7_first 37 = .ok (.ifCond .lt 9, 3) := by decide +kernel
theorem dX7_first_40 : decode cX7_first 40 = .ok (.iload 4, 2) := by decide +kernel
theorem dX7_first_42 : decode cX7_first 42 = .ok (.iload_n 2, 1) := by decide +kernel
theorem dX7_first_43 : decode cX7_first 43 = .ok (.if_icmp .ge 8, 3) := by decide +kernel
theorem dX7_first_46 : decode cX7_first 46 = .ok (.iload_n 3, 1) := by decide +kernel
theorem dX7_first_47 : decode cX7_first 47 = .ok (.istore_n 1, 1) := by decide +kernel
theorem dX7_first_48 : decode cX7_first 48 = .ok (.iload 4, 2) := by decide +kernel
theorem dX7_first_50 : decode cX7_first 50 = .ok (.istore_n 2, 1) := by decide +kernel
theorem dX7_first_51 : decode cX7_first 51 = .ok (.iinc 3 1, 3) := by decide +kernel
theorem dX7_first_54 : decode cX7_first 54 = .ok (.goto (-48), 3) := by decide +kernel
theorem dX7_first_57 : decode cX7_first 57 = .ok (.iload_n 1, 1) := by decide +kernel
theorem dX7_first_58 : decode cX7_first 58 = .ok (.ifCond .ge 11, 3) := by decide +kernel
theorem dX7_first_61 : decode cX7_first 61 = .ok (.aload_n 0, 1) := by decide +kernel
theorem dX7_first_62 : decode cX7_first 62 = .ok (.iconst 3, 1) := by decide +kernel
theorem dX7_first_63 : decode cX7_first 63 = .ok (.invokevirtual 64, 3) := by decide +kernel
theorem dX7_first_66 : decode cX7_first 66 = .ok (.goto 4, 3) := by decide +kernel
theorem dX7_first_69 : decode cX7_first 69 = .ok (.iload_n 1, 1) := by decide +kernel
theorem dX7_first_70 : decode cX7_first 70 = .ok (.ireturn, 1) := by decide +kernel
theorem dX7_habitFor_0 : decode cX7_habitFor 0 = .ok (.aload_n 0, 1) := by decide +kernel
theorem dX7_habitFor_1 : decode cX7_habitFor 1 = .ok (.iload_n 1, 1) := by decide +kernel
theorem dX7_habitFor_2 : decode cX7_habitFor 2 = .ok (.iconst 3, 1) := by decide +kernel
theorem dX7_habitFor_3 : decode cX7_habitFor 3 = .ok (.iconst 4, 1) := by decide +kernel
theorem dX7_habitFor_4 : decode cX7_habitFor 4 = .ok (.invokevirtual 178, 3) := by decide +kernel
theorem dX7_habitFor_7 : decode cX7_habitFor 7 = .ok (.ireturn, 1) := by decide +kernel
theorem dX7_heldFor_0 : decode cX7_heldFor 0 = .ok (.aload_n 0, 1) := by decide +kernel
theorem dX7_heldFor_1 : decode cX7_heldFor 1 = .ok (.iload_n 1, 1) := by decide +kernel
theorem dX7_heldFor_2 : decode cX7_heldFor 2 = .ok (.iconst 2, 1) := by decide +kernel
theorem dX7_heldFor_3 : decode cX7_heldFor 3 = .ok (.iconst 4, 1) := by decide +kernel
theorem dX7_heldFor_4 : decode cX7_heldFor 4 = .ok (.invokevirtual 178, 3) := by decide +kernel
theorem dX7_heldFor_7 : decode cX7_heldFor 7 = .ok (.ireturn, 1) := by decide +kernel
theorem dX7_kindFor_0 : decode cX7_kindFor 0 = .ok (.aload_n 0, 1) := by decide +kernel
theorem dX7_kindFor_1 : decode cX7_kindFor 1 = .ok (.iload_n 1, 1) := by decide +kernel
theorem dX7_kindFor_2 : decode cX7_kindFor 2 = .ok (.iconst 0, 1) := by decide +kernel
theorem dX7_kindFor_3 : decode cX7_kindFor 3 = .ok (.bipush 7, 2) := by decide +kernel
theorem dX7_kindFor_5 : decode cX7_kindFor 5 = .ok (.invokevirtual 178, 3) := by decide +kernel
theorem dX7_kindFor_8 : decode cX7_kindFor 8 = .ok (.ireturn, 1) := by decide +kernel
theorem dX7_roofFor_0 : decode cX7_roofFor 0 = .ok (.aload_n 0, 1) := by decide +kernel
theorem dX7_roofFor_1 : decode cX7_roofFor 1 = .ok (.iload_n 1, 1) := by decide +kernel
theorem dX7_roofFor_2 : decode cX7_roofFor 2 = .ok (.bipush 20, 2) := by decide +kernel
theorem dX7_roofFor_4 : decode cX7_roofFor 4 = .ok (.bipush 16, 2) := by decide +kernel
theorem dX7_roofFor_6 : decode cX7_roofFor 6 = .ok (.invokevirtual 178, 3) := by decide +kernel
theorem dX7_roofFor_9 : decode cX7_roofFor 9 = .ok (.ireturn, 1) := by decide +kernel
theorem dX7_waitFor_0 : decode cX7_waitFor 0 = .ok (.aload_n 0, 1) := by decide +kernel
theorem dX7_waitFor_1 : decode cX7_waitFor 1 = .ok (.iload_n 1, 1) := by decide +kernel
theorem dX7_waitFor_2 : decode cX7_waitFor 2 = .ok (.bipush 21, 2) := by decide +kernel
theorem dX7_waitFor_4 : decode cX7_waitFor 4 = .ok (.bipush 12, 2) := by decide +kernel
theorem dX7_waitFor_6 : decode cX7_waitFor 6 = .ok (.invokevirtual 178, 3) := by decide +kernel
theorem dX7_waitFor_9 : decode cX7_waitFor 9 = .ok (.ireturn, 1) := by decide +kernel
theorem dX7_gustFor_0 : decode cX7_gustFor 0 = .ok (.aload_n 0, 1) := by decide +kernel
theorem dX7_gustFor_1 : decode cX7_gustFor 1 = .ok (.iload_n 1, 1) := by decide +kernel
theorem dX7_gustFor_2 : decode cX7_gustFor 2 = .ok (.invokevirtual 111, 3) := by decide +kernel
theorem dX7_gustFor_5 : decode cX7_gustFor 5 = .ok (.ifCond .ne 9, 3) := by decide +kernel
theorem dX7_gustFor_8 : decode cX7_gustFor 8 = .ok (.aload_n 0, 1) := by decide +kernel
theorem dX7_gustFor_9 : decode cX7_gustFor 9 = .ok (.iconst 0, 1) := by decide +kernel
theorem dX7_gustFor_10 : decode cX7_gustFor 10 = .ok (.invokevirtual 64, 3) := by decide +kernel
theorem dX7_gustFor_13 : decode cX7_gustFor 13 = .ok (.ireturn, 1) := by decide +kernel
theorem dX7_gustFor_14 : decode cX7_gustFor 14 = .ok (.bipush 99, 2) := by decide +kernel
theorem dX7_gustFor_16 : decode cX7_gustFor 16 = .ok (.istore_n 2, 1) := by decide +kernel
theorem dX7_gustFor_17 : decode cX7_gustFor 17 = .ok (.iload_n 2, 1) := by decide +kernel
theorem dX7_gustFor_18 : decode cX7_gustFor 18 = .ok (.ifCond .lt 37, 3) := by decide +kernel
theorem dX7_gustFor_21 : decode cX7_gustFor 21 = .ok (.aload_n 0, 1) := by decide +kernel
theorem dX7_gustFor_22 : decode cX7_gustFor 22 = .ok (.iload_n 1, 1) := by decide +kernel
theorem dX7_gustFor_23 : decode cX7_gustFor 23 = .ok (.invokevirtual 158, 3) := by decide +kernel
theorem dX7_gustFor_26 : decode cX7_gustFor 26 = .ok (.aload_n 0, 1) := by decide +kernel
theorem dX7_gustFor_27 : decode cX7_gustFor 27 = .ok (.getfield 29, 3) := by decide +kernel
theorem dX7_gustFor_30 : decode cX7_gustFor 30 = .ok (.getfield 181, 3) := by decide +kernel
theorem dX7_gustFor_33 : decode cX7_gustFor 33 = .ok (.iload_n 2, 1) := by decide +kernel
theorem dX7_gustFor_34 : decode cX7_gustFor 34 = .ok (.putfield 98, 3) := by decide +kernel
theorem dX7_gustFor_37 : decode cX7_gustFor 37 = .ok (.aload_n 0, 1) := by decide +kernel
theorem dX7_gustFor_38 : decode cX7_gustFor 38 = .ok (.getfield 29, 3) := by decide +kernel
theorem dX7_gustFor_41 : decode cX7_gustFor 41 = .ok (.invokevirtual 182, 3) := by decide +kernel
theorem dX7_gustFor_44 : decode cX7_gustFor 44 = .ok (.ifCond .eq 5, 3) := by decide +kernel
theorem dX7_gustFor_47 : decode cX7_gustFor 47 = .ok (.iload_n 2, 1) := by decide +kernel
theorem dX7_gustFor_48 : decode cX7_gustFor 48 = .ok (.ireturn, 1) := by decide +kernel
theorem dX7_gustFor_49 : decode cX7_gustFor 49 = .ok (.iinc 2 (-1), 3) := by decide +kernel
theorem dX7_gustFor_52 : decode cX7_gustFor 52 = .ok (.goto (-35), 3) := by decide +kernel
theorem dX7_gustFor_55 : decode cX7_gustFor 55 = .ok (.aload_n 0, 1) := by decide +kernel
theorem dX7_gustFor_56 : decode cX7_gustFor 56 = .ok (.iconst 3, 1) := by decide +kernel
theorem dX7_gustFor_57 : decode cX7_gustFor 57 = .ok (.invokevirtual 64, 3) := by decide +kernel
theorem dX7_gustFor_60 : decode cX7_gustFor 60 = .ok (.ireturn, 1) := by decide +kernel
theorem dX7_ribsFor_0 : decode cX7_ribsFor 0 = .ok (.aload_n 0, 1) := by decide +kernel
theorem dX7_ribsFor_1 : decode cX7_ribsFor 1 = .ok (.iload_n 1, 1) := by decide +kernel
theorem dX7_ribsFor_2 : decode cX7_ribsFor 2 = .ok (.invokevirtual 111, 3) := by decide +kernel
theorem dX7_ribsFor_5 : decode cX7_ribsFor 5 = .ok (.ifCond .ne 9, 3) := by decide +kernel
theorem dX7_ribsFor_8 : decode cX7_ribsFor 8 = .ok (.aload_n 0, 1) := by decide +kernel
theorem dX7_ribsFor_9 : decode cX7_ribsFor 9 = .ok (.iconst 0, 1) := by decide +kernel
theorem dX7_ribsFor_10 : decode cX7_ribsFor 10 = .ok (.invokevirtual 64, 3) := by decide +kernel
theorem dX7_ribsFor_13 : decode cX7_ribsFor 13 = .ok (.ireturn, 1) := by decide +kernel
theorem dX7_ribsFor_14 : decode cX7_ribsFor 14 = .ok (.iconst 0, 1) := by decide +kernel
theorem dX7_ribsFor_15 : decode cX7_ribsFor 15 = .ok (.istore_n 2, 1) := by decide +kernel
theorem dX7_ribsFor_16 : decode cX7_ribsFor 16 = .ok (.iload_n 2, 1) := by decide +kernel
theorem dX7_ribsFor_17 : decode cX7_ribsFor 17 = .ok (.getstatic 137, 3) := by decide +kernel
theorem dX7_ribsFor_20 : decode cX7_ribsFor 20 = .ok (.iconst 4, 1) := by decide +kernel
theorem dX7_ribsFor_21 : decode cX7_ribsFor 21 = .ok (.iaload, 1) := by decide +kernel
theorem dX7_ribsFor_22 : decode cX7_ribsFor 22 = .ok (.if_icmp .gt 37, 3) := by decide +kernel
theorem dX7_ribsFor_25 : decode cX7_ribsFor 25 = .ok (.aload_n 0, 1) := by decide +kernel
theorem dX7_ribsFor_26 : decode cX7_ribsFor 26 = .ok (.iload_n 1, 1) := by decide +kernel
theorem dX7_ribsFor_27 : decode cX7_ribsFor 27 = .ok (.invokevirtual 158, 3) := by decide +kernel
theorem dX7_ribsFor_30 : decode cX7_ribsFor 30 = .ok (.aload_n 0, 1) := by decide +kernel
theorem dX7_ribsFor_31 : decode cX7_ribsFor 31 = .ok (.getfield 29, 3) := by decide +kernel
theorem dX7_ribsFor_34 : decode cX7_ribsFor 34 = .ok (.getfield 165, 3) := by decide +kernel
theorem dX7_ribsFor_37 : decode cX7_ribsFor 37 = .ok (.iload_n 2, 1) := by decide +kernel
theorem dX7_ribsFor_38 : decode cX7_ribsFor 38 = .ok (.putfield 185, 3) := by decide +kernel
theorem dX7_ribsFor_41 : decode cX7_ribsFor 41 = .ok (.aload_n 0, 1) := by decide +kernel
theorem dX7_ribsFor_42 : decode cX7_ribsFor 42 = .ok (.getfield 29, 3) := by decide +kernel
theorem dX7_ribsFor_45 : decode cX7_ribsFor 45 = .ok (.invokevirtual 182, 3) := by decide +kernel
theorem dX7_ribsFor_48 : decode cX7_ribsFor 48 = .ok (.ifCond .eq 5, 3) := by decide +kernel
theorem dX7_ribsFor_51 : decode cX7_ribsFor 51 = .ok (.iload_n 2, 1) := by decide +kernel
theorem dX7_ribsFor_52 : decode cX7_ribsFor 52 = .ok (.ireturn, 1) := by decide +kernel
theorem dX7_ribsFor_53 : decode cX7_ribsFor 53 = .ok (.iinc 2 1, 3) := by decide +kernel
theorem dX7_ribsFor_56 : decode cX7_ribsFor 56 = .ok (.goto (-40), 3) := by decide +kernel
theorem dX7_ribsFor_59 : decode cX7_ribsFor 59 = .ok (.aload_n 0, 1) := by decide +kernel
theorem dX7_ribsFor_60 : decode cX7_ribsFor 60 = .ok (.iconst 3, 1) := by decide +kernel
theorem dX7_ribsFor_61 : decode cX7_ribsFor 61 = .ok (.invokevirtual 64, 3) := by decide +kernel
theorem dX7_ribsFor_64 : decode cX7_ribsFor 64 = .ok (.ireturn, 1) := by decide +kernel
theorem dX7_fits_0 : decode cX7_fits 0 = .ok (.aload_n 0, 1) := by decide +kernel
theorem dX7_fits_1 : decode cX7_fits 1 = .ok (.iload_n 1, 1) := by decide +kernel
theorem dX7_fits_2 : decode cX7_fits 2 = .ok (.iload_n 2, 1) := by decide +kernel
theorem dX7_fits_3 : decode cX7_fits 3 = .ok (.iconst 3, 1) := by decide +kernel
theorem dX7_fits_4 : decode cX7_fits 4 = .ok (.iconst 4, 1) := by decide +kernel
theorem dX7_fits_5 : decode cX7_fits 5 = .ok (.invokevirtual 188, 3) := by decide +kernel
theorem dX7_fits_8 : decode cX7_fits 8 = .ok (.ireturn, 1) := by decide +kernel
theorem dX7_kinds_0 : decode cX7_kinds 0 = .ok (.aload_n 0, 1) := by decide +kernel
theorem dX7_kinds_1 : decode cX7_kinds 1 = .ok (.iload_n 1, 1) := by decide +kernel
theorem dX7_kinds_2 : decode cX7_kinds 2 = .ok (.iload_n 2, 1) := by decide +kernel
theorem dX7_kinds_3 : decode cX7_kinds 3 = .ok (.iconst 0, 1) := by decide +kernel
theorem dX7_kinds_4 : decode cX7_kinds 4 = .ok (.bipush 7, 2) := by decide +kernel
theorem dX7_kinds_6 : decode cX7_kinds 6 = .ok (.invokevirtual 188, 3) := by decide +kernel
theorem dX7_kinds_9 : decode cX7_kinds 9 = .ok (.ireturn, 1) := by decide +kernel
theorem dX7_gusts_0 : decode cX7_gusts 0 = .ok (.iload_n 1, 1) := by decide +kernel
theorem dX7_gusts_1 : decode cX7_gusts 1 = .ok (.iconst 1, 1) := by decide +kernel
theorem dX7_gusts_2 : decode cX7_gusts 2 = .ok (.if_icmp .lt 9, 3) := by decide +kernel
theorem dX7_gusts_5 : decode cX7_gusts 5 = .ok (.iload_n 1, 1) := by decide +kernel
theorem dX7_gusts_6 : decode cX7_gusts 6 = .ok (.bipush 20, 2) := by decide +kernel
theorem dX7_gusts_8 : decode cX7_gusts 8 = .ok (.if_icmp .le 9, 3) := by decide +kernel
theorem dX7_gusts_11 : decode cX7_gusts 11 = .ok (.aload_n 0, 1) := by decide +kernel
theorem dX7_gusts_12 : decode cX7_gusts 12 = .ok (.iconst 0, 1) := by decide +kernel
theorem dX7_gusts_13 : decode cX7_gusts 13 = .ok (.invokevirtual 64, 3) := by decide +kernel
theorem dX7_gusts_16 : decode cX7_gusts 16 = .ok (.ireturn, 1) := by decide +kernel
theorem dX7_gusts_17 : decode cX7_gusts 17 = .ok (.aload_n 0, 1) := by decide +kernel
theorem dX7_gusts_18 : decode cX7_gusts 18 = .ok (.getfield 10, 3) := by decide +kernel
theorem dX7_gusts_21 : decode cX7_gusts 21 = .ok (.getfield 68, 3) := by decide +kernel
theorem dX7_gusts_24 : decode cX7_gusts 24 = .ok (.getfield 128, 3) := by decide +kernel
theorem dX7_gusts_27 : decode cX7_gusts 27 = .ok (.iload_n 1, 1) := by decide +kernel
theorem dX7_gusts_28 : decode cX7_gusts 28 = .ok (.iadd, 1) := by decide +kernel
theorem dX7_gusts_29 : decode cX7_gusts 29 = .ok (.ldc 148, 2) := by decide +kernel
theorem dX7_gusts_31 : decode cX7_gusts 31 = .ok (.if_icmp .le 9, 3) := by decide +kernel
theorem dX7_gusts_34 : decode cX7_gusts 34 = .ok (.aload_n 0, 1) := by decide +kernel
theorem dX7_gusts_35 : decode cX7_gusts 35 = .ok (.iconst 4, 1) := by decide +kernel
theorem dX7_gusts_36 : decode cX7_gusts 36 = .ok (.invokevirtual 64, 3) := by decide +kernel
theorem dX7_gusts_39 : decode cX7_gusts 39 = .ok (.ireturn, 1) := by decide +kernel
theorem dX7_gusts_40 : decode cX7_gusts 40 = .ok (.iconst 0, 1) := by decide +kernel
theorem dX7_gusts_41 : decode cX7_gusts 41 = .ok (.istore_n 2, 1) := by decide +kernel
theorem dX7_gusts_42 : decode cX7_gusts 42 = .ok (.iconst 0, 1) := by decide +kernel
theorem dX7_gusts_43 : decode cX7_gusts 43 = .ok (.istore_n 3, 1) := by decide +kernel
theorem dX7_gusts_44 : decode cX7_gusts 44 = .ok (.iload_n 3, 1) := by decide +kernel
theorem dX7_gusts_45 : decode cX7_gusts 45 = .ok (.iload_n 1, 1) := by decide +kernel
theorem dX7_gusts_46 : decode cX7_gusts 46 = .ok (.if_icmp .ge 66, 3) := by decide +kernel
theorem dX7_gusts_49 : decode cX7_gusts 49 = .ok (.aload_n 0, 1) := by decide +kernel
theorem dX7_gusts_50 : decode cX7_gusts 50 = .ok (.getfield 10, 3) := by decide +kernel
theorem dX7_gusts_53 : decode cX7_gusts 53 = .ok (.invokevirtual 192, 3) := by decide +kernel
theorem dX7_gusts_56 : decode cX7_gusts 56 = .ok (.bipush 16, 2) := by decide +kernel
theorem dX7_gusts_58 : decode cX7_gusts 58 = .ok (.irem, 1) := by decide +kernel
theorem dX7_gusts_59 : decode cX7_gusts 59 = .ok (.istore 4, 2) := by decide +kernel
theorem dX7_gusts_61 : decode cX7_gusts 61 = .ok (.aload_n 0, 1) := by decide +kernel
theorem dX7_gusts_62 : decode cX7_gusts 62 = .ok (.getfield 10, 3) := by decide +kernel
theorem dX7_gusts_65 : decode cX7_gusts 65 = .ok (.invokevirtual 192, 3) := by decide +kernel
theorem dX7_gusts_68 : decode cX7_gusts 68 = .ok (.bipush 60, 2) := by decide +kernel
theorem dX7_gusts_70 : decode cX7_gusts 70 = .ok (.irem, 1) := by decide +kernel
theorem dX7_gusts_71 : decode cX7_gusts 71 = .ok (.istore 5, 2) := by decide +kernel
theorem dX7_gusts_73 : decode cX7_gusts 73 = .ok (.iload 4, 2) := by decide +kernel
theorem dX7_gusts_75 : decode cX7_gusts 75 = .ok (.invokestatic 60, 3) := by decide +kernel
theorem dX7_gusts_78 : decode cX7_gusts 78 = .ok (.ifCond .eq 18, 3) := by decide +kernel
theorem dX7_gusts_81 : decode cX7_gusts 81 = .ok (.aload_n 0, 1) := by decide +kernel
theorem dX7_gusts_82 : decode cX7_gusts 82 = .ok (.getfield 10, 3) := by decide +kernel
theorem dX7_gusts_85 : decode cX7_gusts 85 = .ok (.getfield 68, 3) := by decide +kernel
theorem dX7_gusts_88 : decode cX7_gusts 88 = .ok (.getfield 77, 3) := by decide +kernel
theorem dX7_gusts_91 : decode cX7_gusts 91 = .ok (.iload 4, 2) := by decide +kernel
theorem dX7_gusts_93 : decode cX7_gusts 93 = .ok (.iload 5, 2) := by decide +kernel
theorem dX7_gusts_95 : decode cX7_gusts 95 = .ok (.iastore, 1) := by decide +kernel
theorem dX7_gusts_96 : decode cX7_gusts 96 = .ok (.iload_n 2, 1) := by decide +kernel
theorem dX7_gusts_97 : decode cX7_gusts 97 = .ok (.aload_n 0, 1) := by decide +kernel
theorem dX7_gusts_98 : decode cX7_gusts 98 = .ok (.getfield 10, 3) := by decide +kernel
theorem dX7_gusts_101 : decode cX7_gusts 101 = .ok (.invokevirtual 149, 3) := by decide +kernel
theorem dX7_gusts_104 : decode cX7_gusts 104 = .ok (.iadd, 1) := by decide +kernel
theorem dX7_gusts_105 : decode cX7_gusts 105 = .ok (.istore_n 2, 1) := by decide +kernel
theorem dX7_gusts_106 : decode cX7_gusts 106 = .ok (.iinc 3 1, 3) := by decide +kernel
theorem dX7_gusts_109 : decode cX7_gusts 109 = .ok (.goto (-65), 3) := by decide +kernel
theorem dX7_gusts_112 : decode cX7_gusts 112 = .ok (.iload_n 2, 1) := by decide +kernel
theorem dX7_gusts_113 : decode cX7_gusts 113 = .ok (.ireturn, 1) := by decide +kernel
theorem dX7_odds_0 : decode cX7_odds 0 = .ok (.iload_n 1, 1) := by decide +kernel
theorem dX7_odds_1 : decode cX7_odds 1 = .ok (.bipush 15, 2) := by decide +kernel
theorem dX7_odds_3 : decode cX7_odds 3 = .ok (.invokestatic 83, 3) := by decide +kernel
theorem dX7_odds_6 : decode cX7_odds 6 = .ok (.ifCond .eq 11, 3) := by decide +kernel
theorem dX7_odds_9 : decode cX7_odds 9 = .ok (.iload_n 2, 1) := by decide +kernel
theorem dX7_odds_10 : decode cX7_odds 10 = .ok (.iconst 1, 1) := by decide +kernel
theorem dX7_odds_11 : decode cX7_odds 11 = .ok (.invokestatic 83, 3) := by decide +kernel
theorem dX7_odds_14 : decode cX7_odds 14 = .ok (.ifCond .ne 10, 3) := by decide +kernel
theorem dX7_odds_17 : decode cX7_odds 17 = .ok (.aload_n 0, 1) := by decide +kernel
theorem dX7_odds_18 : decode cX7_odds 18 = .ok (.iconst 0, 1) := by decide +kernel
theorem dX7_odds_19 : decode cX7_odds 19 = .ok (.invokevirtual 64, 3) := by decide +kernel
theorem dX7_odds_22 : decode cX7_odds 22 = .ok (.i2l, 1) := by decide +kernel
theorem dX7_odds_23 : decode cX7_odds 23 = .ok (.lreturn, 1) := by decide +kernel
theorem dX7_odds_24 : decode cX7_odds 24 = .ok (.aload_n 0, 1) := by decide +kernel
theorem dX7_odds_25 : decode cX7_odds 25 = .ok (.getfield 10, 3) := by decide +kernel
theorem dX7_odds_28 : decode cX7_odds 28 = .ok (.getfield 68, 3) := by decide +kernel
theorem dX7_odds_31 : decode cX7_odds 31 = .ok (.invokevirtual 155, 3) := by decide +kernel
theorem dX7_odds_34 : decode cX7_odds 34 = .ok (.invokestatic 195, 3) := by decide +kernel
theorem dX7_odds_37 : decode cX7_odds 37 = .ok (.istore_n 3, 1) := by decide +kernel
theorem dX7_odds_38 : decode cX7_odds 38 = .ok (.bipush 16, 2) := by decide +kernel
theorem dX7_odds_40 : decode cX7_odds 40 = .ok (.istore 4, 2) := by decide +kernel
theorem dX7_odds_42 : decode cX7_odds 42 = .ok (.iconst 0, 1) := by decide +kernel
theorem dX7_odds_43 : decode cX7_odds 43 = .ok (.istore 5, 2) := by decide +kernel
theorem dX7_odds_45 : decode cX7_odds 45 = .ok (.iload 5, 2) := by decide +kernel
theorem dX7_odds_47 : decode cX7_odds 47 = .ok (.iconst 4, 1) := by decide +kernel
theorem dX7_odds_48 : decode cX7_odds 48 = .ok (.if_icmp .ge 25, 3) := by decide +kernel
theorem dX7_odds_51 : decode cX7_odds 51 = .ok (.iload_n 3, 1) := by decide +kernel
theorem dX7_odds_52 : decode cX7_odds 52 = .ok (.iconst 2, 1) := by decide +kernel
theorem dX7_odds_53 : decode cX7_odds 53 = .ok (.irem, 1) := by decide +kernel
theorem dX7_odds_54 : decode cX7_odds 54 = .ok (.ifCond .ne 19, 3) := by decide +kernel
theorem dX7_odds_57 : decode cX7_odds 57 = .ok (.iload_n 3, 1) := by decide +kernel
theorem dX7_odds_58 : decode cX7_odds 58 = .ok (.iconst 2, 1) := by decide +kernel
theorem dX7_odds_59 : decode cX7_odds 59 = .ok (.idiv, 1) := by decide +kernel
theorem dX7_odds_60 : decode cX7_odds 60 = .ok (.istore_n 3, 1) := by decide +kernel
theorem dX7_odds_61 : decode cX7_odds 61 = .ok (.iload 4, 2) := by decide +kernel
theorem dX7_odds_63 : decode cX7_odds 63 = .ok (.iconst 2, 1) := by decide +kernel
theorem dX7_odds_64 : decode cX7_odds 64 = .ok (.idiv, 1) := by decide +kernel
theorem dX7_odds_65 : decode cX7_odds 65 = .ok (.istore 4, 2) := by decide +kernel
theorem dX7_odds_67 : decode cX7_odds 67 = .ok (.iinc 5 1, 3) := by decide +kernel
theorem dX7_odds_70 : decode cX7_odds 70 = .ok (.goto (-25), 3) := by decide +kernel
theorem dX7_odds_73 : decode cX7_odds 73 = .ok (.iload_n 2, 1) := by decide +kernel
theorem dX7_odds_74 : decode cX7_odds 74 = .ok (.ifCond .ne 8, 3) := by decide +kernel
theorem dX7_odds_77 : decode cX7_odds 77 = .ok (.iload_n 3, 1) := by decide +kernel
theorem dX7_odds_78 : decode cX7_odds 78 = .ok (.i2l, 1) := by decide +kernel
theorem dX7_odds_79 : decode cX7_odds 79 = .ok (.goto 6, 3) := by decide +kernel
theorem dX7_odds_82 : decode cX7_odds 82 = .ok (.iload 4, 2) := by decide +kernel
theorem dX7_odds_84 : decode cX7_odds 84 = .ok (.i2l, 1) := by decide +kernel
theorem dX7_odds_85 : decode cX7_odds 85 = .ok (.lstore 5, 2) := by decide +kernel
theorem dX7_odds_87 : decode cX7_odds 87 = .ok (.lconst 1, 1) := by decide +kernel
theorem dX7_odds_88 : decode cX7_odds 88 = .ok (.lstore 7, 2) := by decide +kernel
theorem dX7_odds_90 : decode cX7_odds 90 = .ok (.iconst 0, 1) := by decide +kernel
theorem dX7_odds_91 : decode cX7_odds 91 = .ok (.istore 9, 2) := by decide +kernel
theorem dX7_odds_93 : decode cX7_odds 93 = .ok (.iload 9, 2) := by decide +kernel
theorem dX7_odds_95 : decode cX7_odds 95 = .ok (.iload_n 1, 1) := by decide +kernel
theorem dX7_odds_96 : decode cX7_odds 96 = .ok (.if_icmp .ge 16, 3) := by decide +kernel
theorem dX7_odds_99 : decode cX7_odds 99 = .ok (.lload 7, 2) := by decide +kernel
theorem dX7_odds_101 : decode cX7_odds 101 = .ok (.lload 5, 2) := by decide +kernel
theorem dX7_odds_103 : decode cX7_odds 103 = .ok (.lmul, 1) := by decide +kernel
theorem dX7_odds_104 : decode cX7_odds 104 = .ok (.lstore 7, 2) := by decide +kernel
theorem dX7_odds_106 : decode cX7_odds 106 = .ok (.iinc 9 1, 3) := by decide +kernel
theorem dX7_odds_109 : decode cX7_odds 109 = .ok (.goto (-16), 3) := by decide +kernel
theorem dX7_odds_112 : decode cX7_odds 112 = .ok (.lload 7, 2) := by decide +kernel
theorem dX7_odds_114 : decode cX7_odds 114 = .ok (.lreturn, 1) := by decide +kernel
theorem dX7_seed_0 : decode cX7_seed 0 = .ok (.aload_n 0, 1) := by decide +kernel
theorem dX7_seed_1 : decode cX7_seed 1 = .ok (.getfield 10, 3) := by decide +kernel
theorem dX7_seed_4 : decode cX7_seed 4 = .ok (.getfield 200, 3) := by decide +kernel
theorem dX7_seed_7 : decode cX7_seed 7 = .ok (.istore_n 2, 1) := by decide +kernel
theorem dX7_seed_8 : decode cX7_seed 8 = .ok (.aload_n 0, 1) := by decide +kernel
theorem dX7_seed_9 : decode cX7_seed 9 = .ok (.getfield 10, 3) := by decide +kernel
theorem dX7_seed_12 : decode cX7_seed 12 = .ok (.iload_n 1, 1) := by decide +kernel
theorem dX7_seed_13 : decode cX7_seed 13 = .ok (.putfield 200, 3) := by decide +kernel
theorem dX7_seed_16 : decode cX7_seed 16 = .ok (.iload_n 2, 1) := by decide +kernel
theorem dX7_seed_17 : decode cX7_seed 17 = .ok (.ireturn, 1) := by decide +kernel
theorem dX7_feed_0 : decode cX7_feed 0 = .ok (.iload_n 2, 1) := by decide +kernel
theorem dX7_feed_1 : decode cX7_feed 1 = .ok (.iconst 1, 1) := by decide +kernel
theorem dX7_feed_2 : decode cX7_feed 2 = .ok (.if_icmp .lt 8, 3) := by decide +kernel
theorem dX7_feed_5 : decode cX7_feed 5 = .ok (.iload_n 2, 1) := by decide +kernel
theorem dX7_feed_6 : decode cX7_feed 6 = .ok (.iconst 4, 1) := by decide +kernel
theorem dX7_feed_7 : decode cX7_feed 7 = .ok (.if_icmp .le 9, 3) := by decide +kernel
theorem dX7_feed_10 : decode cX7_feed 10 = .ok (.aload_n 0, 1) := by decide +kernel
theorem dX7_feed_11 : decode cX7_feed 11 = .ok (.iconst 0, 1) := by decide +kernel
theorem dX7_feed_12 : decode cX7_feed 12 = .ok (.invokevirtual 64, 3) := by decide +kernel
theorem dX7_feed_15 : decode cX7_feed 15 = .ok (.ireturn, 1) := by decide +kernel
theorem dX7_feed_16 : decode cX7_feed 16 = .ok (.aload_n 0, 1) := by decide +kernel
theorem dX7_feed_17 : decode cX7_feed 17 = .ok (.getfield 36, 3) := by decide +kernel
theorem dX7_feed_20 : decode cX7_feed 20 = .ok (.getfield 203, 3) := by decide +kernel
theorem dX7_feed_23 : decode cX7_feed 23 = .ok (.iload_n 2, 1) := by decide +kernel
theorem dX7_feed_24 : decode cX7_feed 24 = .ok (.iadd, 1) := by decide +kernel
theorem dX7_feed_25 : decode cX7_feed 25 = .ok (.bipush 120, 2) := by decide +kernel
theorem dX7_feed_27 : decode cX7_feed 27 = .ok (.if_icmp .le 9, 3) := by decide +kernel
theorem dX7_feed_30 : decode cX7_feed 30 = .ok (.aload_n 0, 1) := by decide +kernel
theorem dX7_feed_31 : decode cX7_feed 31 = .ok (.iconst 1, 1) := by decide +kernel
theorem dX7_feed_32 : decode cX7_feed 32 = .ok (.invokevirtual 64, 3) := by decide +kernel
theorem dX7_feed_35 : decode cX7_feed 35 = .ok (.ireturn, 1) := by decide +kernel
theorem dX7_feed_36 : decode cX7_feed 36 = .ok (.aload_n 0, 1) := by decide +kernel
theorem dX7_feed_37 : decode cX7_feed 37 = .ok (.getfield 36, 3) := by decide +kernel
theorem dX7_feed_40 : decode cX7_feed 40 = .ok (.iload_n 1, 1) := by decide +kernel
theorem dX7_feed_41 : decode cX7_feed 41 = .ok (.iload_n 2, 1) := by decide +kernel
theorem dX7_feed_42 : decode cX7_feed 42 = .ok (.invokevirtual 206, 3) := by decide +kernel
theorem dX7_feed_45 : decode cX7_feed 45 = .ok (.aload_n 0, 1) := by decide +kernel
theorem dX7_feed_46 : decode cX7_feed 46 = .ok (.getfield 36, 3) := by decide +kernel
theorem dX7_feed_49 : decode cX7_feed 49 = .ok (.getfield 203, 3) := by decide +kernel
theorem dX7_feed_52 : decode cX7_feed 52 = .ok (.ireturn, 1) := by decide +kernel
theorem dX7_wipe_0 : decode cX7_wipe 0 = .ok (.aload_n 0, 1) := by decide +kernel
theorem dX7_wipe_1 : decode cX7_wipe 1 = .ok (.getfield 36, 3) := by decide +kernel
theorem dX7_wipe_4 : decode cX7_wipe 4 = .ok (.getfield 203, 3) := by decide +kernel
theorem dX7_wipe_7 : decode cX7_wipe 7 = .ok (.istore_n 1, 1) := by decide +kernel
theorem dX7_wipe_8 : decode cX7_wipe 8 = .ok (.aload_n 0, 1) := by decide +kernel
theorem dX7_wipe_9 : decode cX7_wipe 9 = .ok (.getfield 36, 3) := by decide +kernel
theorem dX7_wipe_12 : decode cX7_wipe 12 = .ok (.iconst 0, 1) := by decide +kernel
theorem dX7_wipe_13 : decode cX7_wipe 13 = .ok (.putfield 203, 3) := by decide +kernel
theorem dX7_wipe_16 : decode cX7_wipe 16 = .ok (.iload_n 1, 1) := by decide +kernel
theorem dX7_wipe_17 : decode cX7_wipe 17 = .ok (.ireturn, 1) := by decide +kernel
theorem dX7_text_0 : decode cX7_text 0 = .ok (.aload_n 0, 1) := by decide +kernel
theorem dX7_text_1 : decode cX7_text 1 = .ok (.getfield 19, 3) := by decide +kernel
theorem dX7_text_4 : decode cX7_text 4 = .ok (.aload_n 0, 1) := by decide +kernel
theorem dX7_text_5 : decode cX7_text 5 = .ok (.getfield 10, 3) := by decide +kernel
theorem dX7_text_8 : decode cX7_text 8 = .ok (.invokevirtual 209, 3) := by decide +kernel
theorem dX7_text_11 : decode cX7_text 11 = .ok (.aload_n 0, 1) := by decide +kernel
theorem dX7_text_12 : decode cX7_text 12 = .ok (.getfield 45, 3) := by decide +kernel
theorem dX7_text_15 : decode cX7_text 15 = .ok (.aload_n 0, 1) := by decide +kernel
theorem dX7_text_16 : decode cX7_text 16 = .ok (.getfield 19, 3) := by decide +kernel
theorem dX7_text_19 : decode cX7_text 19 = .ok (.invokevirtual 213, 3) := by decide +kernel
theorem dX7_text_22 : decode cX7_text 22 = .ok (.istore_n 1, 1) := by decide +kernel
theorem dX7_text_23 : decode cX7_text 23 = .ok (.aload_n 0, 1) := by decide +kernel
theorem dX7_text_24 : decode cX7_text 24 = .ok (.getfield 36, 3) := by decide +kernel
theorem dX7_text_27 : decode cX7_text 27 = .ok (.iconst 0, 1) := by decide +kernel
theorem dX7_text_28 : decode cX7_text 28 = .ok (.putfield 203, 3) := by decide +kernel
theorem dX7_text_31 : decode cX7_text 31 = .ok (.iload_n 1, 1) := by decide +kernel
theorem dX7_text_32 : decode cX7_text 32 = .ok (.ifCond .lt 14, 3) := by decide +kernel
theorem dX7_text_35 : decode cX7_text 35 = .ok (.aload_n 0, 1) := by decide +kernel
theorem dX7_text_36 : decode cX7_text 36 = .ok (.getfield 10, 3) := by decide +kernel
theorem dX7_text_39 : decode cX7_text 39 = .ok (.aload_n 0, 1) := by decide +kernel
theorem dX7_text_40 : decode cX7_text 40 = .ok (.getfield 19, 3) := by decide +kernel
theorem dX7_text_43 : decode cX7_text 43 = .ok (.invokevirtual 209, 3) := by decide +kernel
theorem dX7_text_46 : decode cX7_text 46 = .ok (.iload_n 1, 1) := by decide +kernel
theorem dX7_text_47 : decode cX7_text 47 = .ok (.ireturn, 1) := by decide +kernel
theorem dX7_hold_0 : decode cX7_hold 0 = .ok (.iload_n 1, 1) := by decide +kernel
theorem dX7_hold_1 : decode cX7_hold 1 = .ok (.invokestatic 217, 3) := by decide +kernel
theorem dX7_hold_4 : decode cX7_hold 4 = .ok (.ifCond .eq 16, 3) := by decide +kernel
theorem dX7_hold_7 : decode cX7_hold 7 = .ok (.iload_n 2, 1) := by decide +kernel
theorem dX7_hold_8 : decode cX7_hold 8 = .ok (.iconst (-1), 1) := by decide +kernel
theorem dX7_hold_9 : decode cX7_hold 9 = .ok (.if_icmp .eq 17, 3) := by decide +kernel
theorem dX7_hold_12 : decode cX7_hold 12 = .ok (.aload_n 0, 1) := by decide +kernel
theorem dX7_hold_13 : decode cX7_hold 13 = .ok (.iload_n 2, 1) := by decide +kernel
theorem dX7_hold_14 : decode cX7_hold 14 = .ok (.invokevirtual 111, 3) := by decide +kernel
theorem dX7_hold_17 : decode cX7_hold 17 = .ok (.ifCond .ne 9, 3) := by decide +kernel
theorem dX7_hold_20 : decode cX7_hold 20 = .ok (.aload_n 0, 1) := by decide +kernel
theorem dX7_hold_21 : decode cX7_hold 21 = .ok (.iconst 0, 1) := by decide +kernel
theorem dX7_hold_22 : decode cX7_hold 22 = .ok (.invokevirtual 64, 3) := by decide +kernel
theorem dX7_hold_25 : decode cX7_hold 25 = .ok (.ireturn, 1) := by decide +kernel
theorem dX7_hold_26 : decode cX7_hold 26 = .ok (.aload_n 0, 1) := by decide +kernel
theorem dX7_hold_27 : decode cX7_hold 27 = .ok (.getfield 10, 3) := by decide +kernel
theorem dX7_hold_30 : decode cX7_hold 30 = .ok (.getfield 220, 3) := by decide +kernel
theorem dX7_hold_33 : decode cX7_hold 33 = .ok (.iload_n 1, 1) := by decide +kernel
theorem dX7_hold_34 : decode cX7_hold 34 = .ok (.iload_n 2, 1) := by decide +kernel
theorem dX7_hold_35 : decode cX7_hold 35 = .ok (.iastore, 1) := by decide +kernel
theorem dX7_hold_36 : decode cX7_hold 36 = .ok (.iconst 1, 1) := by decide +kernel
theorem dX7_hold_37 : decode cX7_hold 37 = .ok (.ireturn, 1) := by decide +kernel
theorem dX7_as_0 : decode cX7_as 0 = .ok (.iload_n 1, 1) := by decide +kernel
theorem dX7_as_1 : decode cX7_as 1 = .ok (.invokestatic 217, 3) := by decide +kernel
theorem dX7_as_4 : decode cX7_as 4 = .ok (.ifCond .eq 10, 3) := by decide +kernel
theorem dX7_as_7 : decode cX7_as 7 = .ok (.iload_n 2, 1) := by decide +kernel
theorem dX7_as_8 : decode cX7_as 8 = .ok (.invokestatic 101, 3) := by decide +kernel
theorem dX7_as_11 : decode cX7_as 11 = .ok (.ifCond .ne 9, 3) := by decide +kernel
theorem dX7_as_14 : decode cX7_as 14 = .ok (.aload_n 0, 1) := by decide +kernel
theorem dX7_as_15 : decode cX7_as 15 = .ok (.iconst 0, 1) := by decide +kernel
theorem dX7_as_16 : decode cX7_as 16 = .ok (.invokevirtual 64, 3) := by decide +kernel
theorem dX7_as_19 : decode cX7_as 19 = .ok (.ireturn, 1) := by decide +kernel
theorem dX7_as_20 : decode cX7_as 20 = .ok (.aload_n 0, 1) := by decide +kernel
theorem dX7_as_21 : decode cX7_as 21 = .ok (.getfield 10, 3) := by decide +kernel
theorem dX7_as_24 : decode cX7_as 24 = .ok (.getfield 220, 3) := by decide +kernel
theorem dX7_as_27 : decode cX7_as 27 = .ok (.iload_n 1, 1) := by decide +kernel
theorem dX7_as_28 : decode cX7_as 28 = .ok (.iaload, 1) := by decide +kernel
theorem dX7_as_29 : decode cX7_as 29 = .ok (.istore_n 3, 1) := by decide +kernel
theorem dX7_as_30 : decode cX7_as 30 = .ok (.aload_n 0, 1) := by decide +kernel
theorem dX7_as_31 : decode cX7_as 31 = .ok (.iload_n 3, 1) := by decide +kernel
theorem dX7_as_32 : decode cX7_as 32 = .ok (.invokevirtual 111, 3) := by decide +kernel
theorem dX7_as_35 : decode cX7_as 35 = .ok (.ifCond .ne 9, 3) := by decide +kernel
theorem dX7_as_38 : decode cX7_as 38 = .ok (.aload_n 0, 1) := by decide +kernel
theorem dX7_as_39 : decode cX7_as 39 = .ok (.iconst 5, 1) := by decide +kernel
theorem dX7_as_40 : decode cX7_as 40 = .ok (.invokevirtual 64, 3) := by decide +kernel
theorem dX7_as_43 : decode cX7_as 43 = .ok (.ireturn, 1) := by decide +kernel
theorem dX7_as_44 : decode cX7_as 44 = .ok (.aload_n 0, 1) := by decide +kernel
theorem dX7_as_45 : decode cX7_as 45 = .ok (.getfield 10, 3) := by decide +kernel
theorem dX7_as_48 : decode cX7_as 48 = .ok (.getfield 114, 3) := by decide +kernel
theorem dX7_as_51 : decode cX7_as 51 = .ok (.iload_n 3, 1) := by decide +kernel
theorem dX7_as_52 : decode cX7_as 52 = .ok (.aaload, 1) := by decide +kernel
theorem dX7_as_53 : decode cX7_as 53 = .ok (.getfield 223, 3) := by decide +kernel
theorem dX7_as_56 : decode cX7_as 56 = .ok (.iload_n 2, 1) := by decide +kernel
theorem dX7_as_57 : decode cX7_as 57 = .ok (.invokestatic 226, 3) := by decide +kernel
theorem dX7_as_60 : decode cX7_as 60 = .ok (.ifCond .eq 7, 3) := by decide +kernel
theorem dX7_as_63 : decode cX7_as 63 = .ok (.iload_n 3, 1) := by decide +kernel
theorem dX7_as_64 : decode cX7_as 64 = .ok (.goto 8, 3) := by decide +kernel
theorem dX7_as_67 : decode cX7_as 67 = .ok (.aload_n 0, 1) := by decide +kernel
theorem dX7_as_68 : decode cX7_as 68 = .ok (.iconst 2, 1) := by decide +kernel
theorem dX7_as_69 : decode cX7_as 69 = .ok (.invokevirtual 64, 3) := by decide +kernel
theorem dX7_as_72 : decode cX7_as 72 = .ok (.ireturn, 1) := by decide +kernel
theorem dX7_sheet_0 : decode cX7_sheet 0 = .ok (.iload_n 1, 1) := by decide +kernel
theorem dX7_sheet_1 : decode cX7_sheet 1 = .ok (.invokestatic 229, 3) := by decide +kernel
theorem dX7_sheet_4 : decode cX7_sheet 4 = .ok (.ifCond .eq 25, 3) := by decide +kernel
theorem dX7_sheet_7 : decode cX7_sheet 7 = .ok (.iload_n 2, 1) := by decide +kernel
theorem dX7_sheet_8 : decode cX7_sheet 8 = .ok (.ifCond .eq 27, 3) := by decide +kernel
theorem dX7_sheet_11 : decode cX7_sheet 11 = .ok (.iload_n 2, 1) := by decide +kernel
theorem dX7_sheet_12 : decode cX7_sheet 12 = .ok (.bipush 8, 2) := by decide +kernel
theorem dX7_sheet_14 : decode cX7_sheet 14 = .ok (.if_icmp .eq 21, 3) := by decide +kernel
theorem dX7_sheet_17 : decode cX7_sheet 17 = .ok (.iload_n 2, 1) := by decide +kernel
theorem dX7_sheet_18 : decode cX7_sheet 18 = .ok (.bipush 16, 2) := by decide +kernel
theorem dX7_sheet_20 : decode cX7_sheet 20 = .ok (.if_icmp .eq 15, 3) := by decide +kernel
theorem dX7_sheet_23 : decode cX7_sheet 23 = .ok (.iload_n 2, 1) := by decide +kernel
theorem dX7_sheet_24 : decode cX7_sheet 24 = .ok (.bipush 32, 2) := by decide +kernel
theorem dX7_sheet_26 : decode cX7_sheet 26 = .ok (.if_icmp .eq 9, 3) := by decide +kernel
theorem dX7_sheet_29 : decode cX7_sheet 29 = .ok (.aload_n 0, 1) := by decide +kernel
theorem dX7_sheet_30 : decode cX7_sheet 30 = .ok (.iconst 0, 1) := by decide +kernel
theorem dX7_sheet_31 : decode cX7_sheet 31 = .ok (.invokevirtual 64, 3) := by decide +kernel
theorem dX7_sheet_34 : decode cX7_sheet 34 = .ok (.ireturn, 1) := by decide +kernel
theorem dX7_sheet_35 : decode cX7_sheet 35 = .ok (.iload_n 3, 1) := by decide +kernel
theorem dX7_sheet_36 : decode cX7_sheet 36 = .ok (.ifCond .ge 10, 3) := by decide +kernel
theorem dX7_sheet_39 : decode cX7_sheet 39 = .ok (.aload_n 0, 1) := by decide +kernel
theorem dX7_sheet_40 : decode cX7_sheet 40 = .ok (.bipush 6, 2) := by decide +kernel
theorem dX7_sheet_42 : decode cX7_sheet 42 = .ok (.invokevirtual 64, 3) := by decide +kernel
theorem dX7_sheet_45 : decode cX7_sheet 45 = .ok (.ireturn, 1) := by decide +kernel
theorem dX7_sheet_46 : decode cX7_sheet 46 = .ok (.iload_n 3, 1) := by decide +kernel
theorem dX7_sheet_47 : decode cX7_sheet 47 = .ok (.bipush 40, 2) := by decide +kernel
theorem dX7_sheet_49 : decode cX7_sheet 49 = .ok (.if_icmp .le 9, 3) := by decide +kernel
theorem dX7_sheet_52 : decode cX7_sheet 52 = .ok (.aload_n 0, 1) := by decide +kernel
theorem dX7_sheet_53 : decode cX7_sheet 53 = .ok (.iconst 0, 1) := by decide +kernel
theorem dX7_sheet_54 : decode cX7_sheet 54 = .ok (.invokevirtual 64, 3) := by decide +kernel
theorem dX7_sheet_57 : decode cX7_sheet 57 = .ok (.ireturn, 1) := by decide +kernel
theorem dX7_sheet_58 : decode cX7_sheet 58 = .ok (.aload_n 0, 1) := by decide +kernel
theorem dX7_sheet_59 : decode cX7_sheet 59 = .ok (.getfield 51, 3) := by decide +kernel
theorem dX7_sheet_62 : decode cX7_sheet 62 = .ok (.iload_n 1, 1) := by decide +kernel
theorem dX7_sheet_63 : decode cX7_sheet 63 = .ok (.aaload, 1) := by decide +kernel
theorem dX7_sheet_64 : decode cX7_sheet 64 = .ok (.iload_n 2, 1) := by decide +kernel
theorem dX7_sheet_65 : decode cX7_sheet 65 = .ok (.iload_n 3, 1) := by decide +kernel
theorem dX7_sheet_66 : decode cX7_sheet 66 = .ok (.invokevirtual 232, 3) := by decide +kernel
theorem dX7_sheet_69 : decode cX7_sheet 69 = .ok (.aload_n 0, 1) := by decide +kernel
theorem dX7_sheet_70 : decode cX7_sheet 70 = .ok (.getfield 51, 3) := by decide +kernel
theorem dX7_sheet_73 : decode cX7_sheet 73 = .ok (.iload_n 1, 1) := by decide +kernel
theorem dX7_sheet_74 : decode cX7_sheet 74 = .ok (.aaload, 1) := by decide +kernel
theorem dX7_sheet_75 : decode cX7_sheet 75 = .ok (.getfield 235, 3) := by decide +kernel
theorem dX7_sheet_78 : decode cX7_sheet 78 = .ok (.ireturn, 1) := by decide +kernel
theorem dX7_write_0 : decode cX7_write 0 = .ok (.iload_n 1, 1) := by decide +kernel
theorem dX7_write_1 : decode cX7_write 1 = .ok (.invokestatic 229, 3) := by decide +kernel
theorem dX7_write_4 : decode cX7_write 4 = .ok (.ifCond .ne 9, 3) := by decide +kernel
theorem dX7_write_7 : decode cX7_write 7 = .ok (.aload_n 0, 1) := by decide +kernel
theorem dX7_write_8 : decode cX7_write 8 = .ok (.iconst 0, 1) := by decide +kernel
theorem dX7_write_9 : decode cX7_write 9 = .ok (.invokevirtual 64, 3) := by decide +kernel
theorem dX7_write_12 : decode cX7_write 12 = .ok (.ireturn, 1) := by decide +kernel
theorem dX7_write_13 : decode cX7_write 13 = .ok (.aload_n 0, 1) := by decide +kernel
theorem dX7_write_14 : decode cX7_write 14 = .ok (.getfield 51, 3) := by decide +kernel
theorem dX7_write_17 : decode cX7_write 17 = .ok (.iload_n 1, 1) := by decide +kernel
theorem dX7_write_18 : decode cX7_write 18 = .ok (.aaload, 1) := by decide +kernel
theorem dX7_write_19 : decode cX7_write 19 = .ok (.astore 4, 2) := by decide +kernel
theorem dX7_write_21 : decode cX7_write 21 = .ok (.aload 4, 2) := by decide +kernel
theorem dX7_write_23 : decode cX7_write 23 = .ok (.invokevirtual 236, 3) := by decide +kernel
theorem dX7_write_26 : decode cX7_write 26 = .ok (.ifCond .eq 9, 3) := by decide +kernel
theorem dX7_write_29 : decode cX7_write 29 = .ok (.aload_n 0, 1) := by decide +kernel
theorem dX7_write_30 : decode cX7_write 30 = .ok (.iconst 5, 1) := by decide +kernel
theorem dX7_write_31 : decode cX7_write 31 = .ok (.invokevirtual 64, 3) := by decide +kernel
theorem dX7_write_34 : decode cX7_write 34 = .ok (.ireturn, 1) := by decide +kernel
theorem dX7_write_35 : decode cX7_write 35 = .ok (.iload_n 2, 1) := by decide +kernel
theorem dX7_write_36 : decode cX7_write 36 = .ok (.ifCond .lt 12, 3) := by decide +kernel
theorem dX7_write_39 : decode cX7_write 39 = .ok (.iload_n 2, 1) := by decide +kernel
theorem dX7_write_40 : decode cX7_write 40 = .ok (.aload 4, 2) := by decide +kernel
theorem dX7_write_42 : decode cX7_write 42 = .ok (.getfield 235, 3) := by decide +kernel
theorem dX7_write_45 : decode cX7_write 45 = .ok (.if_icmp .lt 9, 3) := by decide +kernel
theorem dX7_write_48 : decode cX7_write 48 = .ok (.aload_n 0, 1) := by decide +kernel
theorem dX7_write_49 : decode cX7_write 49 = .ok (.iconst 0, 1) := by decide +kernel
theorem dX7_write_50 : decode cX7_write 50 = .ok (.invokevirtual 64, 3) := by decide +kernel
theorem dX7_write_53 : decode cX7_write 53 = .ok (.ireturn, 1) := by decide +kernel
theorem dX7_write_54 : decode cX7_write 54 = .ok (.aload 4, 2) := by decide +kernel
theorem dX7_write_56 : decode cX7_write 56 = .ok (.iload_n 2, 1) := by decide +kernel
theorem dX7_write_57 : decode cX7_write 57 = .ok (.iload_n 3, 1) := by decide +kernel
theorem dX7_write_58 : decode cX7_write 58 = .ok (.invokevirtual 239, 3) := by decide +kernel
theorem dX7_write_61 : decode cX7_write 61 = .ok (.iconst 1, 1) := by decide +kernel
theorem dX7_write_62 : decode cX7_write 62 = .ok (.ireturn, 1) := by decide +kernel
theorem dX7_copy_0 : decode cX7_copy 0 = .ok (.iload_n 1, 1) := by decide +kernel
theorem dX7_copy_1 : decode cX7_copy 1 = .ok (.invokestatic 229, 3) := by decide +kernel
theorem dX7_copy_4 : decode cX7_copy 4 = .ok (.ifCond .eq 10, 3) := by decide +kernel
theorem dX7_copy_7 : decode cX7_copy 7 = .ok (.iload_n 3, 1) := by decide +kernel
theorem dX7_copy_8 : decode cX7_copy 8 = .ok (.invokestatic 229, 3) := by decide +kernel
theorem dX7_copy_11 : decode cX7_copy 11 = .ok (.ifCond .ne 9, 3) := by decide +kernel
theorem dX7_copy_14 : decode cX7_copy 14 = .ok (.aload_n 0, 1) := by decide +kernel
theorem dX7_copy_15 : decode cX7_copy 15 = .ok (.iconst 0, 1) := by decide +kernel
theorem dX7_copy_16 : decode cX7_copy 16 = .ok (.invokevirtual 64, 3) := by decide +kernel
theorem dX7_copy_19 : decode cX7_copy 19 = .ok (.ireturn, 1) := by decide +kernel
theorem dX7_copy_20 : decode cX7_copy 20 = .ok (.aload_n 0, 1) := by decide +kernel
theorem dX7_copy_21 : decode cX7_copy 21 = .ok (.getfield 51, 3) := by decide +kernel
theorem dX7_copy_24 : decode cX7_copy 24 = .ok (.iload_n 1, 1) := by decide +kernel
theorem dX7_copy_25 : decode cX7_copy 25 = .ok (.aaload, 1) := by decide +kernel
theorem dX7_copy_26 : decode cX7_copy 26 = .ok (.astore 6, 2) := by decide +kernel
theorem dX7_copy_28 : decode cX7_copy 28 = .ok (.aload_n 0, 1) := by decide +kernel
theorem dX7_copy_29 : decode cX7_copy 29 = .ok (.getfield 51, 3) := by decide +kernel
theorem dX7_copy_32 : decode cX7_copy 32 = .ok (.iload_n 3, 1) := by decide +kernel
theorem dX7_copy_33 : decode cX7_copy 33 = .ok (.aaload, 1) := by decide +kernel
theorem dX7_copy_34 : decode cX7_copy 34 = .ok (.astore 7, 2) := by decide +kernel
theorem dX7_copy_36 : decode cX7_copy 36 = .ok (.aload 6, 2) := by decide +kernel
theorem dX7_copy_38 : decode cX7_copy 38 = .ok (.invokevirtual 236, 3) := by decide +kernel
theorem dX7_copy_41 : decode cX7_copy 41 = .ok (.ifCond .ne 11, 3) := by decide +kernel
theorem dX7_copy_44 : decode cX7_copy 44 = .ok (.aload 7, 2) := by decide +kernel
theorem dX7_copy_46 : decode cX7_copy 46 = .ok (.invokevirtual 236, 3) := by decide +kernel
theorem dX7_copy_49 : decode cX7_copy 49 = .ok (.ifCond .eq 9, 3) := by decide +kernel
theorem dX7_copy_52 : decode cX7_copy 52 = .ok (.aload_n 0, 1) := by decide +kernel
theorem dX7_copy_53 : decode cX7_copy 53 = .ok (.iconst 5, 1) := by decide +kernel
theorem dX7_copy_54 : decode cX7_copy 54 = .ok (.invokevirtual 64, 3) := by decide +kernel
theorem dX7_copy_57 : decode cX7_copy 57 = .ok (.ireturn, 1) := by decide +kernel
theorem dX7_copy_58 : decode cX7_copy 58 = .ok (.aload 6, 2) := by decide +kernel
theorem dX7_copy_60 : decode cX7_copy 60 = .ok (.getfield 242, 3) := by decide +kernel
theorem dX7_copy_63 : decode cX7_copy 63 = .ok (.aload 7, 2) := by decide +kernel
theorem dX7_copy_65 : decode cX7_copy 65 = .ok (.getfield 242, 3) := by decide +kernel
theorem dX7_copy_68 : decode cX7_copy 68 = .ok (.if_icmp .eq 9, 3) := by decide +kernel
theorem dX7_copy_71 : decode cX7_copy 71 = .ok (.aload_n 0, 1) := by decide +kernel
theorem dX7_copy_72 : decode cX7_copy 72 = .ok (.iconst 2, 1) := by decide +kernel
theorem dX7_copy_73 : decode cX7_copy 73 = .ok (.invokevirtual 64, 3) := by decide +kernel
theorem dX7_copy_76 : decode cX7_copy 76 = .ok (.ireturn, 1) := by decide +kernel
theorem dX7_copy_77 : decode cX7_copy 77 = .ok (.aload 6, 2) := by decide +kernel
theorem dX7_copy_79 : decode cX7_copy 79 = .ok (.iload_n 2, 1) := by decide +kernel
theorem dX7_copy_80 : decode cX7_copy 80 = .ok (.iload 5, 2) := by decide +kernel
theorem dX7_copy_82 : decode cX7_copy 82 = .ok (.invokevirtual 245, 3) := by decide +kernel
theorem dX7_copy_85 : decode cX7_copy 85 = .ok (.ifCond .eq 15, 3) := by decide +kernel
theorem dX7_copy_88 : decode cX7_copy 88 = .ok (.aload 7, 2) := by decide +kernel
theorem dX7_copy_90 : decode cX7_copy 90 = .ok (.iload 4, 2) := by decide +kernel
theorem dX7_copy_92 : decode cX7_copy 92 = .ok (.iload 5, 2) := by decide +kernel
theorem dX7_copy_94 : decode cX7_copy 94 = .ok (.invokevirtual 245, 3) := by decide +kernel
theorem dX7_copy_97 : decode cX7_copy 97 = .ok (.ifCond .ne 9, 3) := by decide +kernel
theorem dX7_copy_100 : decode cX7_copy 100 = .ok (.aload_n 0, 1) := by decide +kernel
theorem dX7_copy_101 : decode cX7_copy 101 = .ok (.iconst 0, 1) := by decide +kernel
theorem dX7_copy_102 : decode cX7_copy 102 = .ok (.invokevirtual 64, 3) := by decide +kernel
theorem dX7_copy_105 : decode cX7_copy 105 = .ok (.ireturn, 1) := by decide +kernel
theorem dX7_copy_106 : decode cX7_copy 106 = .ok (.aload 6, 2) := by decide +kernel
theorem dX7_copy_108 : decode cX7_copy 108 = .ok (.getfield 248, 3) := by decide +kernel
theorem dX7_copy_111 : decode cX7_copy 111 = .ok (.iload_n 2, 1) := by decide +kernel
theorem dX7_copy_112 : decode cX7_copy 112 = .ok (.aload 7, 2) := by decide +kernel
theorem dX7_copy_114 : decode cX7_copy 114 = .ok (.getfield 248, 3) := by decide +kernel
theorem dX7_copy_117 : decode cX7_copy 117 = .ok (.iload 4, 2) := by decide +kernel
theorem dX7_copy_119 : decode cX7_copy 119 = .ok (.iload 5, 2) := by decide +kernel
theorem dX7_copy_121 : decode cX7_copy 121 = .ok (.invokestatic 251, 3) := by decide +kernel
theorem dX7_copy_124 : decode cX7_copy 124 = .ok (.iload 5, 2) := by decide +kernel
theorem dX7_copy_126 : decode cX7_copy 126 = .ok (.ireturn, 1) := by decide +kernel
theorem dX7_load_0 : decode cX7_load 0 = .ok (.iload_n 1, 1) := by decide +kernel
theorem dX7_load_1 : decode cX7_load 1 = .ok (.invokestatic 229, 3) := by decide +kernel
theorem dX7_load_4 : decode cX7_load 4 = .ok (.ifCond .ne 9, 3) := by decide +kernel
theorem dX7_load_7 : decode cX7_load 7 = .ok (.aload_n 0, 1) := by decide +kernel
theorem dX7_load_8 : decode cX7_load 8 = .ok (.iconst 0, 1) := by decide +kernel
theorem dX7_load_9 : decode cX7_load 9 = .ok (.invokevirtual 64, 3) := by decide +kernel
theorem dX7_load_12 : decode cX7_load 12 = .ok (.ireturn, 1) := by decide +kernel
theorem dX7_load_13 : decode cX7_load 13 = .ok (.aload_n 0, 1) := by decide +kernel
theorem dX7_load_14 : decode cX7_load 14 = .ok (.getfield 51, 3) := by decide +kernel
theorem dX7_load_17 : decode cX7_load 17 = .ok (.iload_n 1, 1) := by decide +kernel
theorem dX7_load_18 : decode cX7_load 18 = .ok (.aaload, 1) := by decide +kernel
theorem dX7_load_19 : decode cX7_load 19 = .ok (.astore_n 2, 1) := by decide +kernel
theorem dX7_load_20 : decode cX7_load 20 = .ok (.aload_n 2, 1) := by decide +kernel
theorem dX7_load_21 : decode cX7_load 21 = .ok (.invokevirtual 236, 3) := by decide +kernel
theorem dX7_load_24 : decode cX7_load 24 = .ok (.ifCond .eq 9, 3) := by decide +kernel
theorem dX7_load_27 : decode cX7_load 27 = .ok (.aload_n 0, 1) := by decide +kernel
theorem dX7_load_28 : decode cX7_load 28 = .ok (.iconst 5, 1) := by decide +kernel
theorem dX7_load_29 : decode cX7_load 29 = .ok (.invokevirtual 64, 3) := by decide +kernel
theorem dX7_load_32 : decode cX7_load 32 = .ok (.ireturn, 1) := by decide +kernel
theorem dX7_load_33 : decode cX7_load 33 = .ok (.iconst 0, 1) := by decide +kernel
theorem dX7_load_34 : decode cX7_load 34 = .ok (.istore_n 3, 1) := by decide +kernel
theorem dX7_load_35 : decode cX7_load 35 = .ok (.iload_n 3, 1) := by decide +kernel
theorem dX7_load_36 : decode cX7_load 36 = .ok (.aload_n 2, 1) := by decide +kernel
theorem dX7_load_37 : decode cX7_load 37 = .ok (.getfield 235, 3) := by decide +kernel
theorem dX7_load_40 : decode cX7_load 40 = .ok (.if_icmp .ge 47, 3) := by decide +kernel
theorem dX7_load_43 : decode cX7_load 43 = .ok (.iload_n 3, 1) := by decide +kernel
theorem dX7_load_44 : decode cX7_load 44 = .ok (.bipush 16, 2) := by decide +kernel
theorem dX7_load_46 : decode cX7_load 46 = .ok (.if_icmp .ge 41, 3) := by decide +kernel
theorem dX7_load_49 : decode cX7_load 49 = .ok (.aload_n 2, 1) := by decide +kernel
theorem dX7_load_50 : decode cX7_load 50 = .ok (.getfield 248, 3) := by decide +kernel
theorem dX7_load_53 : decode cX7_load 53 = .ok (.iload_n 3, 1) := by decide +kernel
theorem dX7_load_54 : decode cX7_load 54 = .ok (.iaload, 1) := by decide +kernel
theorem dX7_load_55 : decode cX7_load 55 = .ok (.bipush 99, 2) := by decide +kernel
theorem dX7_load_57 : decode cX7_load 57 = .ok (.invokestatic 83, 3) := by decide +kernel
theorem dX7_load_60 : decode cX7_load 60 = .ok (.ifCond .eq 27, 3) := by decide +kernel
theorem dX7_load_63 : decode cX7_load 63 = .ok (.aload_n 0, 1) := by decide +kernel
theorem dX7_load_64 : decode cX7_load 64 = .ok (.getfield 10, 3) := by decide +kernel
theorem dX7_load_67 : decode cX7_load 67 = .ok (.getfield 68, 3) := by decide +kernel
theorem dX7_load_70 : decode cX7_load 70 = .ok (.getfield 77, 3) := by decide +kernel
theorem dX7_load_73 : decode cX7_load 73 = .ok (.iload_n 3, 1) := by decide +kernel
theorem dX7_load_74 : decode cX7_load 74 = .ok (.aload_n 2, 1) := by decide +kernel
theorem dX7_load_75 : decode cX7_load 75 = .ok (.getfield 248, 3) := by decide +kernel
theorem dX7_load_78 : decode cX7_load 78 = .ok (.iload_n 3, 1) := by decide +kernel
theorem dX7_load_79 : decode cX7_load 79 = .ok (.iaload, 1) := by decide +kernel
theorem dX7_load_80 : decode cX7_load 80 = .ok (.iastore, 1) := by decide +kernel
theorem dX7_load_81 : decode cX7_load 81 = .ok (.iinc 3 1, 3) := by decide +kernel
theorem dX7_load_84 : decode cX7_load 84 = .ok (.goto (-49), 3) := by decide +kernel
theorem dX7_load_87 : decode cX7_load 87 = .ok (.iload_n 3, 1) := by decide +kernel
theorem dX7_load_88 : decode cX7_load 88 = .ok (.ireturn, 1) := by decide +kernel
theorem dX7_judge_0 : decode cX7_judge 0 = .ok (.iload_n 1, 1) := by decide +kernel
theorem dX7_judge_1 : decode cX7_judge 1 = .ok (.invokestatic 229, 3) := by decide +kernel
theorem dX7_judge_4 : decode cX7_judge 4 = .ok (.ifCond .ne 9, 3) := by decide +kernel
theorem dX7_judge_7 : decode cX7_judge 7 = .ok (.aload_n 0, 1) := by decide +kernel
theorem dX7_judge_8 : decode cX7_judge 8 = .ok (.iconst 0, 1) := by decide +kernel
theorem dX7_judge_9 : decode cX7_judge 9 = .ok (.invokevirtual 64, 3) := by decide +kernel
theorem dX7_judge_12 : decode cX7_judge 12 = .ok (.ireturn, 1) := by decide +kernel
theorem dX7_judge_13 : decode cX7_judge 13 = .ok (.aload_n 0, 1) := by decide +kernel
theorem dX7_judge_14 : decode cX7_judge 14 = .ok (.getfield 51, 3) := by decide +kernel
theorem dX7_judge_17 : decode cX7_judge 17 = .ok (.iload_n 1, 1) := by decide +kernel
theorem dX7_judge_18 : decode cX7_judge 18 = .ok (.aaload, 1) := by decide +kernel
theorem dX7_judge_19 : decode cX7_judge 19 = .ok (.astore_n 2, 1) := by decide +kernel
theorem dX7_judge_20 : decode cX7_judge 20 = .ok (.aload_n 2, 1) := by decide +kernel
theorem dX7_judge_21 : decode cX7_judge 21 = .ok (.invokevirtual 236, 3) := by decide +kernel
theorem dX7_judge_24 : decode cX7_judge 24 = .ok (.ifCond .eq 9, 3) := by decide +kernel
theorem dX7_judge_27 : decode cX7_judge 27 = .ok (.aload_n 0, 1) := by decide +kernel
theorem dX7_judge_28 : decode cX7_judge 28 = .ok (.iconst 5, 1) := by decide +kernel
theorem dX7_judge_29 : decode cX7_judge 29 = .ok (.invokevirtual 64, 3) := by decide +kernel
theorem dX7_judge_32 : decode cX7_judge 32 = .ok (.ireturn, 1) := by decide +kernel
theorem dX7_judge_33 : decode cX7_judge 33 = .ok (.iconst 0, 1) := by decide +kernel
theorem dX7_judge_34 : decode cX7_judge 34 = .ok (.istore_n 3, 1) := by decide +kernel
theorem dX7_judge_35 : decode cX7_judge 35 = .ok (.iload_n 3, 1) := by decide +kernel
theorem dX7_judge_36 : decode cX7_judge 36 = .ok (.aload_n 2, 1) := by decide +kernel
theorem dX7_judge_37 : decode cX7_judge 37 = .ok (.getfield 235, 3) := by decide +kernel
theorem dX7_judge_40 : decode cX7_judge 40 = .ok (.if_icmp .ge 40, 3) := by decide +kernel
theorem dX7_judge_43 : decode cX7_judge 43 = .ok (.iload_n 3, 1) := by decide +kernel
theorem dX7_judge_44 : decode cX7_judge 44 = .ok (.invokestatic 60, 3) := by decide +kernel
theorem dX7_judge_47 : decode cX7_judge 47 = .ok (.ifCond .eq 23, 3) := by decide +kernel
theorem dX7_judge_50 : decode cX7_judge 50 = .ok (.aload_n 2, 1) := by decide +kernel
theorem dX7_judge_51 : decode cX7_judge 51 = .ok (.getfield 248, 3) := by decide +kernel
theorem dX7_judge_54 : decode cX7_judge 54 = .ok (.iload_n 3, 1) := by decide +kernel
theorem dX7_judge_55 : decode cX7_judge 55 = .ok (.iaload, 1) := by decide +kernel
theorem dX7_judge_56 : decode cX7_judge 56 = .ok (.aload_n 0, 1) := by decide +kernel
theorem dX7_judge_57 : decode cX7_judge 57 = .ok (.getfield 10, 3) := by decide +kernel
theorem dX7_judge_60 : decode cX7_judge 60 = .ok (.getfield 68, 3) := by decide +kernel
theorem dX7_judge_63 : decode cX7_judge 63 = .ok (.iload_n 3, 1) := by decide +kernel
theorem dX7_judge_64 : decode cX7_judge 64 = .ok (.invokevirtual 87, 3) := by decide +kernel
theorem dX7_judge_67 : decode cX7_judge 67 = .ok (.if_icmp .eq 7, 3) := by decide +kernel
theorem dX7_judge_70 : decode cX7_judge 70 = .ok (.iconst 1, 1) := by decide +kernel
theorem dX7_judge_71 : decode cX7_judge 71 = .ok (.iload_n 3, 1) := by decide +kernel
theorem dX7_judge_72 : decode cX7_judge 72 = .ok (.iadd, 1) := by decide +kernel
theorem dX7_judge_73 : decode cX7_judge 73 = .ok (.ireturn, 1) := by decide +kernel
theorem dX7_judge_74 : decode cX7_judge 74 = .ok (.iinc 3 1, 3) := by decide +kernel
theorem dX7_judge_77 : decode cX7_judge 77 = .ok (.goto (-42), 3) := by decide +kernel
theorem dX7_judge_80 : decode cX7_judge 80 = .ok (.iconst 0, 1) := by decide +kernel
theorem dX7_judge_81 : decode cX7_judge 81 = .ok (.ireturn, 1) := by decide +kernel
theorem dX7_image_0 : decode cX7_image 0 = .ok (.aload_n 0, 1) := by decide +kernel
theorem dX7_image_1 : decode cX7_image 1 = .ok (.getfield 16, 3) := by decide +kernel
theorem dX7_image_4 : decode cX7_image 4 = .ok (.aload_n 0, 1) := by decide +kernel
theorem dX7_image_5 : decode cX7_image 5 = .ok (.getfield 10, 3) := by decide +kernel
theorem dX7_image_8 : decode cX7_image 8 = .ok (.invokevirtual 209, 3) := by decide +kernel
theorem dX7_image_11 : decode cX7_image 11 = .ok (.aload_n 0, 1) := by decide +kernel
theorem dX7_image_12 : decode cX7_image 12 = .ok (.iconst 1, 1) := by decide +kernel
theorem dX7_image_13 : decode cX7_image 13 = .ok (.putfield 22, 3) := by decide +kernel
theorem dX7_image_16 : decode cX7_image 16 = .ok (.iconst 1, 1) := by decide +kernel
theorem dX7_image_17 : decode cX7_image 17 = .ok (.ireturn, 1) := by decide +kernel
theorem dX7_undo_0 : decode cX7_undo 0 = .ok (.aload_n 0, 1) := by decide +kernel
theorem dX7_undo_1 : decode cX7_undo 1 = .ok (.getfield 22, 3) := by decide +kernel
theorem dX7_undo_4 : decode cX7_undo 4 = .ok (.ifCond .ne 9, 3) := by decide +kernel
theorem dX7_undo_7 : decode cX7_undo 7 = .ok (.aload_n 0, 1) := by decide +kernel
theorem dX7_undo_8 : decode cX7_undo 8 = .ok (.iconst 3, 1) := by decide +kernel
theorem dX7_undo_9 : decode cX7_undo 9 = .ok (.invokevirtual 64, 3) := by decide +kernel
theorem dX7_undo_12 : decode cX7_undo 12 = .ok (.ireturn, 1) := by decide +kernel
theorem dX7_undo_13 : decode cX7_undo 13 = .ok (.aload_n 0, 1) := by decide +kernel
theorem dX7_undo_14 : decode cX7_undo 14 = .ok (.getfield 10, 3) := by decide +kernel
theorem dX7_undo_17 : decode cX7_undo 17 = .ok (.aload_n 0, 1) := by decide +kernel
theorem dX7_undo_18 : decode cX7_undo 18 = .ok (.getfield 16, 3) := by decide +kernel
theorem dX7_undo_21 : decode cX7_undo 21 = .ok (.invokevirtual 209, 3) := by decide +kernel
theorem dX7_undo_24 : decode cX7_undo 24 = .ok (.aload_n 0, 1) := by decide +kernel
theorem dX7_undo_25 : decode cX7_undo 25 = .ok (.getfield 10, 3) := by decide +kernel
theorem dX7_undo_28 : decode cX7_undo 28 = .ok (.getfield 68, 3) := by decide +kernel
theorem dX7_undo_31 : decode cX7_undo 31 = .ok (.getfield 128, 3) := by decide +kernel
theorem dX7_undo_34 : decode cX7_undo 34 = .ok (.ireturn, 1) := by decide +kernel
theorem dX7_tear_0 : decode cX7_tear 0 = .ok (.aload_n 0, 1) := by decide +kernel
theorem dX7_tear_1 : decode cX7_tear 1 = .ok (.getfield 22, 3) := by decide +kernel
theorem dX7_tear_4 : decode cX7_tear 4 = .ok (.ifCond .eq 7, 3) := by decide +kernel
theorem dX7_tear_7 : decode cX7_tear 7 = .ok (.iconst 1, 1) := by decide +kernel
theorem dX7_tear_8 : decode cX7_tear 8 = .ok (.goto 4, 3) := by decide +kernel
theorem dX7_tear_11 : decode cX7_tear 11 = .ok (.iconst 0, 1) := by decide +kernel
theorem dX7_tear_12 : decode cX7_tear 12 = .ok (.istore_n 1, 1) := by decide +kernel
theorem dX7_tear_13 : decode cX7_tear 13 = .ok (.aload_n 0, 1) := by decide +kernel
theorem dX7_tear_14 : decode cX7_tear 14 = .ok (.iconst 0, 1) := by decide +kernel
theorem dX7_tear_15 : decode cX7_tear 15 = .ok (.putfield 22, 3) := by decide +kernel
theorem dX7_tear_18 : decode cX7_tear 18 = .ok (.iload_n 1, 1) := by decide +kernel
theorem dX7_tear_19 : decode cX7_tear 19 = .ok (.ireturn, 1) := by decide +kernel
theorem dX7_count_0 : decode cX7_count 0 = .ok (.iload_n 1, 1) := by decide +kernel
theorem dX7_count_1 : decode cX7_count 1 = .ok (.tableswitch 123 0 7 #[47, 58, 66, 80, 90, 99, 107, 115], 47) := by decide +kernel
theorem dX7_count_48 : decode cX7_count 48 = .ok (.aload_n 0, 1) := by decide +kernel
theorem dX7_count_49 : decode cX7_count 49 = .ok (.getfield 10, 3) := by decide +kernel
theorem dX7_count_52 : decode cX7_count 52 = .ok (.getfield 68, 3) := by decide +kernel
theorem dX7_count_55 : decode cX7_count 55 = .ok (.getfield 128, 3) := by decide +kernel
theorem dX7_count_58 : decode cX7_count 58 = .ok (.ireturn, 1) := by decide +kernel
theorem dX7_count_59 : decode cX7_count 59 = .ok (.aload_n 0, 1) := by decide +kernel
theorem dX7_count_60 : decode cX7_count 60 = .ok (.getfield 10, 3) := by decide +kernel
theorem dX7_count_63 : decode cX7_count 63 = .ok (.getfield 175, 3) := by decide +kernel
theorem dX7_count_66 : decode cX7_count 66 = .ok (.ireturn, 1) := by decide +kernel
theorem dX7_count_67 : decode cX7_count 67 = .ok (.aload_n 0, 1) := by decide +kernel
theorem dX7_count_68 : decode cX7_count 68 = .ok (.getfield 10, 3) := by decide +kernel
theorem dX7_count_71 : decode cX7_count 71 = .ok (.iconst 1, 1) := by decide +kernel
theorem dX7_count_72 : decode cX7_count 72 = .ok (.bipush 16, 2) := by decide +kernel
theorem dX7_count_74 : decode cX7_count 74 = .ok (.invokevirtual 90, 3) := by decide +kernel
theorem dX7_count_77 : decode cX7_count 77 = .ok (.invokestatic 195, 3) := by decide +kernel
theorem dX7_count_80 : decode cX7_count 80 = .ok (.ireturn, 1) := by decide +kernel
theorem dX7_count_81 : decode cX7_count 81 = .ok (.aload_n 0, 1) := by decide +kernel
theorem dX7_count_82 : decode cX7_count 82 = .ok (.getfield 10, 3) := by decide +kernel
theorem dX7_count_85 : decode cX7_count 85 = .ok (.bipush 7, 2) := by decide +kernel
theorem dX7_count_87 : decode cX7_count 87 = .ok (.invokevirtual 152, 3) := by decide +kernel
theorem dX7_count_90 : decode cX7_count 90 = .ok (.ireturn, 1) := by decide +kernel
theorem dX7_count_91 : decode cX7_count 91 = .ok (.aload_n 0, 1) := by decide +kernel
theorem dX7_count_92 : decode cX7_count 92 = .ok (.getfield 10, 3) := by decide +kernel
theorem dX7_count_95 : decode cX7_count 95 = .ok (.iconst 4, 1) := by decide +kernel
theorem dX7_count_96 : decode cX7_count 96 = .ok (.invokevirtual 152, 3) := by decide +kernel
theorem dX7_count_99 : decode cX7_count 99 = .ok (.ireturn, 1) := by decide +kernel
theorem dX7_count_100 : decode cX7_count 100 = .ok (.aload_n 0, 1) := by decide +kernel
theorem dX7_count_101 : decode cX7_count 101 = .ok (.getfield 36, 3) := by decide +kernel
theorem dX7_count_104 : decode cX7_count 104 = .ok (.getfield 203, 3) := by decide +kernel
theorem dX7_count_107 : decode cX7_count 107 = .ok (.ireturn, 1) := by decide +kernel
theorem dX7_count_108 : decode cX7_count 108 = .ok (.aload_n 0, 1) := by decide +kernel
theorem dX7_count_109 : decode cX7_count 109 = .ok (.getfield 10, 3) := by decide +kernel
theorem dX7_count_112 : decode cX7_count 112 = .ok (.getfield 200, 3) := by decide +kernel
theorem dX7_count_115 : decode cX7_count 115 = .ok (.ireturn, 1) := by decide +kernel
theorem dX7_count_116 : decode cX7_count 116 = .ok (.aload_n 0, 1) := by decide +kernel
theorem dX7_count_117 : decode cX7_count 117 = .ok (.getfield 10, 3) := by decide +kernel
theorem dX7_count_120 : decode cX7_count 120 = .ok (.invokevirtual 257, 3) := by decide +kernel
theorem dX7_count_123 : decode cX7_count 123 = .ok (.ireturn, 1) := by decide +kernel
theorem dX7_count_124 : decode cX7_count 124 = .ok (.aload_n 0, 1) := by decide +kernel
theorem dX7_count_125 : decode cX7_count 125 = .ok (.iconst 0, 1) := by decide +kernel
theorem dX7_count_126 : decode cX7_count 126 = .ok (.invokevirtual 64, 3) := by decide +kernel
theorem dX7_count_129 : decode cX7_count 129 = .ok (.ireturn, 1) := by decide +kernel
theorem dX7_status_0 : decode cX7_status 0 = .ok (.iload_n 1, 1) := by decide +kernel
theorem dX7_status_1 : decode cX7_status 1 = .ok (.iconst (-1), 1) := by decide +kernel
theorem dX7_status_2 : decode cX7_status 2 = .ok (.if_icmp .lt 9, 3) := by decide +kernel
theorem dX7_status_5 : decode cX7_status 5 = .ok (.iload_n 1, 1) := by decide +kernel
theorem dX7_status_6 : decode cX7_status 6 = .ok (.bipush 7, 2) := by decide +kernel
theorem dX7_status_8 : decode cX7_status 8 = .ok (.if_icmp .lt 9, 3) := by decide +kernel
theorem dX7_status_11 : decode cX7_status 11 = .ok (.aload_n 0, 1) := by decide +kernel
theorem dX7_status_12 : decode cX7_status 12 = .ok (.iconst 0, 1) := by decide +kernel
theorem dX7_status_13 : decode cX7_status 13 = .ok (.invokevirtual 64, 3) := by decide +kernel
theorem dX7_status_16 : decode cX7_status 16 = .ok (.ireturn, 1) := by decide +kernel
theorem dX7_status_17 : decode cX7_status 17 = .ok (.iload_n 1, 1) := by decide +kernel
theorem dX7_status_18 : decode cX7_status 18 = .ok (.ifCond .lt 10, 3) := by decide +kernel
theorem dX7_status_21 : decode cX7_status 21 = .ok (.aload_n 0, 1) := by decide +kernel
theorem dX7_status_22 : decode cX7_status 22 = .ok (.getfield 55, 3) := by decide +kernel
theorem dX7_status_25 : decode cX7_status 25 = .ok (.iload_n 1, 1) := by decide +kernel
theorem dX7_status_26 : decode cX7_status 26 = .ok (.iaload, 1) := by decide +kernel
theorem dX7_status_27 : decode cX7_status 27 = .ok (.ireturn, 1) := by decide +kernel
theorem dX7_status_28 : decode cX7_status 28 = .ok (.iconst 0, 1) := by decide +kernel
theorem dX7_status_29 : decode cX7_status 29 = .ok (.istore_n 2, 1) := by decide +kernel
theorem dX7_status_30 : decode cX7_status 30 = .ok (.iconst 0, 1) := by decide +kernel
theorem dX7_status_31 : decode cX7_status 31 = .ok (.istore_n 3, 1) := by decide +kernel
theorem dX7_status_32 : decode cX7_status 32 = .ok (.iload_n 3, 1) := by decide +kernel
theorem dX7_status_33 : decode cX7_status 33 = .ok (.bipush 7, 2) := by decide +kernel
theorem dX7_status_35 : decode cX7_status 35 = .ok (.if_icmp .ge 18, 3) := by decide +kernel
theorem dX7_status_38 : decode cX7_status 38 = .ok (.iload_n 2, 1) := by decide +kernel
theorem dX7_status_39 : decode cX7_status 39 = .ok (.aload_n 0, 1) := by decide +kernel
theorem dX7_status_40 : decode cX7_status 40 = .ok (.getfield 55, 3) := by decide +kernel
theorem dX7_status_43 : decode cX7_status 43 = .ok (.iload_n 3, 1) := by decide +kernel
theorem dX7_status_44 : decode cX7_status 44 = .ok (.iaload, 1) := by decide +kernel
theorem dX7_status_45 : decode cX7_status 45 = .ok (.iadd, 1) := by decide +kernel
theorem dX7_status_46 : decode cX7_status 46 = .ok (.istore_n 2, 1) := by decide +kernel
theorem dX7_status_47 : decode cX7_status 47 = .ok (.iinc 3 1, 3) := by decide +kernel
theorem dX7_status_50 : decode cX7_status 50 = .ok (.goto (-18), 3) := by decide +kernel
theorem dX7_status_53 : decode cX7_status 53 = .ok (.iload_n 2, 1) := by decide +kernel
theorem dX7_status_54 : decode cX7_status 54 = .ok (.ireturn, 1) := by decide +kernel
theorem dX7_finding_0 : decode cX7_finding 0 = .ok (.aload_n 0, 1) := by decide +kernel
theorem dX7_finding_1 : decode cX7_finding 1 = .ok (.getfield 55, 3) := by decide +kernel
theorem dX7_finding_4 : decode cX7_finding 4 = .ok (.iload_n 1, 1) := by decide +kernel
theorem dX7_finding_5 : decode cX7_finding 5 = .ok (.dup2, 1) := by decide +kernel
theorem dX7_finding_6 : decode cX7_finding 6 = .ok (.iaload, 1) := by decide +kernel
theorem dX7_finding_7 : decode cX7_finding 7 = .ok (.iconst 1, 1) := by decide +kernel
theorem dX7_finding_8 : decode cX7_finding 8 = .ok (.iadd, 1) := by decide +kernel
theorem dX7_finding_9 : decode cX7_finding 9 = .ok (.iastore, 1) := by decide +kernel
theorem dX7_finding_10 : decode cX7_finding 10 = .ok (.ldc_w 260, 3) := by decide +kernel
theorem dX7_finding_13 : decode cX7_finding 13 = .ok (.iload_n 1, 1) := by decide +kernel
theorem dX7_finding_14 : decode cX7_finding 14 = .ok (.isub, 1) := by decide +kernel
theorem dX7_finding_15 : decode cX7_finding 15 = .ok (.ireturn, 1) := by decide +kernel
theorem dX7_isWithin_0 : decode cX7_isWithin 0 = .ok (.iload_n 0, 1) := by decide +kernel
theorem dX7_isWithin_1 : decode cX7_isWithin 1 = .ok (.ifCond .lt 12, 3) := by decide +kernel
theorem dX7_isWithin_4 : decode cX7_isWithin 4 = .ok (.iload_n 0, 1) := by decide +kernel
theorem dX7_isWithin_5 : decode cX7_isWithin 5 = .ok (.iload_n 1, 1) := by decide +kernel
theorem dX7_isWithin_6 : decode cX7_isWithin 6 = .ok (.if_icmp .gt 7, 3) := by decide +kernel
theorem dX7_isWithin_9 : decode cX7_isWithin 9 = .ok (.iconst 1, 1) := by decide +kernel
theorem dX7_isWithin_10 : decode cX7_isWithin 10 = .ok (.goto 4, 3) := by decide +kernel
theorem dX7_isWithin_13 : decode cX7_isWithin 13 = .ok (.iconst 0, 1) := by decide +kernel
theorem dX7_isWithin_14 : decode cX7_isWithin 14 = .ok (.ireturn, 1) := by decide +kernel
theorem dX7_isStep_0 : decode cX7_isStep 0 = .ok (.iload_n 0, 1) := by decide +kernel
theorem dX7_isStep_1 : decode cX7_isStep 1 = .ok (.ifCond .lt 13, 3) := by decide +kernel
theorem dX7_isStep_4 : decode cX7_isStep 4 = .ok (.iload_n 0, 1) := by decide +kernel
theorem dX7_isStep_5 : decode cX7_isStep 5 = .ok (.bipush 16, 2) := by decide +kernel
theorem dX7_isStep_7 : decode cX7_isStep 7 = .ok (.if_icmp .ge 7, 3) := by decide +kernel
theorem dX7_isStep_10 : decode cX7_isStep 10 = .ok (.iconst 1, 1) := by decide +kernel
theorem dX7_isStep_11 : decode cX7_isStep 11 = .ok (.goto 4, 3) := by decide +kernel
theorem dX7_isStep_14 : decode cX7_isStep 14 = .ok (.iconst 0, 1) := by decide +kernel
theorem dX7_isStep_15 : decode cX7_isStep 15 = .ok (.ireturn, 1) := by decide +kernel
theorem dX7_isKind_0 : decode cX7_isKind 0 = .ok (.iload_n 0, 1) := by decide +kernel
theorem dX7_isKind_1 : decode cX7_isKind 1 = .ok (.ifCond .lt 13, 3) := by decide +kernel
theorem dX7_isKind_4 : decode cX7_isKind 4 = .ok (.iload_n 0, 1) := by decide +kernel
theorem dX7_isKind_5 : decode cX7_isKind 5 = .ok (.bipush 7, 2) := by decide +kernel
theorem dX7_isKind_7 : decode cX7_isKind 7 = .ok (.if_icmp .ge 7, 3) := by decide +kernel
theorem dX7_isKind_10 : decode cX7_isKind 10 = .ok (.iconst 1, 1) := by decide +kernel
theorem dX7_isKind_11 : decode cX7_isKind 11 = .ok (.goto 4, 3) := by decide +kernel
theorem dX7_isKind_14 : decode cX7_isKind 14 = .ok (.iconst 0, 1) := by decide +kernel
theorem dX7_isKind_15 : decode cX7_isKind 15 = .ok (.ireturn, 1) := by decide +kernel
theorem dX7_isSpot_0 : decode cX7_isSpot 0 = .ok (.iload_n 0, 1) := by decide +kernel
theorem dX7_isSpot_1 : decode cX7_isSpot 1 = .ok (.ifCond .lt 13, 3) := by decide +kernel
theorem dX7_isSpot_4 : decode cX7_isSpot 4 = .ok (.iload_n 0, 1) := by decide +kernel
theorem dX7_isSpot_5 : decode cX7_isSpot 5 = .ok (.bipush 10, 2) := by decide +kernel
theorem dX7_isSpot_7 : decode cX7_isSpot 7 = .ok (.if_icmp .ge 7, 3) := by decide +kernel
theorem dX7_isSpot_10 : decode cX7_isSpot 10 = .ok (.iconst 1, 1) := by decide +kernel
theorem dX7_isSpot_11 : decode cX7_isSpot 11 = .ok (.goto 4, 3) := by decide +kernel
theorem dX7_isSpot_14 : decode cX7_isSpot 14 = .ok (.iconst 0, 1) := by decide +kernel
theorem dX7_isSpot_15 : decode cX7_isSpot 15 = .ok (.ireturn, 1) := by decide +kernel
theorem dX7_isSheet_0 : decode cX7_isSheet 0 = .ok (.iload_n 0, 1) := by decide +kernel
theorem dX7_isSheet_1 : decode cX7_isSheet 1 = .ok (.ifCond .lt 12, 3) := by decide +kernel
theorem dX7_isSheet_4 : decode cX7_isSheet 4 = .ok (.iload_n 0, 1) := by decide +kernel
theorem dX7_isSheet_5 : decode cX7_isSheet 5 = .ok (.iconst 4, 1) := by decide +kernel
theorem dX7_isSheet_6 : decode cX7_isSheet 6 = .ok (.if_icmp .ge 7, 3) := by decide +kernel
theorem dX7_isSheet_9 : decode cX7_isSheet 9 = .ok (.iconst 1, 1) := by decide +kernel
theorem dX7_isSheet_10 : decode cX7_isSheet 10 = .ok (.goto 4, 3) := by decide +kernel
theorem dX7_isSheet_13 : decode cX7_isSheet 13 = .ok (.iconst 0, 1) := by decide +kernel
theorem dX7_isSheet_14 : decode cX7_isSheet 14 = .ok (.ireturn, 1) := by decide +kernel
theorem dX7_isUmbrella_0 : decode cX7_isUmbrella 0 = .ok (.iload_n 1, 1) := by decide +kernel
theorem dX7_isUmbrella_1 : decode cX7_isUmbrella 1 = .ok (.ifCond .lt 18, 3) := by decide +kernel
theorem dX7_isUmbrella_4 : decode cX7_isUmbrella 4 = .ok (.iload_n 1, 1) := by decide +kernel
theorem dX7_isUmbrella_5 : decode cX7_isUmbrella 5 = .ok (.aload_n 0, 1) := by decide +kernel
theorem dX7_isUmbrella_6 : decode cX7_isUmbrella 6 = .ok (.getfield 10, 3) := by decide +kernel
theorem dX7_isUmbrella_9 : decode cX7_isUmbrella 9 = .ok (.getfield 175, 3) := by decide +kernel
theorem dX7_isUmbrella_12 : decode cX7_isUmbrella 12 = .ok (.if_icmp .ge 7, 3) := by decide +kernel
theorem dX7_isUmbrella_15 : decode cX7_isUmbrella 15 = .ok (.iconst 1, 1) := by decide +kernel
theorem dX7_isUmbrella_16 : decode cX7_isUmbrella 16 = .ok (.goto 4, 3) := by decide +kernel
theorem dX7_isUmbrella_19 : decode cX7_isUmbrella 19 = .ok (.iconst 0, 1) := by decide +kernel
theorem dX7_isUmbrella_20 : decode cX7_isUmbrella 20 = .ok (.ireturn, 1) := by decide +kernel
theorem dX7_isUnder_0 : decode cX7_isUnder 0 = .ok (.iload_n 0, 1) := by decide +kernel
theorem dX7_isUnder_1 : decode cX7_isUnder 1 = .ok (.istore_n 2, 1) := by decide +kernel
theorem dX7_isUnder_2 : decode cX7_isUnder 2 = .ok (.iconst 0, 1) := by decide +kernel
theorem dX7_isUnder_3 : decode cX7_isUnder 3 = .ok (.istore_n 3, 1) := by decide +kernel
theorem dX7_isUnder_4 : decode cX7_isUnder 4 = .ok (.iload_n 3, 1) := by decide +kernel
theorem dX7_isUnder_5 : decode cX7_isUnder 5 = .ok (.bipush 7, 2) := by decide +kernel
theorem dX7_isUnder_7 : decode cX7_isUnder 7 = .ok (.if_icmp .ge 29, 3) := by decide +kernel
theorem dX7_isUnder_10 : decode cX7_isUnder 10 = .ok (.iload_n 2, 1) := by decide +kernel
theorem dX7_isUnder_11 : decode cX7_isUnder 11 = .ok (.invokestatic 101, 3) := by decide +kernel
theorem dX7_isUnder_14 : decode cX7_isUnder 14 = .ok (.ifCond .eq 22, 3) := by decide +kernel
theorem dX7_isUnder_17 : decode cX7_isUnder 17 = .ok (.iload_n 2, 1) := by decide +kernel
theorem dX7_isUnder_18 : decode cX7_isUnder 18 = .ok (.iload_n 1, 1) := by decide +kernel
theorem dX7_isUnder_19 : decode cX7_isUnder 19 = .ok (.if_icmp .ne 5, 3) := by decide +kernel
theorem dX7_isUnder_22 : decode cX7_isUnder 22 = .ok (.iconst 1, 1) := by decide +kernel
theorem dX7_isUnder_23 : decode cX7_isUnder 23 = .ok (.ireturn, 1) := by decide +kernel
theorem dX7_isUnder_24 : decode cX7_isUnder 24 = .ok (.getstatic 261, 3) := by decide +kernel
theorem dX7_isUnder_27 : decode cX7_isUnder 27 = .ok (.iload_n 2, 1) := by decide +kernel
theorem dX7_isUnder_28 : decode cX7_isUnder 28 = .ok (.iaload, 1) := by decide +kernel
theorem dX7_isUnder_29 : decode cX7_isUnder 29 = .ok (.istore_n 2, 1) := by decide +kernel
theorem dX7_isUnder_30 : decode cX7_isUnder 30 = .ok (.iinc 3 1, 3) := by decide +kernel
theorem dX7_isUnder_33 : decode cX7_isUnder 33 = .ok (.goto (-29), 3) := by decide +kernel
theorem dX7_isUnder_36 : decode cX7_isUnder 36 = .ok (.iconst 0, 1) := by decide +kernel
theorem dX7_isUnder_37 : decode cX7_isUnder 37 = .ok (.ireturn, 1) := by decide +kernel
theorem dX7_startWalk_0 : decode cX7_startWalk 0 = .ok (.aload_n 0, 1) := by decide +kernel
theorem dX7_startWalk_1 : decode cX7_startWalk 1 = .ok (.iload_n 1, 1) := by decide +kernel
theorem dX7_startWalk_2 : decode cX7_startWalk 2 = .ok (.invokevirtual 111, 3) := by decide +kernel
theorem dX7_startWalk_5 : decode cX7_startWalk 5 = .ok (.ifCond .eq 26, 3) := by decide +kernel
theorem dX7_startWalk_8 : decode cX7_startWalk 8 = .ok (.aload_n 0, 1) := by decide +kernel
theorem dX7_startWalk_9 : decode cX7_startWalk 9 = .ok (.getfield 29, 3) := by decide +kernel
theorem dX7_startWalk_12 : decode cX7_startWalk 12 = .ok (.aload_n 0, 1) := by decide +kernel
theorem dX7_startWalk_13 : decode cX7_startWalk 13 = .ok (.getfield 10, 3) := by decide +kernel
theorem dX7_startWalk_16 : decode cX7_startWalk 16 = .ok (.getfield 68, 3) := by decide +kernel
theorem dX7_startWalk_19 : decode cX7_startWalk 19 = .ok (.aload_n 0, 1) := by decide +kernel
theorem dX7_startWalk_20 : decode cX7_startWalk 20 = .ok (.getfield 10, 3) := by decide +kernel
theorem dX7_startWalk_23 : decode cX7_startWalk 23 = .ok (.getfield 114, 3) := by decide +kernel
theorem dX7_startWalk_26 : decode cX7_startWalk 26 = .ok (.iload_n 1, 1) := by decide +kernel
theorem dX7_startWalk_27 : decode cX7_startWalk 27 = .ok (.aaload, 1) := by decide +kernel
theorem dX7_startWalk_28 : decode cX7_startWalk 28 = .ok (.invokevirtual 264, 3) := by decide +kernel
theorem dX7_startWalk_31 : decode cX7_startWalk 31 = .ok (.return_, 1) := by decide +kernel
theorem dX7_driest_0 : decode cX7_driest 0 = .ok (.aload_n 0, 1) := by decide +kernel
theorem dX7_driest_1 : decode cX7_driest 1 = .ok (.iload_n 1, 1) := by decide +kernel
theorem dX7_driest_2 : decode cX7_driest 2 = .ok (.invokevirtual 111, 3) := by decide +kernel
theorem dX7_driest_5 : decode cX7_driest 5 = .ok (.ifCond .ne 9, 3) := by decide +kernel
theorem dX7_driest_8 : decode cX7_driest 8 = .ok (.aload_n 0, 1) := by decide +kernel
theorem dX7_driest_9 : decode cX7_driest 9 = .ok (.iconst 0, 1) := by decide +kernel
theorem dX7_driest_10 : decode cX7_driest 10 = .ok (.invokevirtual 64, 3) := by decide +kernel
theorem dX7_driest_13 : decode cX7_driest 13 = .ok (.ireturn, 1) := by decide +kernel
theorem dX7_driest_14 : decode cX7_driest 14 = .ok (.iconst (-1), 1) := by decide +kernel
theorem dX7_driest_15 : decode cX7_driest 15 = .ok (.istore 4, 2) := by decide +kernel
theorem dX7_driest_17 : decode cX7_driest 17 = .ok (.iconst 0, 1) := by decide +kernel
theorem dX7_driest_18 : decode cX7_driest 18 = .ok (.istore 5, 2) := by decide +kernel
theorem dX7_driest_20 : decode cX7_driest 20 = .ok (.iconst 0, 1) := by decide +kernel
theorem dX7_driest_21 : decode cX7_driest 21 = .ok (.istore 6, 2) := by decide +kernel
theorem dX7_driest_23 : decode cX7_driest 23 = .ok (.iload 6, 2) := by decide +kernel
theorem dX7_driest_25 : decode cX7_driest 25 = .ok (.iload_n 3, 1) := by decide +kernel
theorem dX7_driest_26 : decode cX7_driest 26 = .ok (.if_icmp .ge 76, 3) := by decide +kernel
theorem dX7_driest_29 : decode cX7_driest 29 = .ok (.aload_n 0, 1) := by decide +kernel
theorem dX7_driest_30 : decode cX7_driest 30 = .ok (.iload_n 1, 1) := by decide +kernel
theorem dX7_driest_31 : decode cX7_driest 31 = .ok (.invokevirtual 158, 3) := by decide +kernel
theorem dX7_driest_34 : decode cX7_driest 34 = .ok (.aload_n 0, 1) := by decide +kernel
theorem dX7_driest_35 : decode cX7_driest 35 = .ok (.getfield 29, 3) := by decide +kernel
theorem dX7_driest_38 : decode cX7_driest 38 = .ok (.iload_n 2, 1) := by decide +kernel
theorem dX7_driest_39 : decode cX7_driest 39 = .ok (.iload 6, 2) := by decide +kernel
theorem dX7_driest_41 : decode cX7_driest 41 = .ok (.invokevirtual 268, 3) := by decide +kernel
theorem dX7_driest_44 : decode cX7_driest 44 = .ok (.ifCond .eq 52, 3) := by decide +kernel
theorem dX7_driest_47 : decode cX7_driest 47 = .ok (.aload_n 0, 1) := by decide +kernel
theorem dX7_driest_48 : decode cX7_driest 48 = .ok (.getfield 29, 3) := by decide +kernel
theorem dX7_driest_51 : decode cX7_driest 51 = .ok (.invokevirtual 169, 3) := by decide +kernel
theorem dX7_driest_54 : decode cX7_driest 54 = .ok (.ifCond .ge 6, 3) := by decide +kernel
theorem dX7_driest_57 : decode cX7_driest 57 = .ok (.goto 39, 3) := by decide +kernel
theorem dX7_driest_60 : decode cX7_driest 60 = .ok (.iload 4, 2) := by decide +kernel
theorem dX7_driest_62 : decode cX7_driest 62 = .ok (.ifCond .lt 18, 3) := by decide +kernel
theorem dX7_driest_65 : decode cX7_driest 65 = .ok (.aload_n 0, 1) := by decide +kernel
theorem dX7_driest_66 : decode cX7_driest 66 = .ok (.getfield 29, 3) := by decide +kernel
theorem dX7_driest_69 : decode cX7_driest 69 = .ok (.getfield 165, 3) := by decide +kernel
theorem dX7_driest_72 : decode cX7_driest 72 = .ok (.getfield 271, 3) := by decide +kernel
theorem dX7_driest_75 : decode cX7_driest 75 = .ok (.iload 5, 2) := by decide +kernel
theorem dX7_driest_77 : decode cX7_driest 77 = .ok (.if_icmp .ge 19, 3) := by decide +kernel
theorem dX7_driest_80 : decode cX7_driest 80 = .ok (.iload 6, 2) := by decide +kernel
theorem dX7_driest_82 : decode cX7_driest 82 = .ok (.istore 4, 2) := by decide +kernel
theorem dX7_driest_84 : decode cX7_driest 84 = .ok (.aload_n 0, 1) := by decide +kernel
theorem dX7_driest_85 : decode cX7_driest 85 = .ok (.getfield 29, 3) := by decide +kernel
theorem dX7_driest_88 : decode cX7_driest 88 = .ok (.getfield 165, 3) := by decide +kernel
theorem dX7_driest_91 : decode cX7_driest 91 = .ok (.getfield 271, 3) := by decide +kernel
theorem dX7_driest_94 : decode cX7_driest 94 = .ok (.istore 5, 2) := by decide +kernel
theorem dX7_driest_96 : decode cX7_driest 96 = .ok (.iinc 6 1, 3) := by decide +kernel
theorem dX7_driest_99 : decode cX7_driest 99 = .ok (.goto (-76), 3) := by decide +kernel
theorem dX7_driest_102 : decode cX7_driest 102 = .ok (.iload 4, 2) := by decide +kernel
theorem dX7_driest_104 : decode cX7_driest 104 = .ok (.ifCond .ge 11, 3) := by decide +kernel
theorem dX7_driest_107 : decode cX7_driest 107 = .ok (.aload_n 0, 1) := by decide +kernel
theorem dX7_driest_108 : decode cX7_driest 108 = .ok (.iconst 3, 1) := by decide +kernel
theorem dX7_driest_109 : decode cX7_driest 109 = .ok (.invokevirtual 64, 3) := by decide +kernel
theorem dX7_driest_112 : decode cX7_driest 112 = .ok (.goto 5, 3) := by decide +kernel
theorem dX7_driest_115 : decode cX7_driest 115 = .ok (.iload 4, 2) := by decide +kernel
theorem dX7_driest_117 : decode cX7_driest 117 = .ok (.ireturn, 1) := by decide +kernel
theorem dX7_fitting_0 : decode cX7_fitting 0 = .ok (.iload_n 1, 1) := by decide +kernel
theorem dX7_fitting_1 : decode cX7_fitting 1 = .ok (.invokestatic 229, 3) := by decide +kernel
theorem dX7_fitting_4 : decode cX7_fitting 4 = .ok (.ifCond .ne 9, 3) := by decide +kernel
theorem dX7_fitting_7 : decode cX7_fitting 7 = .ok (.aload_n 0, 1) := by decide +kernel
theorem dX7_fitting_8 : decode cX7_fitting 8 = .ok (.iconst 0, 1) := by decide +kernel
theorem dX7_fitting_9 : decode cX7_fitting 9 = .ok (.invokevirtual 64, 3) := by decide +kernel
theorem dX7_fitting_12 : decode cX7_fitting 12 = .ok (.ireturn, 1) := by decide +kernel
theorem dX7_fitting_13 : decode cX7_fitting 13 = .ok (.aload_n 0, 1) := by decide +kernel
theorem dX7_fitting_14 : decode cX7_fitting 14 = .ok (.getfield 51, 3) := by decide +kernel
theorem dX7_fitting_17 : decode cX7_fitting 17 = .ok (.iload_n 1, 1) := by decide +kernel
theorem dX7_fitting_18 : decode cX7_fitting 18 = .ok (.aaload, 1) := by decide +kernel
theorem dX7_fitting_19 : decode cX7_fitting 19 = .ok (.invokevirtual 236, 3) := by decide +kernel
theorem dX7_fitting_22 : decode cX7_fitting 22 = .ok (.ifCond .eq 9, 3) := by decide +kernel
theorem dX7_fitting_25 : decode cX7_fitting 25 = .ok (.aload_n 0, 1) := by decide +kernel
theorem dX7_fitting_26 : decode cX7_fitting 26 = .ok (.iconst 5, 1) := by decide +kernel
theorem dX7_fitting_27 : decode cX7_fitting 27 = .ok (.invokevirtual 64, 3) := by decide +kernel
theorem dX7_fitting_30 : decode cX7_fitting 30 = .ok (.ireturn, 1) := by decide +kernel
theorem dX7_fitting_31 : decode cX7_fitting 31 = .ok (.aload_n 0, 1) := by decide +kernel
theorem dX7_fitting_32 : decode cX7_fitting 32 = .ok (.iload_n 2, 1) := by decide +kernel
theorem dX7_fitting_33 : decode cX7_fitting 33 = .ok (.invokevirtual 111, 3) := by decide +kernel
theorem dX7_fitting_36 : decode cX7_fitting 36 = .ok (.ifCond .ne 9, 3) := by decide +kernel
theorem dX7_fitting_39 : decode cX7_fitting 39 = .ok (.aload_n 0, 1) := by decide +kernel
theorem dX7_fitting_40 : decode cX7_fitting 40 = .ok (.iconst 0, 1) := by decide +kernel
theorem dX7_fitting_41 : decode cX7_fitting 41 = .ok (.invokevirtual 64, 3) := by decide +kernel
theorem dX7_fitting_44 : decode cX7_fitting 44 = .ok (.ireturn, 1) := by decide +kernel
theorem dX7_fitting_45 : decode cX7_fitting 45 = .ok (.iconst 0, 1) := by decide +kernel
theorem dX7_fitting_46 : decode cX7_fitting 46 = .ok (.istore 5, 2) := by decide +kernel
theorem dX7_fitting_48 : decode cX7_fitting 48 = .ok (.iconst 0, 1) := by decide +kernel
theorem dX7_fitting_49 : decode cX7_fitting 49 = .ok (.istore 6, 2) := by decide +kernel
theorem dX7_fitting_51 : decode cX7_fitting 51 = .ok (.iload 6, 2) := by decide +kernel
theorem dX7_fitting_53 : decode cX7_fitting 53 = .ok (.iload 4, 2) := by decide +kernel
theorem dX7_fitting_55 : decode cX7_fitting 55 = .ok (.if_icmp .ge 52, 3) := by decide +kernel
theorem dX7_fitting_58 : decode cX7_fitting 58 = .ok (.aload_n 0, 1) := by decide +kernel
theorem dX7_fitting_59 : decode cX7_fitting 59 = .ok (.iload_n 2, 1) := by decide +kernel
theorem dX7_fitting_60 : decode cX7_fitting 60 = .ok (.invokevirtual 158, 3) := by decide +kernel
theorem dX7_fitting_63 : decode cX7_fitting 63 = .ok (.aload_n 0, 1) := by decide +kernel
theorem dX7_fitting_64 : decode cX7_fitting 64 = .ok (.getfield 29, 3) := by decide +kernel
theorem dX7_fitting_67 : decode cX7_fitting 67 = .ok (.iload_n 3, 1) := by decide +kernel
theorem dX7_fitting_68 : decode cX7_fitting 68 = .ok (.iload 6, 2) := by decide +kernel
theorem dX7_fitting_70 : decode cX7_fitting 70 = .ok (.invokevirtual 268, 3) := by decide +kernel
theorem dX7_fitting_73 : decode cX7_fitting 73 = .ok (.ifCond .eq 28, 3) := by decide +kernel
theorem dX7_fitting_76 : decode cX7_fitting 76 = .ok (.aload_n 0, 1) := by decide +kernel
theorem dX7_fitting_77 : decode cX7_fitting 77 = .ok (.getfield 29, 3) := by decide +kernel
theorem dX7_fitting_80 : decode cX7_fitting 80 = .ok (.aload_n 0, 1) := by decide +kernel
theorem dX7_fitting_81 : decode cX7_fitting 81 = .ok (.getfield 51, 3) := by decide +kernel
theorem dX7_fitting_84 : decode cX7_fitting 84 = .ok (.iload_n 1, 1) := by decide +kernel
theorem dX7_fitting_85 : decode cX7_fitting 85 = .ok (.aaload, 1) := by decide +kernel
theorem dX7_fitting_86 : decode cX7_fitting 86 = .ok (.invokevirtual 274, 3) := by decide +kernel
theorem dX7_fitting_89 : decode cX7_fitting 89 = .ok (.ifCond .eq 12, 3) := by decide +kernel
theorem dX7_fitting_92 : decode cX7_fitting 92 = .ok (.iload 5, 2) := by decide +kernel
theorem dX7_fitting_94 : decode cX7_fitting 94 = .ok (.iconst 1, 1) := by decide +kernel
theorem dX7_fitting_95 : decode cX7_fitting 95 = .ok (.iload 6, 2) := by decide +kernel
theorem dX7_fitting_97 : decode cX7_fitting 97 = .ok (.ishl, 1) := by decide +kernel
theorem dX7_fitting_98 : decode cX7_fitting 98 = .ok (.ior, 1) := by decide +kernel
theorem dX7_fitting_99 : decode cX7_fitting 99 = .ok (.istore 5, 2) := by decide +kernel
theorem dX7_fitting_101 : decode cX7_fitting 101 = .ok (.iinc 6 1, 3) := by decide +kernel
theorem dX7_fitting_104 : decode cX7_fitting 104 = .ok (.goto (-53), 3) := by decide +kernel
theorem dX7_fitting_107 : decode cX7_fitting 107 = .ok (.iload 5, 2) := by decide +kernel
theorem dX7_fitting_109 : decode cX7_fitting 109 = .ok (.ireturn, 1) := by decide +kernel
