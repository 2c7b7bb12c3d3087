theorem dX0_init_0 : decode cX0_init 0 = .ok (.aload_n 0, 1) := by decide +kernel
theorem dX0_init_1 : decode cX0_init 1 = .ok (.invokespecial 3, 3) := by decide +kernel
theorem dX0_init_4 : decode cX0_init 4 = .ok (.aload_n 0, 1) := by decide +kernel
theorem dX0_init_5 : decode cX0_init 5 = .ok (.iconst 0, 1) := by decide +kernel
theorem dX0_init_6 : decode cX0_init 6 = .ok (.putfield 9, 3) := by decide +kernel
theorem dX0_init_9 : decode cX0_init 9 = .ok (.aload_n 0, 1) := by decide +kernel
theorem dX0_init_10 : decode cX0_init 10 = .ok (.iconst 0, 1) := by decide +kernel
theorem dX0_init_11 : decode cX0_init 11 = .ok (.putfield 15, 3) := by decide +kernel
theorem dX0_init_14 : decode cX0_init 14 = .ok (.aload_n 0, 1) := by decide +kernel
theorem dX0_init_15 : decode cX0_init 15 = .ok (.iconst 0, 1) := by decide +kernel
theorem dX0_init_16 : decode cX0_init 16 = .ok (.putfield 18, 3) := by decide +kernel
theorem dX0_init_19 : decode cX0_init 19 = .ok (.aload_n 0, 1) := by decide +kernel
theorem dX0_init_20 : decode cX0_init 20 = .ok (.iconst 0, 1) := by decide +kernel
theorem dX0_init_21 : decode cX0_init 21 = .ok (.putfield 21, 3) := by decide +kernel
theorem dX0_init_24 : decode cX0_init 24 = .ok (.aload_n 0, 1) := by decide +kernel
theorem dX0_init_25 : decode cX0_init 25 = .ok (.aload_n 1, 1) := by decide +kernel
theorem dX0_init_26 : decode cX0_init 26 = .ok (.putfield 24, 3) := by decide +kernel
theorem dX0_init_29 : decode cX0_init 29 = .ok (.return_, 1) := by decide +kernel
theorem dX0_readInto_0 : decode cX0_readInto 0 = .ok (.aload_n 0, 1) := by decide +kernel
theorem dX0_readInto_1 : decode cX0_readInto 1 = .ok (.iconst 0, 1) := by decide +kernel
theorem dX0_readInto_2 : decode cX0_readInto 2 = .ok (.putfield 15, 3) := by decide +kernel
theorem dX0_readInto_5 : decode cX0_readInto 5 = .ok (.aload_n 0, 1) := by decide +kernel
theorem dX0_readInto_6 : decode cX0_readInto 6 = .ok (.invokevirtual 28, 3) := by decide +kernel
theorem dX0_readInto_9 : decode cX0_readInto 9 = .ok (.iconst 1, 1) := by decide +kernel
theorem dX0_readInto_10 : decode cX0_readInto 10 = .ok (.istore_n 2, 1) := by decide +kernel
theorem dX0_readInto_11 : decode cX0_readInto 11 = .ok (.iload_n 2, 1) := by decide +kernel
theorem dX0_readInto_12 : decode cX0_readInto 12 = .ok (.bipush 120, 2) := by decide +kernel
theorem dX0_readInto_14 : decode cX0_readInto 14 = .ok (.if_icmp .gt 52, 3) := by decide +kernel
theorem dX0_readInto_17 : decode cX0_readInto 17 = .ok (.aload_n 0, 1) := by decide +kernel
theorem dX0_readInto_18 : decode cX0_readInto 18 = .ok (.aload_n 1, 1) := by decide +kernel
theorem dX0_readInto_19 : decode cX0_readInto 19 = .ok (.invokevirtual 31, 3) := by decide +kernel
theorem dX0_readInto_22 : decode cX0_readInto 22 = .ok (.ifCond .ne 10, 3) := by decide +kernel
theorem dX0_readInto_25 : decode cX0_readInto 25 = .ok (.iconst (-1), 1) := by decide +kernel
theorem dX0_readInto_26 : decode cX0_readInto 26 = .ok (.aload_n 0, 1) := by decide +kernel
theorem dX0_readInto_27 : decode cX0_readInto 27 = .ok (.getfield 9, 3) := by decide +kernel
theorem dX0_readInto_30 : decode cX0_readInto 30 = .ok (.isub, 1) := by decide +kernel
theorem dX0_readInto_31 : decode cX0_readInto 31 = .ok (.ireturn, 1) := by decide +kernel
theorem dX0_readInto_32 : decode cX0_readInto 32 = .ok (.aload_n 0, 1) := by decide +kernel
theorem dX0_readInto_33 : decode cX0_readInto 33 = .ok (.getfield 18, 3) := by decide +kernel
theorem dX0_readInto_36 : decode cX0_readInto 36 = .ok (.ifCond .ne 5, 3) := by decide +kernel
theorem dX0_readInto_39 : decode cX0_readInto 39 = .ok (.iload_n 2, 1) := by decide +kernel
theorem dX0_readInto_40 : decode cX0_readInto 40 = .ok (.ireturn, 1) := by decide +kernel
theorem dX0_readInto_41 : decode cX0_readInto 41 = .ok (.aload_n 0, 1) := by decide +kernel
theorem dX0_readInto_42 : decode cX0_readInto 42 = .ok (.getfield 18, 3) := by decide +kernel
theorem dX0_readInto_45 : decode cX0_readInto 45 = .ok (.iconst 3, 1) := by decide +kernel
theorem dX0_readInto_46 : decode cX0_readInto 46 = .ok (.if_icmp .eq 10, 3) := by decide +kernel
theorem dX0_readInto_49 : decode cX0_readInto 49 = .ok (.iconst (-1), 1) := by decide +kernel
theorem dX0_readInto_50 : decode cX0_readInto 50 = .ok (.aload_n 0, 1) := by decide +kernel
theorem dX0_readInto_51 : decode cX0_readInto 51 = .ok (.getfield 9, 3) := by decide +kernel
theorem dX0_readInto_54 : decode cX0_readInto 54 = .ok (.isub, 1) := by decide +kernel
theorem dX0_readInto_55 : decode cX0_readInto 55 = .ok (.ireturn, 1) := by decide +kernel
theorem dX0_readInto_56 : decode cX0_readInto 56 = .ok (.aload_n 0, 1) := by decide +kernel
theorem dX0_readInto_57 : decode cX0_readInto 57 = .ok (.invokevirtual 28, 3) := by decide +kernel
theorem dX0_readInto_60 : decode cX0_readInto 60 = .ok (.iinc 2 1, 3) := by decide +kernel
theorem dX0_readInto_63 : decode cX0_readInto 63 = .ok (.goto (-52), 3) := by decide +kernel
theorem dX0_readInto_66 : decode cX0_readInto 66 = .ok (.iconst (-1), 1) := by decide +kernel
theorem dX0_readInto_67 : decode cX0_readInto 67 = .ok (.aload_n 0, 1) := by decide +kernel
theorem dX0_readInto_68 : decode cX0_readInto 68 = .ok (.getfield 9, 3) := by decide +kernel
theorem dX0_readInto_71 : decode cX0_readInto 71 = .ok (.isub, 1) := by decide +kernel
theorem dX0_readInto_72 : decode cX0_readInto 72 = .ok (.ireturn, 1) := by decide +kernel
theorem dX0_readItem_0 : decode cX0_readItem 0 = .ok (.iconst 0, 1) := by decide +kernel
theorem dX0_readItem_1 : decode cX0_readItem 1 = .ok (.istore_n 2, 1) := by decide +kernel
theorem dX0_readItem_2 : decode cX0_readItem 2 = .ok (.iload_n 2, 1) := by decide +kernel
theorem dX0_readItem_3 : decode cX0_readItem 3 = .ok (.bipush 7, 2) := by decide +kernel
theorem dX0_readItem_5 : decode cX0_readItem 5 = .ok (.if_icmp .ge 27, 3) := by decide +kernel
theorem dX0_readItem_8 : decode cX0_readItem 8 = .ok (.aload_n 0, 1) := by decide +kernel
theorem dX0_readItem_9 : decode cX0_readItem 9 = .ok (.iload_n 2, 1) := by decide +kernel
theorem dX0_readItem_10 : decode cX0_readItem 10 = .ok (.invokestatic 35, 3) := by decide +kernel
theorem dX0_readItem_13 : decode cX0_readItem 13 = .ok (.invokevirtual 39, 3) := by decide +kernel
theorem dX0_readItem_16 : decode cX0_readItem 16 = .ok (.ifCond .eq 10, 3) := by decide +kernel
theorem dX0_readItem_19 : decode cX0_readItem 19 = .ok (.aload_n 0, 1) := by decide +kernel
theorem dX0_readItem_20 : decode cX0_readItem 20 = .ok (.aload_n 1, 1) := by decide +kernel
theorem dX0_readItem_21 : decode cX0_readItem 21 = .ok (.iload_n 2, 1) := by decide +kernel
theorem dX0_readItem_22 : decode cX0_readItem 22 = .ok (.invokevirtual 43, 3) := by decide +kernel
theorem dX0_readItem_25 : decode cX0_readItem 25 = .ok (.ireturn, 1) := by decide +kernel
theorem dX0_readItem_26 : decode cX0_readItem 26 = .ok (.iinc 2 1, 3) := by decide +kernel
theorem dX0_readItem_29 : decode cX0_readItem 29 = .ok (.goto (-27), 3) := by decide +kernel
theorem dX0_readItem_32 : decode cX0_readItem 32 = .ok (.iconst 0, 1) := by decide +kernel
theorem dX0_readItem_33 : decode cX0_readItem 33 = .ok (.istore_n 2, 1) := by decide +kernel
theorem dX0_readItem_34 : decode cX0_readItem 34 = .ok (.iload_n 2, 1) := by decide +kernel
theorem dX0_readItem_35 : decode cX0_readItem 35 = .ok (.iconst 3, 1) := by decide +kernel
theorem dX0_readItem_36 : decode cX0_readItem 36 = .ok (.if_icmp .ge 30, 3) := by decide +kernel
theorem dX0_readItem_39 : decode cX0_readItem 39 = .ok (.aload_n 0, 1) := by decide +kernel
theorem dX0_readItem_40 : decode cX0_readItem 40 = .ok (.iload_n 2, 1) := by decide +kernel
theorem dX0_readItem_41 : decode cX0_readItem 41 = .ok (.invokestatic 47, 3) := by decide +kernel
theorem dX0_readItem_44 : decode cX0_readItem 44 = .ok (.invokevirtual 39, 3) := by decide +kernel
theorem dX0_readItem_47 : decode cX0_readItem 47 = .ok (.ifCond .eq 13, 3) := by decide +kernel
theorem dX0_readItem_50 : decode cX0_readItem 50 = .ok (.aload_n 0, 1) := by decide +kernel
theorem dX0_readItem_51 : decode cX0_readItem 51 = .ok (.aload_n 1, 1) := by decide +kernel
theorem dX0_readItem_52 : decode cX0_readItem 52 = .ok (.getfield 50, 3) := by decide +kernel
theorem dX0_readItem_55 : decode cX0_readItem 55 = .ok (.iload_n 2, 1) := by decide +kernel
theorem dX0_readItem_56 : decode cX0_readItem 56 = .ok (.invokevirtual 56, 3) := by decide +kernel
theorem dX0_readItem_59 : decode cX0_readItem 59 = .ok (.ireturn, 1) := by decide +kernel
theorem dX0_readItem_60 : decode cX0_readItem 60 = .ok (.iinc 2 1, 3) := by decide +kernel
theorem dX0_readItem_63 : decode cX0_readItem 63 = .ok (.goto (-29), 3) := by decide +kernel
theorem dX0_readItem_66 : decode cX0_readItem 66 = .ok (.aload_n 0, 1) := by decide +kernel
theorem dX0_readItem_67 : decode cX0_readItem 67 = .ok (.ldc 60, 2) := by decide +kernel
theorem dX0_readItem_69 : decode cX0_readItem 69 = .ok (.invokevirtual 39, 3) := by decide +kernel
theorem dX0_readItem_72 : decode cX0_readItem 72 = .ok (.ifCond .eq 13, 3) := by decide +kernel
theorem dX0_readItem_75 : decode cX0_readItem 75 = .ok (.aload_n 0, 1) := by decide +kernel
theorem dX0_readItem_76 : decode cX0_readItem 76 = .ok (.aload_n 1, 1) := by decide +kernel
theorem dX0_readItem_77 : decode cX0_readItem 77 = .ok (.getfield 50, 3) := by decide +kernel
theorem dX0_readItem_80 : decode cX0_readItem 80 = .ok (.iconst 1, 1) := by decide +kernel
theorem dX0_readItem_81 : decode cX0_readItem 81 = .ok (.invokevirtual 62, 3) := by decide +kernel
theorem dX0_readItem_84 : decode cX0_readItem 84 = .ok (.ireturn, 1) := by decide +kernel
theorem dX0_readItem_85 : decode cX0_readItem 85 = .ok (.aload_n 0, 1) := by decide +kernel
theorem dX0_readItem_86 : decode cX0_readItem 86 = .ok (.ldc 65, 2) := by decide +kernel
theorem dX0_readItem_88 : decode cX0_readItem 88 = .ok (.invokevirtual 39, 3) := by decide +kernel
theorem dX0_readItem_91 : decode cX0_readItem 91 = .ok (.ifCond .eq 13, 3) := by decide +kernel
theorem dX0_readItem_94 : decode cX0_readItem 94 = .ok (.aload_n 0, 1) := by decide +kernel
theorem dX0_readItem_95 : decode cX0_readItem 95 = .ok (.aload_n 1, 1) := by decide +kernel
theorem dX0_readItem_96 : decode cX0_readItem 96 = .ok (.getfield 50, 3) := by decide +kernel
theorem dX0_readItem_99 : decode cX0_readItem 99 = .ok (.iconst 0, 1) := by decide +kernel
theorem dX0_readItem_100 : decode cX0_readItem 100 = .ok (.invokevirtual 62, 3) := by decide +kernel
theorem dX0_readItem_103 : decode cX0_readItem 103 = .ok (.ireturn, 1) := by decide +kernel
theorem dX0_readItem_104 : decode cX0_readItem 104 = .ok (.aload_n 0, 1) := by decide +kernel
theorem dX0_readItem_105 : decode cX0_readItem 105 = .ok (.ldc 67, 2) := by decide +kernel
theorem dX0_readItem_107 : decode cX0_readItem 107 = .ok (.invokevirtual 39, 3) := by decide +kernel
theorem dX0_readItem_110 : decode cX0_readItem 110 = .ok (.ifCond .eq 13, 3) := by decide +kernel
theorem dX0_readItem_113 : decode cX0_readItem 113 = .ok (.aload_n 0, 1) := by decide +kernel
theorem dX0_readItem_114 : decode cX0_readItem 114 = .ok (.aload_n 1, 1) := by decide +kernel
theorem dX0_readItem_115 : decode cX0_readItem 115 = .ok (.getfield 50, 3) := by decide +kernel
theorem dX0_readItem_118 : decode cX0_readItem 118 = .ok (.iconst 1, 1) := by decide +kernel
theorem dX0_readItem_119 : decode cX0_readItem 119 = .ok (.invokevirtual 69, 3) := by decide +kernel
theorem dX0_readItem_122 : decode cX0_readItem 122 = .ok (.ireturn, 1) := by decide +kernel
theorem dX0_readItem_123 : decode cX0_readItem 123 = .ok (.aload_n 0, 1) := by decide +kernel
theorem dX0_readItem_124 : decode cX0_readItem 124 = .ok (.ldc 73, 2) := by decide +kernel
theorem dX0_readItem_126 : decode cX0_readItem 126 = .ok (.invokevirtual 39, 3) := by decide +kernel
theorem dX0_readItem_129 : decode cX0_readItem 129 = .ok (.ifCond .eq 19, 3) := by decide +kernel
theorem dX0_readItem_132 : decode cX0_readItem 132 = .ok (.aload_n 0, 1) := by decide +kernel
theorem dX0_readItem_133 : decode cX0_readItem 133 = .ok (.aload_n 1, 1) := by decide +kernel
theorem dX0_readItem_134 : decode cX0_readItem 134 = .ok (.getfield 50, 3) := by decide +kernel
theorem dX0_readItem_137 : decode cX0_readItem 137 = .ok (.iconst 0, 1) := by decide +kernel
theorem dX0_readItem_138 : decode cX0_readItem 138 = .ok (.invokevirtual 69, 3) := by decide +kernel
theorem dX0_readItem_141 : decode cX0_readItem 141 = .ok (.ifCond .eq 7, 3) := by decide +kernel
theorem dX0_readItem_144 : decode cX0_readItem 144 = .ok (.iconst 1, 1) := by decide +kernel
theorem dX0_readItem_145 : decode cX0_readItem 145 = .ok (.goto 4, 3) := by decide +kernel
theorem dX0_readItem_148 : decode cX0_readItem 148 = .ok (.iconst 0, 1) := by decide +kernel
theorem dX0_readItem_149 : decode cX0_readItem 149 = .ok (.ireturn, 1) := by decide +kernel
theorem dX0_readUmbrella_0 : decode cX0_readUmbrella 0 = .ok (.aload_n 1, 1) := by decide +kernel
theorem dX0_readUmbrella_1 : decode cX0_readUmbrella 1 = .ok (.invokevirtual 75, 3) := by decide +kernel
theorem dX0_readUmbrella_4 : decode cX0_readUmbrella 4 = .ok (.ifCond .eq 5, 3) := by decide +kernel
theorem dX0_readUmbrella_7 : decode cX0_readUmbrella 7 = .ok (.iconst 0, 1) := by decide +kernel
theorem dX0_readUmbrella_8 : decode cX0_readUmbrella 8 = .ok (.ireturn, 1) := by decide +kernel
theorem dX0_readUmbrella_9 : decode cX0_readUmbrella 9 = .ok (.aload_n 1, 1) := by decide +kernel
theorem dX0_readUmbrella_10 : decode cX0_readUmbrella 10 = .ok (.getfield 79, 3) := by decide +kernel
theorem dX0_readUmbrella_13 : decode cX0_readUmbrella 13 = .ok (.aload_n 1, 1) := by decide +kernel
theorem dX0_readUmbrella_14 : decode cX0_readUmbrella 14 = .ok (.iload_n 2, 1) := by decide +kernel
theorem dX0_readUmbrella_15 : decode cX0_readUmbrella 15 = .ok (.invokevirtual 83, 3) := by decide +kernel
theorem dX0_readUmbrella_18 : decode cX0_readUmbrella 18 = .ok (.aaload, 1) := by decide +kernel
theorem dX0_readUmbrella_19 : decode cX0_readUmbrella 19 = .ok (.astore_n 3, 1) := by decide +kernel
theorem dX0_readUmbrella_20 : decode cX0_readUmbrella 20 = .ok (.aload_n 0, 1) := by decide +kernel
theorem dX0_readUmbrella_21 : decode cX0_readUmbrella 21 = .ok (.invokevirtual 28, 3) := by decide +kernel
theorem dX0_readUmbrella_24 : decode cX0_readUmbrella 24 = .ok (.aload_n 0, 1) := by decide +kernel
theorem dX0_readUmbrella_25 : decode cX0_readUmbrella 25 = .ok (.aload_n 3, 1) := by decide +kernel
theorem dX0_readUmbrella_26 : decode cX0_readUmbrella 26 = .ok (.ldc 87, 2) := by decide +kernel
theorem dX0_readUmbrella_28 : decode cX0_readUmbrella 28 = .ok (.iconst 1, 1) := by decide +kernel
theorem dX0_readUmbrella_29 : decode cX0_readUmbrella 29 = .ok (.invokevirtual 89, 3) := by decide +kernel
theorem dX0_readUmbrella_32 : decode cX0_readUmbrella 32 = .ok (.ifCond .eq 40, 3) := by decide +kernel
theorem dX0_readUmbrella_35 : decode cX0_readUmbrella 35 = .ok (.aload_n 0, 1) := by decide +kernel
theorem dX0_readUmbrella_36 : decode cX0_readUmbrella 36 = .ok (.aload_n 3, 1) := by decide +kernel
theorem dX0_readUmbrella_37 : decode cX0_readUmbrella 37 = .ok (.ldc 93, 2) := by decide +kernel
theorem dX0_readUmbrella_39 : decode cX0_readUmbrella 39 = .ok (.iconst 4, 1) := by decide +kernel
theorem dX0_readUmbrella_40 : decode cX0_readUmbrella 40 = .ok (.invokevirtual 89, 3) := by decide +kernel
theorem dX0_readUmbrella_43 : decode cX0_readUmbrella 43 = .ok (.ifCond .eq 29, 3) := by decide +kernel
theorem dX0_readUmbrella_46 : decode cX0_readUmbrella 46 = .ok (.aload_n 0, 1) := by decide +kernel
theorem dX0_readUmbrella_47 : decode cX0_readUmbrella 47 = .ok (.aload_n 3, 1) := by decide +kernel
theorem dX0_readUmbrella_48 : decode cX0_readUmbrella 48 = .ok (.ldc 95, 2) := by decide +kernel
theorem dX0_readUmbrella_50 : decode cX0_readUmbrella 50 = .ok (.iconst 2, 1) := by decide +kernel
theorem dX0_readUmbrella_51 : decode cX0_readUmbrella 51 = .ok (.invokevirtual 89, 3) := by decide +kernel
theorem dX0_readUmbrella_54 : decode cX0_readUmbrella 54 = .ok (.ifCond .eq 18, 3) := by decide +kernel
theorem dX0_readUmbrella_57 : decode cX0_readUmbrella 57 = .ok (.aload_n 0, 1) := by decide +kernel
theorem dX0_readUmbrella_58 : decode cX0_readUmbrella 58 = .ok (.aload_n 3, 1) := by decide +kernel
theorem dX0_readUmbrella_59 : decode cX0_readUmbrella 59 = .ok (.ldc 97, 2) := by decide +kernel
theorem dX0_readUmbrella_61 : decode cX0_readUmbrella 61 = .ok (.iconst 3, 1) := by decide +kernel
theorem dX0_readUmbrella_62 : decode cX0_readUmbrella 62 = .ok (.invokevirtual 89, 3) := by decide +kernel
theorem dX0_readUmbrella_65 : decode cX0_readUmbrella 65 = .ok (.ifCond .eq 7, 3) := by decide +kernel
theorem dX0_readUmbrella_68 : decode cX0_readUmbrella 68 = .ok (.iconst 1, 1) := by decide +kernel
theorem dX0_readUmbrella_69 : decode cX0_readUmbrella 69 = .ok (.goto 4, 3) := by decide +kernel
theorem dX0_readUmbrella_72 : decode cX0_readUmbrella 72 = .ok (.iconst 0, 1) := by decide +kernel
theorem dX0_readUmbrella_73 : decode cX0_readUmbrella 73 = .ok (.ireturn, 1) := by decide +kernel
theorem dX0_readMark_0 : decode cX0_readMark 0 = .ok (.aload_n 0, 1) := by decide +kernel
theorem dX0_readMark_1 : decode cX0_readMark 1 = .ok (.aload_n 2, 1) := by decide +kernel
theorem dX0_readMark_2 : decode cX0_readMark 2 = .ok (.invokevirtual 39, 3) := by decide +kernel
theorem dX0_readMark_5 : decode cX0_readMark 5 = .ok (.ifCond .ne 5, 3) := by decide +kernel
theorem dX0_readMark_8 : decode cX0_readMark 8 = .ok (.iconst 1, 1) := by decide +kernel
theorem dX0_readMark_9 : decode cX0_readMark 9 = .ok (.ireturn, 1) := by decide +kernel
theorem dX0_readMark_10 : decode cX0_readMark 10 = .ok (.aload_n 0, 1) := by decide +kernel
theorem dX0_readMark_11 : decode cX0_readMark 11 = .ok (.getstatic 99, 3) := by decide +kernel
theorem dX0_readMark_14 : decode cX0_readMark 14 = .ok (.iload_n 3, 1) := by decide +kernel
theorem dX0_readMark_15 : decode cX0_readMark 15 = .ok (.iaload, 1) := by decide +kernel
theorem dX0_readMark_16 : decode cX0_readMark 16 = .ok (.invokevirtual 103, 3) := by decide +kernel
theorem dX0_readMark_19 : decode cX0_readMark 19 = .ok (.istore 4, 2) := by decide +kernel
theorem dX0_readMark_21 : decode cX0_readMark 21 = .ok (.iload 4, 2) := by decide +kernel
theorem dX0_readMark_23 : decode cX0_readMark 23 = .ok (.ifCond .ge 5, 3) := by decide +kernel
theorem dX0_readMark_26 : decode cX0_readMark 26 = .ok (.iconst 0, 1) := by decide +kernel
theorem dX0_readMark_27 : decode cX0_readMark 27 = .ok (.ireturn, 1) := by decide +kernel
theorem dX0_readMark_28 : decode cX0_readMark 28 = .ok (.aload_n 1, 1) := by decide +kernel
theorem dX0_readMark_29 : decode cX0_readMark 29 = .ok (.iload_n 3, 1) := by decide +kernel
theorem dX0_readMark_30 : decode cX0_readMark 30 = .ok (.iload 4, 2) := by decide +kernel
theorem dX0_readMark_32 : decode cX0_readMark 32 = .ok (.invokevirtual 106, 3) := by decide +kernel
theorem dX0_readMark_35 : decode cX0_readMark 35 = .ok (.aload_n 0, 1) := by decide +kernel
theorem dX0_readMark_36 : decode cX0_readMark 36 = .ok (.invokevirtual 28, 3) := by decide +kernel
theorem dX0_readMark_39 : decode cX0_readMark 39 = .ok (.iconst 1, 1) := by decide +kernel
theorem dX0_readMark_40 : decode cX0_readMark 40 = .ok (.ireturn, 1) := by decide +kernel
theorem dX0_readWind_0 : decode cX0_readWind 0 = .ok (.aload_n 0, 1) := by decide +kernel
theorem dX0_readWind_1 : decode cX0_readWind 1 = .ok (.bipush 15, 2) := by decide +kernel
theorem dX0_readWind_3 : decode cX0_readWind 3 = .ok (.invokevirtual 103, 3) := by decide +kernel
theorem dX0_readWind_6 : decode cX0_readWind 6 = .ok (.istore_n 3, 1) := by decide +kernel
theorem dX0_readWind_7 : decode cX0_readWind 7 = .ok (.iload_n 3, 1) := by decide +kernel
theorem dX0_readWind_8 : decode cX0_readWind 8 = .ok (.invokestatic 112, 3) := by decide +kernel
theorem dX0_readWind_11 : decode cX0_readWind 11 = .ok (.ifCond .ne 5, 3) := by decide +kernel
theorem dX0_readWind_14 : decode cX0_readWind 14 = .ok (.iconst 0, 1) := by decide +kernel
theorem dX0_readWind_15 : decode cX0_readWind 15 = .ok (.ireturn, 1) := by decide +kernel
theorem dX0_readWind_16 : decode cX0_readWind 16 = .ok (.aload_n 0, 1) := by decide +kernel
theorem dX0_readWind_17 : decode cX0_readWind 17 = .ok (.bipush 99, 2) := by decide +kernel
theorem dX0_readWind_19 : decode cX0_readWind 19 = .ok (.invokevirtual 103, 3) := by decide +kernel
theorem dX0_readWind_22 : decode cX0_readWind 22 = .ok (.istore 4, 2) := by decide +kernel
theorem dX0_readWind_24 : decode cX0_readWind 24 = .ok (.iload 4, 2) := by decide +kernel
theorem dX0_readWind_26 : decode cX0_readWind 26 = .ok (.ifCond .ge 5, 3) := by decide +kernel
theorem dX0_readWind_29 : decode cX0_readWind 29 = .ok (.iconst 0, 1) := by decide +kernel
theorem dX0_readWind_30 : decode cX0_readWind 30 = .ok (.ireturn, 1) := by decide +kernel
theorem dX0_readWind_31 : decode cX0_readWind 31 = .ok (.aload_n 1, 1) := by decide +kernel
theorem dX0_readWind_32 : decode cX0_readWind 32 = .ok (.getfield 116, 3) := by decide +kernel
theorem dX0_readWind_35 : decode cX0_readWind 35 = .ok (.iload_n 3, 1) := by decide +kernel
theorem dX0_readWind_36 : decode cX0_readWind 36 = .ok (.iload_n 2, 1) := by decide +kernel
theorem dX0_readWind_37 : decode cX0_readWind 37 = .ok (.iastore, 1) := by decide +kernel
theorem dX0_readWind_38 : decode cX0_readWind 38 = .ok (.aload_n 1, 1) := by decide +kernel
theorem dX0_readWind_39 : decode cX0_readWind 39 = .ok (.getfield 121, 3) := by decide +kernel
theorem dX0_readWind_42 : decode cX0_readWind 42 = .ok (.iload_n 3, 1) := by decide +kernel
theorem dX0_readWind_43 : decode cX0_readWind 43 = .ok (.iload 4, 2) := by decide +kernel
theorem dX0_readWind_45 : decode cX0_readWind 45 = .ok (.iastore, 1) := by decide +kernel
theorem dX0_readWind_46 : decode cX0_readWind 46 = .ok (.aload_n 0, 1) := by decide +kernel
theorem dX0_readWind_47 : decode cX0_readWind 47 = .ok (.invokevirtual 28, 3) := by decide +kernel
theorem dX0_readWind_50 : decode cX0_readWind 50 = .ok (.iconst 1, 1) := by decide +kernel
theorem dX0_readWind_51 : decode cX0_readWind 51 = .ok (.ireturn, 1) := by decide +kernel
theorem dX0_readRoof_0 : decode cX0_readRoof 0 = .ok (.aload_n 0, 1) := by decide +kernel
theorem dX0_readRoof_1 : decode cX0_readRoof 1 = .ok (.bipush 15, 2) := by decide +kernel
theorem dX0_readRoof_3 : decode cX0_readRoof 3 = .ok (.invokevirtual 103, 3) := by decide +kernel
theorem dX0_readRoof_6 : decode cX0_readRoof 6 = .ok (.istore_n 3, 1) := by decide +kernel
theorem dX0_readRoof_7 : decode cX0_readRoof 7 = .ok (.iload_n 3, 1) := by decide +kernel
theorem dX0_readRoof_8 : decode cX0_readRoof 8 = .ok (.invokestatic 112, 3) := by decide +kernel
theorem dX0_readRoof_11 : decode cX0_readRoof 11 = .ok (.ifCond .ne 5, 3) := by decide +kernel
theorem dX0_readRoof_14 : decode cX0_readRoof 14 = .ok (.iconst 0, 1) := by decide +kernel
theorem dX0_readRoof_15 : decode cX0_readRoof 15 = .ok (.ireturn, 1) := by decide +kernel
theorem dX0_readRoof_16 : decode cX0_readRoof 16 = .ok (.aload_n 1, 1) := by decide +kernel
theorem dX0_readRoof_17 : decode cX0_readRoof 17 = .ok (.getfield 124, 3) := by decide +kernel
theorem dX0_readRoof_20 : decode cX0_readRoof 20 = .ok (.iload_n 3, 1) := by decide +kernel
theorem dX0_readRoof_21 : decode cX0_readRoof 21 = .ok (.iload_n 2, 1) := by decide +kernel
theorem dX0_readRoof_22 : decode cX0_readRoof 22 = .ok (.iastore, 1) := by decide +kernel
theorem dX0_readRoof_23 : decode cX0_readRoof 23 = .ok (.aload_n 0, 1) := by decide +kernel
theorem dX0_readRoof_24 : decode cX0_readRoof 24 = .ok (.invokevirtual 28, 3) := by decide +kernel
theorem dX0_readRoof_27 : decode cX0_readRoof 27 = .ok (.iconst 1, 1) := by decide +kernel
theorem dX0_readRoof_28 : decode cX0_readRoof 28 = .ok (.ireturn, 1) := by decide +kernel
theorem dX0_readWeather_0 : decode cX0_readWeather 0 = .ok (.aload_n 0, 1) := by decide +kernel
theorem dX0_readWeather_1 : decode cX0_readWeather 1 = .ok (.bipush 99, 2) := by decide +kernel
theorem dX0_readWeather_3 : decode cX0_readWeather 3 = .ok (.invokevirtual 103, 3) := by decide +kernel
theorem dX0_readWeather_6 : decode cX0_readWeather 6 = .ok (.istore_n 3, 1) := by decide +kernel
theorem dX0_readWeather_7 : decode cX0_readWeather 7 = .ok (.iload_n 3, 1) := by decide +kernel
theorem dX0_readWeather_8 : decode cX0_readWeather 8 = .ok (.ifCond .ge 5, 3) := by decide +kernel
theorem dX0_readWeather_11 : decode cX0_readWeather 11 = .ok (.iconst 0, 1) := by decide +kernel
theorem dX0_readWeather_12 : decode cX0_readWeather 12 = .ok (.ireturn, 1) := by decide +kernel
theorem dX0_readWeather_13 : decode cX0_readWeather 13 = .ok (.iload_n 2, 1) := by decide +kernel
theorem dX0_readWeather_14 : decode cX0_readWeather 14 = .ok (.ifCond .eq 11, 3) := by decide +kernel
theorem dX0_readWeather_17 : decode cX0_readWeather 17 = .ok (.aload_n 1, 1) := by decide +kernel
theorem dX0_readWeather_18 : decode cX0_readWeather 18 = .ok (.iload_n 3, 1) := by decide +kernel
theorem dX0_readWeather_19 : decode cX0_readWeather 19 = .ok (.putfield 126, 3) := by decide +kernel
theorem dX0_readWeather_22 : decode cX0_readWeather 22 = .ok (.goto 8, 3) := by decide +kernel
theorem dX0_readWeather_25 : decode cX0_readWeather 25 = .ok (.aload_n 1, 1) := by decide +kernel
theorem dX0_readWeather_26 : decode cX0_readWeather 26 = .ok (.iload_n 3, 1) := by decide +kernel
theorem dX0_readWeather_27 : decode cX0_readWeather 27 = .ok (.putfield 128, 3) := by decide +kernel
theorem dX0_readWeather_30 : decode cX0_readWeather 30 = .ok (.aload_n 0, 1) := by decide +kernel
theorem dX0_readWeather_31 : decode cX0_readWeather 31 = .ok (.invokevirtual 28, 3) := by decide +kernel
theorem dX0_readWeather_34 : decode cX0_readWeather 34 = .ok (.iconst 1, 1) := by decide +kernel
theorem dX0_readWeather_35 : decode cX0_readWeather 35 = .ok (.ireturn, 1) := by decide +kernel
theorem dX0_nextNumber_0 : decode cX0_nextNumber 0 = .ok (.aload_n 0, 1) := by decide +kernel
theorem dX0_nextNumber_1 : decode cX0_nextNumber 1 = .ok (.invokevirtual 28, 3) := by decide +kernel
theorem dX0_nextNumber_4 : decode cX0_nextNumber 4 = .ok (.aload_n 0, 1) := by decide +kernel
theorem dX0_nextNumber_5 : decode cX0_nextNumber 5 = .ok (.getfield 18, 3) := by decide +kernel
theorem dX0_nextNumber_8 : decode cX0_nextNumber 8 = .ok (.iconst 2, 1) := by decide +kernel
theorem dX0_nextNumber_9 : decode cX0_nextNumber 9 = .ok (.if_icmp .ne 18, 3) := by decide +kernel
theorem dX0_nextNumber_12 : decode cX0_nextNumber 12 = .ok (.aload_n 0, 1) := by decide +kernel
theorem dX0_nextNumber_13 : decode cX0_nextNumber 13 = .ok (.getfield 21, 3) := by decide +kernel
theorem dX0_nextNumber_16 : decode cX0_nextNumber 16 = .ok (.iload_n 1, 1) := by decide +kernel
theorem dX0_nextNumber_17 : decode cX0_nextNumber 17 = .ok (.if_icmp .gt 10, 3) := by decide +kernel
theorem dX0_nextNumber_20 : decode cX0_nextNumber 20 = .ok (.aload_n 0, 1) := by decide +kernel
theorem dX0_nextNumber_21 : decode cX0_nextNumber 21 = .ok (.getfield 21, 3) := by decide +kernel
theorem dX0_nextNumber_24 : decode cX0_nextNumber 24 = .ok (.goto 4, 3) := by decide +kernel
theorem dX0_nextNumber_27 : decode cX0_nextNumber 27 = .ok (.iconst (-1), 1) := by decide +kernel
theorem dX0_nextNumber_28 : decode cX0_nextNumber 28 = .ok (.ireturn, 1) := by decide +kernel
theorem dX0_isWord_0 : decode cX0_isWord 0 = .ok (.aload_n 0, 1) := by decide +kernel
theorem dX0_isWord_1 : decode cX0_isWord 1 = .ok (.getfield 18, 3) := by decide +kernel
theorem dX0_isWord_4 : decode cX0_isWord 4 = .ok (.iconst 1, 1) := by decide +kernel
theorem dX0_isWord_5 : decode cX0_isWord 5 = .ok (.if_icmp .ne 19, 3) := by decide +kernel
theorem dX0_isWord_8 : decode cX0_isWord 8 = .ok (.aload_n 1, 1) := by decide +kernel
theorem dX0_isWord_9 : decode cX0_isWord 9 = .ok (.invokevirtual 130, 3) := by decide +kernel
theorem dX0_isWord_12 : decode cX0_isWord 12 = .ok (.aload_n 0, 1) := by decide +kernel
theorem dX0_isWord_13 : decode cX0_isWord 13 = .ok (.getfield 15, 3) := by decide +kernel
theorem dX0_isWord_16 : decode cX0_isWord 16 = .ok (.aload_n 0, 1) := by decide +kernel
theorem dX0_isWord_17 : decode cX0_isWord 17 = .ok (.getfield 9, 3) := by decide +kernel
theorem dX0_isWord_20 : decode cX0_isWord 20 = .ok (.isub, 1) := by decide +kernel
theorem dX0_isWord_21 : decode cX0_isWord 21 = .ok (.if_icmp .eq 5, 3) := by decide +kernel
theorem dX0_isWord_24 : decode cX0_isWord 24 = .ok (.iconst 0, 1) := by decide +kernel
theorem dX0_isWord_25 : decode cX0_isWord 25 = .ok (.ireturn, 1) := by decide +kernel
theorem dX0_isWord_26 : decode cX0_isWord 26 = .ok (.iconst 0, 1) := by decide +kernel
theorem dX0_isWord_27 : decode cX0_isWord 27 = .ok (.istore_n 2, 1) := by decide +kernel
theorem dX0_isWord_28 : decode cX0_isWord 28 = .ok (.iload_n 2, 1) := by decide +kernel
theorem dX0_isWord_29 : decode cX0_isWord 29 = .ok (.aload_n 1, 1) := by decide +kernel
theorem dX0_isWord_30 : decode cX0_isWord 30 = .ok (.invokevirtual 130, 3) := by decide +kernel
theorem dX0_isWord_33 : decode cX0_isWord 33 = .ok (.if_icmp .ge 32, 3) := by decide +kernel
theorem dX0_isWord_36 : decode cX0_isWord 36 = .ok (.aload_n 1, 1) := by decide +kernel
theorem dX0_isWord_37 : decode cX0_isWord 37 = .ok (.iload_n 2, 1) := by decide +kernel
theorem dX0_isWord_38 : decode cX0_isWord 38 = .ok (.invokevirtual 136, 3) := by decide +kernel
theorem dX0_isWord_41 : decode cX0_isWord 41 = .ok (.aload_n 0, 1) := by decide +kernel
theorem dX0_isWord_42 : decode cX0_isWord 42 = .ok (.getfield 24, 3) := by decide +kernel
theorem dX0_isWord_45 : decode cX0_isWord 45 = .ok (.aload_n 0, 1) := by decide +kernel
theorem dX0_isWord_46 : decode cX0_isWord 46 = .ok (.getfield 9, 3) := by decide +kernel
theorem dX0_isWord_49 : decode cX0_isWord 49 = .ok (.iload_n 2, 1) := by decide +kernel
theorem dX0_isWord_50 : decode cX0_isWord 50 = .ok (.iadd, 1) := by decide +kernel
theorem dX0_isWord_51 : decode cX0_isWord 51 = .ok (.invokevirtual 140, 3) := by decide +kernel
theorem dX0_isWord_54 : decode cX0_isWord 54 = .ok (.if_icmp .eq 5, 3) := by decide +kernel
theorem dX0_isWord_57 : decode cX0_isWord 57 = .ok (.iconst 0, 1) := by decide +kernel
theorem dX0_isWord_58 : decode cX0_isWord 58 = .ok (.ireturn, 1) := by decide +kernel
theorem dX0_isWord_59 : decode cX0_isWord 59 = .ok (.iinc 2 1, 3) := by decide +kernel
theorem dX0_isWord_62 : decode cX0_isWord 62 = .ok (.goto (-34), 3) := by decide +kernel
theorem dX0_isWord_65 : decode cX0_isWord 65 = .ok (.iconst 1, 1) := by decide +kernel
theorem dX0_isWord_66 : decode cX0_isWord 66 = .ok (.ireturn, 1) := by decide +kernel
theorem dX0_readToken_0 : decode cX0_readToken 0 = .ok (.aload_n 0, 1) := by decide +kernel
theorem dX0_readToken_1 : decode cX0_readToken 1 = .ok (.aload_n 0, 1) := by decide +kernel
theorem dX0_readToken_2 : decode cX0_readToken 2 = .ok (.getfield 15, 3) := by decide +kernel
theorem dX0_readToken_5 : decode cX0_readToken 5 = .ok (.putfield 9, 3) := by decide +kernel
theorem dX0_readToken_8 : decode cX0_readToken 8 = .ok (.aload_n 0, 1) := by decide +kernel
theorem dX0_readToken_9 : decode cX0_readToken 9 = .ok (.getfield 9, 3) := by decide +kernel
theorem dX0_readToken_12 : decode cX0_readToken 12 = .ok (.aload_n 0, 1) := by decide +kernel
theorem dX0_readToken_13 : decode cX0_readToken 13 = .ok (.getfield 24, 3) := by decide +kernel
theorem dX0_readToken_16 : decode cX0_readToken 16 = .ok (.getfield 145, 3) := by decide +kernel
theorem dX0_readToken_19 : decode cX0_readToken 19 = .ok (.if_icmp .ge 32, 3) := by decide +kernel
theorem dX0_readToken_22 : decode cX0_readToken 22 = .ok (.aload_n 0, 1) := by decide +kernel
theorem dX0_readToken_23 : decode cX0_readToken 23 = .ok (.getfield 24, 3) := by decide +kernel
theorem dX0_readToken_26 : decode cX0_readToken 26 = .ok (.aload_n 0, 1) := by decide +kernel
theorem dX0_readToken_27 : decode cX0_readToken 27 = .ok (.getfield 9, 3) := by decide +kernel
theorem dX0_readToken_30 : decode cX0_readToken 30 = .ok (.invokevirtual 140, 3) := by decide +kernel
theorem dX0_readToken_33 : decode cX0_readToken 33 = .ok (.bipush 32, 2) := by decide +kernel
theorem dX0_readToken_35 : decode cX0_readToken 35 = .ok (.if_icmp .ne 16, 3) := by decide +kernel
theorem dX0_readToken_38 : decode cX0_readToken 38 = .ok (.aload_n 0, 1) := by decide +kernel
theorem dX0_readToken_39 : decode cX0_readToken 39 = .ok (.dup, 1) := by decide +kernel
theorem dX0_readToken_40 : decode cX0_readToken 40 = .ok (.getfield 9, 3) := by decide +kernel
theorem dX0_readToken_43 : decode cX0_readToken 43 = .ok (.iconst 1, 1) := by decide +kernel
theorem dX0_readToken_44 : decode cX0_readToken 44 = .ok (.iadd, 1) := by decide +kernel
theorem dX0_readToken_45 : decode cX0_readToken 45 = .ok (.putfield 9, 3) := by decide +kernel
theorem dX0_readToken_48 : decode cX0_readToken 48 = .ok (.goto (-40), 3) := by decide +kernel
theorem dX0_readToken_51 : decode cX0_readToken 51 = .ok (.aload_n 0, 1) := by decide +kernel
theorem dX0_readToken_52 : decode cX0_readToken 52 = .ok (.aload_n 0, 1) := by decide +kernel
theorem dX0_readToken_53 : decode cX0_readToken 53 = .ok (.getfield 24, 3) := by decide +kernel
theorem dX0_readToken_56 : decode cX0_readToken 56 = .ok (.aload_n 0, 1) := by decide +kernel
theorem dX0_readToken_57 : decode cX0_readToken 57 = .ok (.getfield 9, 3) := by decide +kernel
theorem dX0_readToken_60 : decode cX0_readToken 60 = .ok (.invokevirtual 140, 3) := by decide +kernel
theorem dX0_readToken_63 : decode cX0_readToken 63 = .ok (.invokestatic 147, 3) := by decide +kernel
theorem dX0_readToken_66 : decode cX0_readToken 66 = .ok (.putfield 18, 3) := by decide +kernel
theorem dX0_readToken_69 : decode cX0_readToken 69 = .ok (.aload_n 0, 1) := by decide +kernel
theorem dX0_readToken_70 : decode cX0_readToken 70 = .ok (.getfield 18, 3) := by decide +kernel
theorem dX0_readToken_73 : decode cX0_readToken 73 = .ok (.iconst 1, 1) := by decide +kernel
theorem dX0_readToken_74 : decode cX0_readToken 74 = .ok (.if_icmp .eq 11, 3) := by decide +kernel
theorem dX0_readToken_77 : decode cX0_readToken 77 = .ok (.aload_n 0, 1) := by decide +kernel
theorem dX0_readToken_78 : decode cX0_readToken 78 = .ok (.getfield 18, 3) := by decide +kernel
theorem dX0_readToken_81 : decode cX0_readToken 81 = .ok (.iconst 2, 1) := by decide +kernel
theorem dX0_readToken_82 : decode cX0_readToken 82 = .ok (.if_icmp .ne 7, 3) := by decide +kernel
theorem dX0_readToken_85 : decode cX0_readToken 85 = .ok (.iconst 1, 1) := by decide +kernel
theorem dX0_readToken_86 : decode cX0_readToken 86 = .ok (.goto 4, 3) := by decide +kernel
theorem dX0_readToken_89 : decode cX0_readToken 89 = .ok (.iconst 0, 1) := by decide +kernel
theorem dX0_readToken_90 : decode cX0_readToken 90 = .ok (.istore_n 1, 1) := by decide +kernel
theorem dX0_readToken_91 : decode cX0_readToken 91 = .ok (.iload_n 1, 1) := by decide +kernel
theorem dX0_readToken_92 : decode cX0_readToken 92 = .ok (.ifCond .eq 13, 3) := by decide +kernel
theorem dX0_readToken_95 : decode cX0_readToken 95 = .ok (.aload_n 0, 1) := by decide +kernel
theorem dX0_readToken_96 : decode cX0_readToken 96 = .ok (.getfield 24, 3) := by decide +kernel
theorem dX0_readToken_99 : decode cX0_readToken 99 = .ok (.getfield 145, 3) := by decide +kernel
theorem dX0_readToken_102 : decode cX0_readToken 102 = .ok (.goto 19, 3) := by decide +kernel
theorem dX0_readToken_105 : decode cX0_readToken 105 = .ok (.aload_n 0, 1) := by decide +kernel
theorem dX0_readToken_106 : decode cX0_readToken 106 = .ok (.getfield 24, 3) := by decide +kernel
theorem dX0_readToken_109 : decode cX0_readToken 109 = .ok (.getfield 145, 3) := by decide +kernel
theorem dX0_readToken_112 : decode cX0_readToken 112 = .ok (.aload_n 0, 1) := by decide +kernel
theorem dX0_readToken_113 : decode cX0_readToken 113 = .ok (.getfield 9, 3) := by decide +kernel
theorem dX0_readToken_116 : decode cX0_readToken 116 = .ok (.iconst 1, 1) := by decide +kernel
theorem dX0_readToken_117 : decode cX0_readToken 117 = .ok (.iadd, 1) := by decide +kernel
theorem dX0_readToken_118 : decode cX0_readToken 118 = .ok (.invokestatic 150, 3) := by decide +kernel
theorem dX0_readToken_121 : decode cX0_readToken 121 = .ok (.istore_n 2, 1) := by decide +kernel
theorem dX0_readToken_122 : decode cX0_readToken 122 = .ok (.aload_n 0, 1) := by decide +kernel
theorem dX0_readToken_123 : decode cX0_readToken 123 = .ok (.iconst 0, 1) := by decide +kernel
theorem dX0_readToken_124 : decode cX0_readToken 124 = .ok (.putfield 21, 3) := by decide +kernel
theorem dX0_readToken_127 : decode cX0_readToken 127 = .ok (.aload_n 0, 1) := by decide +kernel
theorem dX0_readToken_128 : decode cX0_readToken 128 = .ok (.aload_n 0, 1) := by decide +kernel
theorem dX0_readToken_129 : decode cX0_readToken 129 = .ok (.getfield 9, 3) := by decide +kernel
theorem dX0_readToken_132 : decode cX0_readToken 132 = .ok (.putfield 15, 3) := by decide +kernel
theorem dX0_readToken_135 : decode cX0_readToken 135 = .ok (.aload_n 0, 1) := by decide +kernel
theorem dX0_readToken_136 : decode cX0_readToken 136 = .ok (.getfield 15, 3) := by decide +kernel
theorem dX0_readToken_139 : decode cX0_readToken 139 = .ok (.iload_n 2, 1) := by decide +kernel
theorem dX0_readToken_140 : decode cX0_readToken 140 = .ok (.if_icmp .ge 77, 3) := by decide +kernel
theorem dX0_readToken_143 : decode cX0_readToken 143 = .ok (.aload_n 0, 1) := by decide +kernel
theorem dX0_readToken_144 : decode cX0_readToken 144 = .ok (.getfield 24, 3) := by decide +kernel
theorem dX0_readToken_147 : decode cX0_readToken 147 = .ok (.aload_n 0, 1) := by decide +kernel
theorem dX0_readToken_148 : decode cX0_readToken 148 = .ok (.getfield 15, 3) := by decide +kernel
theorem dX0_readToken_151 : decode cX0_readToken 151 = .ok (.invokevirtual 140, 3) := by decide +kernel
theorem dX0_readToken_154 : decode cX0_readToken 154 = .ok (.invokestatic 147, 3) := by decide +kernel
theorem dX0_readToken_157 : decode cX0_readToken 157 = .ok (.aload_n 0, 1) := by decide +kernel
theorem dX0_readToken_158 : decode cX0_readToken 158 = .ok (.getfield 18, 3) := by decide +kernel
theorem dX0_readToken_161 : decode cX0_readToken 161 = .ok (.if_icmp .ne 56, 3) := by decide +kernel
theorem dX0_readToken_164 : decode cX0_readToken 164 = .ok (.aload_n 0, 1) := by decide +kernel
theorem dX0_readToken_165 : decode cX0_readToken 165 = .ok (.getfield 18, 3) := by decide +kernel
theorem dX0_readToken_168 : decode cX0_readToken 168 = .ok (.iconst 2, 1) := by decide +kernel
theorem dX0_readToken_169 : decode cX0_readToken 169 = .ok (.if_icmp .ne 35, 3) := by decide +kernel
theorem dX0_readToken_172 : decode cX0_readToken 172 = .ok (.aload_n 0, 1) := by decide +kernel
theorem dX0_readToken_173 : decode cX0_readToken 173 = .ok (.sipush 1000, 3) := by decide +kernel
theorem dX0_readToken_176 : decode cX0_readToken 176 = .ok (.bipush 10, 2) := by decide +kernel
theorem dX0_readToken_178 : decode cX0_readToken 178 = .ok (.aload_n 0, 1) := by decide +kernel
theorem dX0_readToken_179 : decode cX0_readToken 179 = .ok (.getfield 21, 3) := by decide +kernel
theorem dX0_readToken_182 : decode cX0_readToken 182 = .ok (.imul, 1) := by decide +kernel
theorem dX0_readToken_183 : decode cX0_readToken 183 = .ok (.aload_n 0, 1) := by decide +kernel
theorem dX0_readToken_184 : decode cX0_readToken 184 = .ok (.getfield 24, 3) := by decide +kernel
theorem dX0_readToken_187 : decode cX0_readToken 187 = .ok (.aload_n 0, 1) := by decide +kernel
theorem dX0_readToken_188 : decode cX0_readToken 188 = .ok (.getfield 15, 3) := by decide +kernel
theorem dX0_readToken_191 : decode cX0_readToken 191 = .ok (.invokevirtual 140, 3) := by decide +kernel
theorem dX0_readToken_194 : decode cX0_readToken 194 = .ok (.iadd, 1) := by decide +kernel
theorem dX0_readToken_195 : decode cX0_readToken 195 = .ok (.bipush 48, 2) := by decide +kernel
theorem dX0_readToken_197 : decode cX0_readToken 197 = .ok (.isub, 1) := by decide +kernel
theorem dX0_readToken_198 : decode cX0_readToken 198 = .ok (.invokestatic 150, 3) := by decide +kernel
theorem dX0_readToken_201 : decode cX0_readToken 201 = .ok (.putfield 21, 3) := by decide +kernel
theorem dX0_readToken_204 : decode cX0_readToken 204 = .ok (.aload_n 0, 1) := by decide +kernel
theorem dX0_readToken_205 : decode cX0_readToken 205 = .ok (.dup, 1) := by decide +kernel
theorem dX0_readToken_206 : decode cX0_readToken 206 = .ok (.getfield 15, 3) := by decide +kernel
theorem dX0_readToken_209 : decode cX0_readToken 209 = .ok (.iconst 1, 1) := by decide +kernel
theorem dX0_readToken_210 : decode cX0_readToken 210 = .ok (.iadd, 1) := by decide +kernel
theorem dX0_readToken_211 : decode cX0_readToken 211 = .ok (.putfield 15, 3) := by decide +kernel
theorem dX0_readToken_214 : decode cX0_readToken 214 = .ok (.goto (-79), 3) := by decide +kernel
theorem dX0_readToken_217 : decode cX0_readToken 217 = .ok (.return_, 1) := by decide +kernel
theorem dX0_tokenOf_0 : decode cX0_tokenOf 0 = .ok (.iload_n 0, 1) := by decide +kernel
theorem dX0_tokenOf_1 : decode cX0_tokenOf 1 = .ok (.ifCond .ge 5, 3) := by decide +kernel
theorem dX0_tokenOf_4 : decode cX0_tokenOf 4 = .ok (.iconst 0, 1) := by decide +kernel
theorem dX0_tokenOf_5 : decode cX0_tokenOf 5 = .ok (.ireturn, 1) := by decide +kernel
theorem dX0_tokenOf_6 : decode cX0_tokenOf 6 = .ok (.iload_n 0, 1) := by decide +kernel
theorem dX0_tokenOf_7 : decode cX0_tokenOf 7 = .ok (.bipush 97, 2) := by decide +kernel
theorem dX0_tokenOf_9 : decode cX0_tokenOf 9 = .ok (.if_icmp .lt 11, 3) := by decide +kernel
theorem dX0_tokenOf_12 : decode cX0_tokenOf 12 = .ok (.iload_n 0, 1) := by decide +kernel
theorem dX0_tokenOf_13 : decode cX0_tokenOf 13 = .ok (.bipush 122, 2) := by decide +kernel
theorem dX0_tokenOf_15 : decode cX0_tokenOf 15 = .ok (.if_icmp .gt 5, 3) := by decide +kernel
theorem dX0_tokenOf_18 : decode cX0_tokenOf 18 = .ok (.iconst 1, 1) := by decide +kernel
theorem dX0_tokenOf_19 : decode cX0_tokenOf 19 = .ok (.ireturn, 1) := by decide +kernel
theorem dX0_tokenOf_20 : decode cX0_tokenOf 20 = .ok (.iload_n 0, 1) := by decide +kernel
theorem dX0_tokenOf_21 : decode cX0_tokenOf 21 = .ok (.bipush 48, 2) := by decide +kernel
theorem dX0_tokenOf_23 : decode cX0_tokenOf 23 = .ok (.if_icmp .lt 11, 3) := by decide +kernel
theorem dX0_tokenOf_26 : decode cX0_tokenOf 26 = .ok (.iload_n 0, 1) := by decide +kernel
theorem dX0_tokenOf_27 : decode cX0_tokenOf 27 = .ok (.bipush 57, 2) := by decide +kernel
theorem dX0_tokenOf_29 : decode cX0_tokenOf 29 = .ok (.if_icmp .gt 5, 3) := by decide +kernel
theorem dX0_tokenOf_32 : decode cX0_tokenOf 32 = .ok (.iconst 2, 1) := by decide +kernel
theorem dX0_tokenOf_33 : decode cX0_tokenOf 33 = .ok (.ireturn, 1) := by decide +kernel
theorem dX0_tokenOf_34 : decode cX0_tokenOf 34 = .ok (.iload_n 0, 1) := by decide +kernel
theorem dX0_tokenOf_35 : decode cX0_tokenOf 35 = .ok (.bipush 59, 2) := by decide +kernel
theorem dX0_tokenOf_37 : decode cX0_tokenOf 37 = .ok (.if_icmp .ne 7, 3) := by decide +kernel
theorem dX0_tokenOf_40 : decode cX0_tokenOf 40 = .ok (.iconst 3, 1) := by decide +kernel
theorem dX0_tokenOf_41 : decode cX0_tokenOf 41 = .ok (.goto 4, 3) := by decide +kernel
theorem dX0_tokenOf_44 : decode cX0_tokenOf 44 = .ok (.iconst 4, 1) := by decide +kernel
theorem dX0_tokenOf_45 : decode cX0_tokenOf 45 = .ok (.ireturn, 1) := by decide +kernel
theorem dX0_wordOfKind_0 : decode cX0_wordOfKind 0 = .ok (.iload_n 0, 1) := by decide +kernel
theorem dX0_wordOfKind_1 : decode cX0_wordOfKind 1 = .ok (.tableswitch 57 1 6 #[39, 42, 45, 48, 51, 54], 39) := by decide +kernel
theorem dX0_wordOfKind_40 : decode cX0_wordOfKind 40 = .ok (.ldc 156, 2) := by decide +kernel
theorem dX0_wordOfKind_42 : decode cX0_wordOfKind 42 = .ok (.areturn, 1) := by decide +kernel
theorem dX0_wordOfKind_43 : decode cX0_wordOfKind 43 = .ok (.ldc 158, 2) := by decide +kernel
theorem dX0_wordOfKind_45 : decode cX0_wordOfKind 45 = .ok (.areturn, 1) := by decide +kernel
theorem dX0_wordOfKind_46 : decode cX0_wordOfKind 46 = .ok (.ldc 160, 2) := by decide +kernel
theorem dX0_wordOfKind_48 : decode cX0_wordOfKind 48 = .ok (.areturn, 1) := by decide +kernel
theorem dX0_wordOfKind_49 : decode cX0_wordOfKind 49 = .ok (.ldc 162, 2) := by decide +kernel
theorem dX0_wordOfKind_51 : decode cX0_wordOfKind 51 = .ok (.areturn, 1) := by decide +kernel
theorem dX0_wordOfKind_52 : decode cX0_wordOfKind 52 = .ok (.ldc 164, 2) := by decide +kernel
theorem dX0_wordOfKind_54 : decode cX0_wordOfKind 54 = .ok (.areturn, 1) := by decide +kernel
theorem dX0_wordOfKind_55 : decode cX0_wordOfKind 55 = .ok (.ldc 166, 2) := by decide +kernel
theorem dX0_wordOfKind_57 : decode cX0_wordOfKind 57 = .ok (.areturn, 1) := by decide +kernel
theorem dX0_wordOfKind_58 : decode cX0_wordOfKind 58 = .ok (.ldc 168, 2) := by decide +kernel
theorem dX0_wordOfKind_60 : decode cX0_wordOfKind 60 = .ok (.areturn, 1) := by decide +kernel
theorem dX0_wordOfFrom_0 : decode cX0_wordOfFrom 0 = .ok (.iload_n 0, 1) := by decide +kernel
theorem dX0_wordOfFrom_1 : decode cX0_wordOfFrom 1 = .ok (.lookupswitch 33 #[(0, 27), (1, 30)], 27) := by decide +kernel
theorem dX0_wordOfFrom_28 : decode cX0_wordOfFrom 28 = .ok (.ldc 170, 2) := by decide +kernel
theorem dX0_wordOfFrom_30 : decode cX0_wordOfFrom 30 = .ok (.areturn, 1) := by decide +kernel
theorem dX0_wordOfFrom_31 : decode cX0_wordOfFrom 31 = .ok (.ldc 172, 2) := by decide +kernel
theorem dX0_wordOfFrom_33 : decode cX0_wordOfFrom 33 = .ok (.areturn, 1) := by decide +kernel
theorem dX0_wordOfFrom_34 : decode cX0_wordOfFrom 34 = .ok (.ldc 174, 2) := by decide +kernel
theorem dX0_wordOfFrom_36 : decode cX0_wordOfFrom 36 = .ok (.areturn, 1) := by decide +kernel
theorem dX1_init_0 : decode cX1_init 0 = .ok (.aload_n 0, 1) := by decide +kernel
theorem dX1_init_1 : decode cX1_init 1 = .ok (.invokespecial 3, 3) := by decide +kernel
theorem dX1_init_4 : decode cX1_init 4 = .ok (.aload_n 0, 1) := by decide +kernel
theorem dX1_init_5 : decode cX1_init 5 = .ok (.bipush 40, 2) := by decide +kernel
theorem dX1_init_7 : decode cX1_init 7 = .ok (.newarray .int, 2) := by decide +kernel
theorem dX1_init_9 : decode cX1_init 9 = .ok (.putfield 9, 3) := by decide +kernel
theorem dX1_init_12 : decode cX1_init 12 = .ok (.aload_n 0, 1) := by decide +kernel
theorem dX1_init_13 : decode cX1_init 13 = .ok (.iconst 0, 1) := by decide +kernel
theorem dX1_init_14 : decode cX1_init 14 = .ok (.putfield 15, 3) := by decide +kernel
theorem dX1_init_17 : decode cX1_init 17 = .ok (.aload_n 0, 1) := by decide +kernel
theorem dX1_init_18 : decode cX1_init 18 = .ok (.iconst 0, 1) := by decide +kernel
theorem dX1_init_19 : decode cX1_init 19 = .ok (.putfield 19, 3) := by decide +kernel
theorem dX1_init_22 : decode cX1_init 22 = .ok (.return_, 1) := by decide +kernel
theorem dX1_isMissing_0 : decode cX1_isMissing 0 = .ok (.aload_n 0, 1) := by decide +kernel
theorem dX1_isMissing_1 : decode cX1_isMissing 1 = .ok (.getfield 15, 3) := by decide +kernel
theorem dX1_isMissing_4 : decode cX1_isMissing 4 = .ok (.ifCond .ne 7, 3) := by decide +kernel
theorem dX1_isMissing_7 : decode cX1_isMissing 7 = .ok (.iconst 1, 1) := by decide +kernel
theorem dX1_isMissing_8 : decode cX1_isMissing 8 = .ok (.goto 4, 3) := by decide +kernel
theorem dX1_isMissing_11 : decode cX1_isMissing 11 = .ok (.iconst 0, 1) := by decide +kernel
theorem dX1_isMissing_12 : decode cX1_isMissing 12 = .ok (.ireturn, 1) := by decide +kernel
theorem dX1_clear_0 : decode cX1_clear 0 = .ok (.aload_n 0, 1) := by decide +kernel
theorem dX1_clear_1 : decode cX1_clear 1 = .ok (.getfield 9, 3) := by decide +kernel
theorem dX1_clear_4 : decode cX1_clear 4 = .ok (.iconst 0, 1) := by decide +kernel
theorem dX1_clear_5 : decode cX1_clear 5 = .ok (.invokestatic 22, 3) := by decide +kernel
theorem dX1_clear_8 : decode cX1_clear 8 = .ok (.aload_n 0, 1) := by decide +kernel
theorem dX1_clear_9 : decode cX1_clear 9 = .ok (.iload_n 1, 1) := by decide +kernel
theorem dX1_clear_10 : decode cX1_clear 10 = .ok (.putfield 15, 3) := by decide +kernel
theorem dX1_clear_13 : decode cX1_clear 13 = .ok (.aload_n 0, 1) := by decide +kernel
theorem dX1_clear_14 : decode cX1_clear 14 = .ok (.iload_n 1, 1) := by decide +kernel
theorem dX1_clear_15 : decode cX1_clear 15 = .ok (.ifCond .ne 7, 3) := by decide +kernel
theorem dX1_clear_18 : decode cX1_clear 18 = .ok (.iconst 0, 1) := by decide +kernel
theorem dX1_clear_19 : decode cX1_clear 19 = .ok (.goto 4, 3) := by decide +kernel
theorem dX1_clear_22 : decode cX1_clear 22 = .ok (.iload_n 2, 1) := by decide +kernel
theorem dX1_clear_23 : decode cX1_clear 23 = .ok (.putfield 19, 3) := by decide +kernel
theorem dX1_clear_26 : decode cX1_clear 26 = .ok (.return_, 1) := by decide +kernel
theorem dX1_has_0 : decode cX1_has 0 = .ok (.iload_n 1, 1) := by decide +kernel
theorem dX1_has_1 : decode cX1_has 1 = .ok (.ifCond .lt 29, 3) := by decide +kernel
theorem dX1_has_4 : decode cX1_has 4 = .ok (.iload_n 2, 1) := by decide +kernel
theorem dX1_has_5 : decode cX1_has 5 = .ok (.ifCond .lt 25, 3) := by decide +kernel
theorem dX1_has_8 : decode cX1_has 8 = .ok (.iload_n 2, 1) := by decide +kernel
theorem dX1_has_9 : decode cX1_has 9 = .ok (.aload_n 0, 1) := by decide +kernel
theorem dX1_has_10 : decode cX1_has 10 = .ok (.getfield 19, 3) := by decide +kernel
theorem dX1_has_13 : decode cX1_has 13 = .ok (.if_icmp .gt 17, 3) := by decide +kernel
theorem dX1_has_16 : decode cX1_has 16 = .ok (.iload_n 1, 1) := by decide +kernel
theorem dX1_has_17 : decode cX1_has 17 = .ok (.aload_n 0, 1) := by decide +kernel
theorem dX1_has_18 : decode cX1_has 18 = .ok (.getfield 19, 3) := by decide +kernel
theorem dX1_has_21 : decode cX1_has 21 = .ok (.iload_n 2, 1) := by decide +kernel
theorem dX1_has_22 : decode cX1_has 22 = .ok (.isub, 1) := by decide +kernel
theorem dX1_has_23 : decode cX1_has 23 = .ok (.if_icmp .gt 7, 3) := by decide +kernel
theorem dX1_has_26 : decode cX1_has 26 = .ok (.iconst 1, 1) := by decide +kernel
theorem dX1_has_27 : decode cX1_has 27 = .ok (.goto 4, 3) := by decide +kernel
theorem dX1_has_30 : decode cX1_has 30 = .ok (.iconst 0, 1) := by decide +kernel
theorem dX1_has_31 : decode cX1_has 31 = .ok (.ireturn, 1) := by decide +kernel
theorem dX1_put_0 : decode cX1_put 0 = .ok (.iload_n 1, 1) := by decide +kernel
theorem dX1_put_1 : decode cX1_put 1 = .ok (.ifCond .lt 11, 3) := by decide +kernel
theorem dX1_put_4 : decode cX1_put 4 = .ok (.iload_n 1, 1) := by decide +kernel
theorem dX1_put_5 : decode cX1_put 5 = .ok (.aload_n 0, 1) := by decide +kernel
theorem dX1_put_6 : decode cX1_put 6 = .ok (.getfield 19, 3) := by decide +kernel
theorem dX1_put_9 : decode cX1_put 9 = .ok (.if_icmp .lt 4, 3) := by decide +kernel
theorem dX1_put_12 : decode cX1_put 12 = .ok (.return_, 1) := by decide +kernel
theorem dX1_put_13 : decode cX1_put 13 = .ok (.aload_n 0, 1) := by decide +kernel
theorem dX1_put_14 : decode cX1_put 14 = .ok (.getfield 15, 3) := by decide +kernel
theorem dX1_put_17 : decode cX1_put 17 = .ok (.bipush 8, 2) := by decide +kernel
theorem dX1_put_19 : decode cX1_put 19 = .ok (.if_icmp .ne 14, 3) := by decide +kernel
theorem dX1_put_22 : decode cX1_put 22 = .ok (.aload_n 0, 1) := by decide +kernel
theorem dX1_put_23 : decode cX1_put 23 = .ok (.getfield 9, 3) := by decide +kernel
theorem dX1_put_26 : decode cX1_put 26 = .ok (.iload_n 1, 1) := by decide +kernel
theorem dX1_put_27 : decode cX1_put 27 = .ok (.iload_n 2, 1) := by decide +kernel
theorem dX1_put_28 : decode cX1_put 28 = .ok (.i2b, 1) := by decide +kernel
theorem dX1_put_29 : decode cX1_put 29 = .ok (.iastore, 1) := by decide +kernel
theorem dX1_put_30 : decode cX1_put 30 = .ok (.goto 30, 3) := by decide +kernel
theorem dX1_put_33 : decode cX1_put 33 = .ok (.aload_n 0, 1) := by decide +kernel
theorem dX1_put_34 : decode cX1_put 34 = .ok (.getfield 15, 3) := by decide +kernel
theorem dX1_put_37 : decode cX1_put 37 = .ok (.bipush 16, 2) := by decide +kernel
theorem dX1_put_39 : decode cX1_put 39 = .ok (.if_icmp .ne 14, 3) := by decide +kernel
theorem dX1_put_42 : decode cX1_put 42 = .ok (.aload_n 0, 1) := by decide +kernel
theorem dX1_put_43 : decode cX1_put 43 = .ok (.getfield 9, 3) := by decide +kernel
theorem dX1_put_46 : decode cX1_put 46 = .ok (.iload_n 1, 1) := by decide +kernel
theorem dX1_put_47 : decode cX1_put 47 = .ok (.iload_n 2, 1) := by decide +kernel
theorem dX1_put_48 : decode cX1_put 48 = .ok (.i2s, 1) := by decide +kernel
theorem dX1_put_49 : decode cX1_put 49 = .ok (.iastore, 1) := by decide +kernel
theorem dX1_put_50 : decode cX1_put 50 = .ok (.goto 10, 3) := by decide +kernel
theorem dX1_put_53 : decode cX1_put 53 = .ok (.aload_n 0, 1) := by decide +kernel
theorem dX1_put_54 : decode cX1_put 54 = .ok (.getfield 9, 3) := by decide +kernel
theorem dX1_put_57 : decode cX1_put 57 = .ok (.iload_n 1, 1) := by decide +kernel
theorem dX1_put_58 : decode cX1_put 58 = .ok (.iload_n 2, 1) := by decide +kernel
theorem dX1_put_59 : decode cX1_put 59 = .ok (.iastore, 1) := by decide +kernel
theorem dX1_put_60 : decode cX1_put 60 = .ok (.return_, 1) := by decide +kernel
theorem dX2_init_0 : decode cX2_init 0 = .ok (.aload_n 0, 1) := by decide +kernel
theorem dX2_init_1 : decode cX2_init 1 = .ok (.invokespecial 3, 3) := by decide +kernel
theorem dX2_init_4 : decode cX2_init 4 = .ok (.aload_n 0, 1) := by decide +kernel
theorem dX2_init_5 : decode cX2_init 5 = .ok (.bipush 16, 2) := by decide +kernel
theorem dX2_init_7 : decode cX2_init 7 = .ok (.newarray .int, 2) := by decide +kernel
theorem dX2_init_9 : decode cX2_init 9 = .ok (.putfield 9, 3) := by decide +kernel
theorem dX2_init_12 : decode cX2_init 12 = .ok (.aload_n 0, 1) := by decide +kernel
theorem dX2_init_13 : decode cX2_init 13 = .ok (.bipush 16, 2) := by decide +kernel
theorem dX2_init_15 : decode cX2_init 15 = .ok (.newarray .int, 2) := by decide +kernel
theorem dX2_init_17 : decode cX2_init 17 = .ok (.putfield 15, 3) := by decide +kernel
theorem dX2_init_20 : decode cX2_init 20 = .ok (.aload_n 0, 1) := by decide +kernel
theorem dX2_init_21 : decode cX2_init 21 = .ok (.bipush 16, 2) := by decide +kernel
theorem dX2_init_23 : decode cX2_init 23 = .ok (.newarray .int, 2) := by decide +kernel
theorem dX2_init_25 : decode cX2_init 25 = .ok (.putfield 18, 3) := by decide +kernel
theorem dX2_init_28 : decode cX2_init 28 = .ok (.aload_n 0, 1) := by decide +kernel
theorem dX2_init_29 : decode cX2_init 29 = .ok (.bipush 8, 2) := by decide +kernel
theorem dX2_init_31 : decode cX2_init 31 = .ok (.putfield 21, 3) := by decide +kernel
theorem dX2_init_34 : decode cX2_init 34 = .ok (.aload_n 0, 1) := by decide +kernel
theorem dX2_init_35 : decode cX2_init 35 = .ok (.bipush 20, 2) := by decide +kernel
theorem dX2_init_37 : decode cX2_init 37 = .ok (.putfield 25, 3) := by decide +kernel
theorem dX2_init_40 : decode cX2_init 40 = .ok (.aload_n 0, 1) := by decide +kernel
theorem dX2_init_41 : decode cX2_init 41 = .ok (.iconst 0, 1) := by decide +kernel
theorem dX2_init_42 : decode cX2_init 42 = .ok (.putfield 28, 3) := by decide +kernel
theorem dX2_init_45 : decode cX2_init 45 = .ok (.aload_n 0, 1) := by decide +kernel
theorem dX2_init_46 : decode cX2_init 46 = .ok (.getfield 15, 3) := by decide +kernel
theorem dX2_init_49 : decode cX2_init 49 = .ok (.bipush 10, 2) := by decide +kernel
theorem dX2_init_51 : decode cX2_init 51 = .ok (.invokestatic 31, 3) := by decide +kernel
theorem dX2_init_54 : decode cX2_init 54 = .ok (.return_, 1) := by decide +kernel
theorem dX2_setTo_0 : decode cX2_setTo 0 = .ok (.aload_n 1, 1) := by decide +kernel
theorem dX2_setTo_1 : decode cX2_setTo 1 = .ok (.getfield 9, 3) := by decide +kernel
theorem dX2_setTo_4 : decode cX2_setTo 4 = .ok (.iconst 0, 1) := by decide +kernel
theorem dX2_setTo_5 : decode cX2_setTo 5 = .ok (.aload_n 0, 1) := by decide +kernel
theorem dX2_setTo_6 : decode cX2_setTo 6 = .ok (.getfield 9, 3) := by decide +kernel
theorem dX2_setTo_9 : decode cX2_setTo 9 = .ok (.iconst 0, 1) := by decide +kernel
theorem dX2_setTo_10 : decode cX2_setTo 10 = .ok (.bipush 16, 2) := by decide +kernel
theorem dX2_setTo_12 : decode cX2_setTo 12 = .ok (.invokestatic 37, 3) := by decide +kernel
theorem dX2_setTo_15 : decode cX2_setTo 15 = .ok (.aload_n 1, 1) := by decide +kernel
theorem dX2_setTo_16 : decode cX2_setTo 16 = .ok (.getfield 15, 3) := by decide +kernel
theorem dX2_setTo_19 : decode cX2_setTo 19 = .ok (.iconst 0, 1) := by decide +kernel
theorem dX2_setTo_20 : decode cX2_setTo 20 = .ok (.aload_n 0, 1) := by decide +kernel
theorem dX2_setTo_21 : decode cX2_setTo 21 = .ok (.getfield 15, 3) := by decide +kernel
theorem dX2_setTo_24 : decode cX2_setTo 24 = .ok (.iconst 0, 1) := by decide +kernel
theorem dX2_setTo_25 : decode cX2_setTo 25 = .ok (.bipush 16, 2) := by decide +kernel
theorem dX2_setTo_27 : decode cX2_setTo 27 = .ok (.invokestatic 37, 3) := by decide +kernel
theorem dX2_setTo_30 : decode cX2_setTo 30 = .ok (.aload_n 1, 1) := by decide +kernel
theorem dX2_setTo_31 : decode cX2_setTo 31 = .ok (.getfield 18, 3) := by decide +kernel
theorem dX2_setTo_34 : decode cX2_setTo 34 = .ok (.iconst 0, 1) := by decide +kernel
theorem dX2_setTo_35 : decode cX2_setTo 35 = .ok (.aload_n 0, 1) := by decide +kernel
theorem dX2_setTo_36 : decode cX2_setTo 36 = .ok (.getfield 18, 3) := by decide +kernel
theorem dX2_setTo_39 : decode cX2_setTo 39 = .ok (.iconst 0, 1) := by decide +kernel
theorem dX2_setTo_40 : decode cX2_setTo 40 = .ok (.bipush 16, 2) := by decide +kernel
theorem dX2_setTo_42 : decode cX2_setTo 42 = .ok (.invokestatic 37, 3) := by decide +kernel
theorem dX2_setTo_45 : decode cX2_setTo 45 = .ok (.aload_n 0, 1) := by decide +kernel
theorem dX2_setTo_46 : decode cX2_setTo 46 = .ok (.aload_n 1, 1) := by decide +kernel
theorem dX2_setTo_47 : decode cX2_setTo 47 = .ok (.getfield 21, 3) := by decide +kernel
theorem dX2_setTo_50 : decode cX2_setTo 50 = .ok (.putfield 21, 3) := by decide +kernel
theorem dX2_setTo_53 : decode cX2_setTo 53 = .ok (.aload_n 0, 1) := by decide +kernel
theorem dX2_setTo_54 : decode cX2_setTo 54 = .ok (.aload_n 1, 1) := by decide +kernel
theorem dX2_setTo_55 : decode cX2_setTo 55 = .ok (.getfield 25, 3) := by decide +kernel
theorem dX2_setTo_58 : decode cX2_setTo 58 = .ok (.putfield 25, 3) := by decide +kernel
theorem dX2_setTo_61 : decode cX2_setTo 61 = .ok (.aload_n 0, 1) := by decide +kernel
theorem dX2_setTo_62 : decode cX2_setTo 62 = .ok (.aload_n 1, 1) := by decide +kernel
theorem dX2_setTo_63 : decode cX2_setTo 63 = .ok (.getfield 28, 3) := by decide +kernel
theorem dX2_setTo_66 : decode cX2_setTo 66 = .ok (.putfield 28, 3) := by decide +kernel
theorem dX2_setTo_69 : decode cX2_setTo 69 = .ok (.return_, 1) := by decide +kernel
theorem dX2_windOn_0 : decode cX2_windOn 0 = .ok (.iload_n 1, 1) := by decide +kernel
theorem dX2_windOn_1 : decode cX2_windOn 1 = .ok (.invokestatic 43, 3) := by decide +kernel
theorem dX2_windOn_4 : decode cX2_windOn 4 = .ok (.ifCond .ne 5, 3) := by decide +kernel
theorem dX2_windOn_7 : decode cX2_windOn 7 = .ok (.iconst 0, 1) := by decide +kernel
theorem dX2_windOn_8 : decode cX2_windOn 8 = .ok (.ireturn, 1) := by decide +kernel
theorem dX2_windOn_9 : decode cX2_windOn 9 = .ok (.aload_n 0, 1) := by decide +kernel
theorem dX2_windOn_10 : decode cX2_windOn 10 = .ok (.getfield 15, 3) := by decide +kernel
theorem dX2_windOn_13 : decode cX2_windOn 13 = .ok (.iload_n 1, 1) := by decide +kernel
theorem dX2_windOn_14 : decode cX2_windOn 14 = .ok (.iaload, 1) := by decide +kernel
theorem dX2_windOn_15 : decode cX2_windOn 15 = .ok (.istore_n 2, 1) := by decide +kernel
theorem dX2_windOn_16 : decode cX2_windOn 16 = .ok (.aload_n 0, 1) := by decide +kernel
theorem dX2_windOn_17 : decode cX2_windOn 17 = .ok (.getfield 28, 3) := by decide +kernel
theorem dX2_windOn_20 : decode cX2_windOn 20 = .ok (.iconst 3, 1) := by decide +kernel
theorem dX2_windOn_21 : decode cX2_windOn 21 = .ok (.irem, 1) := by decide +kernel
theorem dX2_windOn_22 : decode cX2_windOn 22 = .ok (.iconst 2, 1) := by decide +kernel
theorem dX2_windOn_23 : decode cX2_windOn 23 = .ok (.if_icmp .ne 10, 3) := by decide +kernel
theorem dX2_windOn_26 : decode cX2_windOn 26 = .ok (.iload_n 2, 1) := by decide +kernel
theorem dX2_windOn_27 : decode cX2_windOn 27 = .ok (.aload_n 0, 1) := by decide +kernel
theorem dX2_windOn_28 : decode cX2_windOn 28 = .ok (.getfield 25, 3) := by decide +kernel
theorem dX2_windOn_31 : decode cX2_windOn 31 = .ok (.iadd, 1) := by decide +kernel
theorem dX2_windOn_32 : decode cX2_windOn 32 = .ok (.istore_n 2, 1) := by decide +kernel
theorem dX2_windOn_33 : decode cX2_windOn 33 = .ok (.aload_n 0, 1) := by decide +kernel
theorem dX2_windOn_34 : decode cX2_windOn 34 = .ok (.getfield 18, 3) := by decide +kernel
theorem dX2_windOn_37 : decode cX2_windOn 37 = .ok (.iload_n 1, 1) := by decide +kernel
theorem dX2_windOn_38 : decode cX2_windOn 38 = .ok (.iaload, 1) := by decide +kernel
theorem dX2_windOn_39 : decode cX2_windOn 39 = .ok (.iconst 1, 1) := by decide +kernel
theorem dX2_windOn_40 : decode cX2_windOn 40 = .ok (.if_icmp .ne 9, 3) := by decide +kernel
theorem dX2_windOn_43 : decode cX2_windOn 43 = .ok (.iload_n 2, 1) := by decide +kernel
theorem dX2_windOn_44 : decode cX2_windOn 44 = .ok (.iconst 2, 1) := by decide +kernel
theorem dX2_windOn_45 : decode cX2_windOn 45 = .ok (.idiv, 1) := by decide +kernel
theorem dX2_windOn_46 : decode cX2_windOn 46 = .ok (.goto 4, 3) := by decide +kernel
theorem dX2_windOn_49 : decode cX2_windOn 49 = .ok (.iload_n 2, 1) := by decide +kernel
theorem dX2_windOn_50 : decode cX2_windOn 50 = .ok (.ireturn, 1) := by decide +kernel
theorem dX2_roofs_0 : decode cX2_roofs 0 = .ok (.iconst 0, 1) := by decide +kernel
theorem dX2_roofs_1 : decode cX2_roofs 1 = .ok (.istore_n 1, 1) := by decide +kernel
theorem dX2_roofs_2 : decode cX2_roofs 2 = .ok (.iconst 0, 1) := by decide +kernel
theorem dX2_roofs_3 : decode cX2_roofs 3 = .ok (.istore_n 2, 1) := by decide +kernel
theorem dX2_roofs_4 : decode cX2_roofs 4 = .ok (.iload_n 2, 1) := by decide +kernel
theorem dX2_roofs_5 : decode cX2_roofs 5 = .ok (.bipush 16, 2) := by decide +kernel
theorem dX2_roofs_7 : decode cX2_roofs 7 = .ok (.if_icmp .ge 25, 3) := by decide +kernel
theorem dX2_roofs_10 : decode cX2_roofs 10 = .ok (.aload_n 0, 1) := by decide +kernel
theorem dX2_roofs_11 : decode cX2_roofs 11 = .ok (.getfield 18, 3) := by decide +kernel
theorem dX2_roofs_14 : decode cX2_roofs 14 = .ok (.iload_n 2, 1) := by decide +kernel
theorem dX2_roofs_15 : decode cX2_roofs 15 = .ok (.iaload, 1) := by decide +kernel
theorem dX2_roofs_16 : decode cX2_roofs 16 = .ok (.iconst 1, 1) := by decide +kernel
theorem dX2_roofs_17 : decode cX2_roofs 17 = .ok (.if_icmp .ne 9, 3) := by decide +kernel
theorem dX2_roofs_20 : decode cX2_roofs 20 = .ok (.iload_n 1, 1) := by decide +kernel
theorem dX2_roofs_21 : decode cX2_roofs 21 = .ok (.iconst 1, 1) := by decide +kernel
theorem dX2_roofs_22 : decode cX2_roofs 22 = .ok (.iload_n 2, 1) := by decide +kernel
theorem dX2_roofs_23 : decode cX2_roofs 23 = .ok (.ishl, 1) := by decide +kernel
theorem dX2_roofs_24 : decode cX2_roofs 24 = .ok (.ior, 1) := by decide +kernel
theorem dX2_roofs_25 : decode cX2_roofs 25 = .ok (.istore_n 1, 1) := by decide +kernel
theorem dX2_roofs_26 : decode cX2_roofs 26 = .ok (.iinc 2 1, 3) := by decide +kernel
theorem dX2_roofs_29 : decode cX2_roofs 29 = .ok (.goto (-25), 3) := by decide +kernel
theorem dX2_roofs_32 : decode cX2_roofs 32 = .ok (.iload_n 1, 1) := by decide +kernel
theorem dX2_roofs_33 : decode cX2_roofs 33 = .ok (.ireturn, 1) := by decide +kernel
theorem dX2_nextTick_0 : decode cX2_nextTick 0 = .ok (.aload_n 0, 1) := by decide +kernel
theorem dX2_nextTick_1 : decode cX2_nextTick 1 = .ok (.ldc 47, 2) := by decide +kernel
theorem dX2_nextTick_3 : decode cX2_nextTick 3 = .ok (.aload_n 0, 1) := by decide +kernel
theorem dX2_nextTick_4 : decode cX2_nextTick 4 = .ok (.getfield 28, 3) := by decide +kernel
theorem dX2_nextTick_7 : decode cX2_nextTick 7 = .ok (.iload_n 1, 1) := by decide +kernel
theorem dX2_nextTick_8 : decode cX2_nextTick 8 = .ok (.iadd, 1) := by decide +kernel
theorem dX2_nextTick_9 : decode cX2_nextTick 9 = .ok (.invokestatic 48, 3) := by decide +kernel
theorem dX2_nextTick_12 : decode cX2_nextTick 12 = .ok (.putfield 28, 3) := by decide +kernel
theorem dX2_nextTick_15 : decode cX2_nextTick 15 = .ok (.return_, 1) := by decide +kernel
theorem dX3_init_0 : decode cX3_init 0 = .ok (.aload_n 0, 1) := by decide +kernel
theorem dX3_init_1 : decode cX3_init 1 = .ok (.invokespecial 3, 3) := by decide +kernel
theorem dX3_init_4 : decode cX3_init 4 = .ok (.aload_n 0, 1) := by decide +kernel
theorem dX3_init_5 : decode cX3_init 5 = .ok (.bipush 120, 2) := by decide +kernel
theorem dX3_init_7 : decode cX3_init 7 = .ok (.newarray .int, 2) := by decide +kernel
theorem dX3_init_9 : decode cX3_init 9 = .ok (.putfield 9, 3) := by decide +kernel
theorem dX3_init_12 : decode cX3_init 12 = .ok (.aload_n 0, 1) := by decide +kernel
theorem dX3_init_13 : decode cX3_init 13 = .ok (.iconst 0, 1) := by decide +kernel
theorem dX3_init_14 : decode cX3_init 14 = .ok (.putfield 15, 3) := by decide +kernel
theorem dX3_init_17 : decode cX3_init 17 = .ok (.return_, 1) := by decide +kernel
theorem dX3_append_0 : decode cX3_append 0 = .ok (.iload_n 2, 1) := by decide +kernel
theorem dX3_append_1 : decode cX3_append 1 = .ok (.iconst 1, 1) := by decide +kernel
theorem dX3_append_2 : decode cX3_append 2 = .ok (.isub, 1) := by decide +kernel
theorem dX3_append_3 : decode cX3_append 3 = .ok (.istore_n 3, 1) := by decide +kernel
theorem dX3_append_4 : decode cX3_append 4 = .ok (.iload_n 3, 1) := by decide +kernel
theorem dX3_append_5 : decode cX3_append 5 = .ok (.ifCond .lt 47, 3) := by decide +kernel
theorem dX3_append_8 : decode cX3_append 8 = .ok (.aload_n 0, 1) := by decide +kernel
theorem dX3_append_9 : decode cX3_append 9 = .ok (.getfield 15, 3) := by decide +kernel
theorem dX3_append_12 : decode cX3_append 12 = .ok (.bipush 120, 2) := by decide +kernel
theorem dX3_append_14 : decode cX3_append 14 = .ok (.if_icmp .ge 38, 3) := by decide +kernel
theorem dX3_append_17 : decode cX3_append 17 = .ok (.aload_n 0, 1) := by decide +kernel
theorem dX3_append_18 : decode cX3_append 18 = .ok (.getfield 9, 3) := by decide +kernel
theorem dX3_append_21 : decode cX3_append 21 = .ok (.aload_n 0, 1) := by decide +kernel
theorem dX3_append_22 : decode cX3_append 22 = .ok (.getfield 15, 3) := by decide +kernel
theorem dX3_append_25 : decode cX3_append 25 = .ok (.iload_n 1, 1) := by decide +kernel
theorem dX3_append_26 : decode cX3_append 26 = .ok (.bipush 8, 2) := by decide +kernel
theorem dX3_append_28 : decode cX3_append 28 = .ok (.iload_n 3, 1) := by decide +kernel
theorem dX3_append_29 : decode cX3_append 29 = .ok (.imul, 1) := by decide +kernel
theorem dX3_append_30 : decode cX3_append 30 = .ok (.iushr, 1) := by decide +kernel
theorem dX3_append_31 : decode cX3_append 31 = .ok (.sipush 255, 3) := by decide +kernel
theorem dX3_append_34 : decode cX3_append 34 = .ok (.iand, 1) := by decide +kernel
theorem dX3_append_35 : decode cX3_append 35 = .ok (.iastore, 1) := by decide +kernel
theorem dX3_append_36 : decode cX3_append 36 = .ok (.aload_n 0, 1) := by decide +kernel
theorem dX3_append_37 : decode cX3_append 37 = .ok (.dup, 1) := by decide +kernel
theorem dX3_append_38 : decode cX3_append 38 = .ok (.getfield 15, 3) := by decide +kernel
theorem dX3_append_41 : decode cX3_append 41 = .ok (.iconst 1, 1) := by decide +kernel
theorem dX3_append_42 : decode cX3_append 42 = .ok (.iadd, 1) := by decide +kernel
theorem dX3_append_43 : decode cX3_append 43 = .ok (.putfield 15, 3) := by decide +kernel
theorem dX3_append_46 : decode cX3_append 46 = .ok (.iinc 3 (-1), 3) := by decide +kernel
theorem dX3_append_49 : decode cX3_append 49 = .ok (.goto (-45), 3) := by decide +kernel
theorem dX3_append_52 : decode cX3_append 52 = .ok (.return_, 1) := by decide +kernel
theorem dX3_byteAt_0 : decode cX3_byteAt 0 = .ok (.iload_n 1, 1) := by decide +kernel
theorem dX3_byteAt_1 : decode cX3_byteAt 1 = .ok (.ifCond .lt 20, 3) := by decide +kernel
theorem dX3_byteAt_4 : decode cX3_byteAt 4 = .ok (.iload_n 1, 1) := by decide +kernel
theorem dX3_byteAt_5 : decode cX3_byteAt 5 = .ok (.aload_n 0, 1) := by decide +kernel
theorem dX3_byteAt_6 : decode cX3_byteAt 6 = .ok (.getfield 15, 3) := by decide +kernel
theorem dX3_byteAt_9 : decode cX3_byteAt 9 = .ok (.if_icmp .ge 12, 3) := by decide +kernel
theorem dX3_byteAt_12 : decode cX3_byteAt 12 = .ok (.aload_n 0, 1) := by decide +kernel
theorem dX3_byteAt_13 : decode cX3_byteAt 13 = .ok (.getfield 9, 3) := by decide +kernel
theorem dX3_byteAt_16 : decode cX3_byteAt 16 = .ok (.iload_n 1, 1) := by decide +kernel
theorem dX3_byteAt_17 : decode cX3_byteAt 17 = .ok (.iaload, 1) := by decide +kernel
theorem dX3_byteAt_18 : decode cX3_byteAt 18 = .ok (.goto 4, 3) := by decide +kernel
theorem dX3_byteAt_21 : decode cX3_byteAt 21 = .ok (.iconst (-1), 1) := by decide +kernel
theorem dX3_byteAt_22 : decode cX3_byteAt 22 = .ok (.ireturn, 1) := by decide +kernel
theorem dX4_init_0 : decode cX4_init 0 = .ok (.aload_n 0, 1) := by decide +kernel
theorem dX4_init_1 : decode cX4_init 1 = .ok (.invokespecial 3, 3) := by decide +kernel
theorem dX4_init_4 : decode cX4_init 4 = .ok (.return_, 1) := by decide +kernel
theorem dX4_beNew_0 : decode cX4_beNew 0 = .ok (.aload_n 0, 1) := by decide +kernel
theorem dX4_beNew_1 : decode cX4_beNew 1 = .ok (.iload_n 1, 1) := by decide +kernel
theorem dX4_beNew_2 : decode cX4_beNew 2 = .ok (.putfield 9, 3) := by decide +kernel
theorem dX4_beNew_5 : decode cX4_beNew 5 = .ok (.aload_n 0, 1) := by decide +kernel
theorem dX4_beNew_6 : decode cX4_beNew 6 = .ok (.iconst 0, 1) := by decide +kernel
theorem dX4_beNew_7 : decode cX4_beNew 7 = .ok (.putfield 15, 3) := by decide +kernel
theorem dX4_beNew_10 : decode cX4_beNew 10 = .ok (.aload_n 0, 1) := by decide +kernel
theorem dX4_beNew_11 : decode cX4_beNew 11 = .ok (.iconst 0, 1) := by decide +kernel
theorem dX4_beNew_12 : decode cX4_beNew 12 = .ok (.putfield 18, 3) := by decide +kernel
theorem dX4_beNew_15 : decode cX4_beNew 15 = .ok (.aload_n 0, 1) := by decide +kernel
theorem dX4_beNew_16 : decode cX4_beNew 16 = .ok (.iconst 0, 1) := by decide +kernel
theorem dX4_beNew_17 : decode cX4_beNew 17 = .ok (.putfield 21, 3) := by decide +kernel
theorem dX4_beNew_20 : decode cX4_beNew 20 = .ok (.aload_n 0, 1) := by decide +kernel
theorem dX4_beNew_21 : decode cX4_beNew 21 = .ok (.bipush 8, 2) := by decide +kernel
theorem dX4_beNew_23 : decode cX4_beNew 23 = .ok (.putfield 24, 3) := by decide +kernel
theorem dX4_beNew_26 : decode cX4_beNew 26 = .ok (.aload_n 0, 1) := by decide +kernel
theorem dX4_beNew_27 : decode cX4_beNew 27 = .ok (.iconst 0, 1) := by decide +kernel
theorem dX4_beNew_28 : decode cX4_beNew 28 = .ok (.putfield 27, 3) := by decide +kernel
theorem dX4_beNew_31 : decode cX4_beNew 31 = .ok (.aload_n 0, 1) := by decide +kernel
theorem dX4_beNew_32 : decode cX4_beNew 32 = .ok (.iconst 0, 1) := by decide +kernel
theorem dX4_beNew_33 : decode cX4_beNew 33 = .ok (.putfield 30, 3) := by decide +kernel
theorem dX4_beNew_36 : decode cX4_beNew 36 = .ok (.aload_n 0, 1) := by decide +kernel
theorem dX4_beNew_37 : decode cX4_beNew 37 = .ok (.iconst 0, 1) := by decide +kernel
theorem dX4_beNew_38 : decode cX4_beNew 38 = .ok (.putfield 33, 3) := by decide +kernel
theorem dX4_beNew_41 : decode cX4_beNew 41 = .ok (.return_, 1) := by decide +kernel
theorem dX4_setTo_0 : decode cX4_setTo 0 = .ok (.aload_n 0, 1) := by decide +kernel
theorem dX4_setTo_1 : decode cX4_setTo 1 = .ok (.aload_n 1, 1) := by decide +kernel
theorem dX4_setTo_2 : decode cX4_setTo 2 = .ok (.getfield 9, 3) := by decide +kernel
theorem dX4_setTo_5 : decode cX4_setTo 5 = .ok (.putfield 9, 3) := by decide +kernel
theorem dX4_setTo_8 : decode cX4_setTo 8 = .ok (.aload_n 0, 1) := by decide +kernel
theorem dX4_setTo_9 : decode cX4_setTo 9 = .ok (.aload_n 1, 1) := by decide +kernel
theorem dX4_setTo_10 : decode cX4_setTo 10 = .ok (.getfield 15, 3) := by decide +kernel
theorem dX4_setTo_13 : decode cX4_setTo 13 = .ok (.putfield 15, 3) := by decide +kernel
theorem dX4_setTo_16 : decode cX4_setTo 16 = .ok (.aload_n 0, 1) := by decide +kernel
theorem dX4_setTo_17 : decode cX4_setTo 17 = .ok (.aload_n 1, 1) := by decide +kernel
theorem dX4_setTo_18 : decode cX4_setTo 18 = .ok (.getfield 18, 3) := by decide +kernel
theorem dX4_setTo_21 : decode cX4_setTo 21 = .ok (.putfield 18, 3) := by decide +kernel
theorem dX4_setTo_24 : decode cX4_setTo 24 = .ok (.aload_n 0, 1) := by decide +kernel
theorem dX4_setTo_25 : decode cX4_setTo 25 = .ok (.aload_n 1, 1) := by decide +kernel
theorem dX4_setTo_26 : decode cX4_setTo 26 = .ok (.getfield 21, 3) := by decide +kernel
theorem dX4_setTo_29 : decode cX4_setTo 29 = .ok (.putfield 21, 3) := by decide +kernel
theorem dX4_setTo_32 : decode cX4_setTo 32 = .ok (.aload_n 0, 1) := by decide +kernel
theorem dX4_setTo_33 : decode cX4_setTo 33 = .ok (.aload_n 1, 1) := by decide +kernel
theorem dX4_setTo_34 : decode cX4_setTo 34 = .ok (.getfield 24, 3) := by decide +kernel
theorem dX4_setTo_37 : decode cX4_setTo 37 = .ok (.putfield 24, 3) := by decide +kernel
theorem dX4_setTo_40 : decode cX4_setTo 40 = .ok (.aload_n 0, 1) := by decide +kernel
theorem dX4_setTo_41 : decode cX4_setTo 41 = .ok (.aload_n 1, 1) := by decide +kernel
theorem dX4_setTo_42 : decode cX4_setTo 42 = .ok (.getfield 27, 3) := by decide +kernel
theorem dX4_setTo_45 : decode cX4_setTo 45 = .ok (.putfield 27, 3) := by decide +kernel
theorem dX4_setTo_48 : decode cX4_setTo 48 = .ok (.aload_n 0, 1) := by decide +kernel
theorem dX4_setTo_49 : decode cX4_setTo 49 = .ok (.aload_n 1, 1) := by decide +kernel
theorem dX4_setTo_50 : decode cX4_setTo 50 = .ok (.getfield 30, 3) := by decide +kernel
theorem dX4_setTo_53 : decode cX4_setTo 53 = .ok (.putfield 30, 3) := by decide +kernel
theorem dX4_setTo_56 : decode cX4_setTo 56 = .ok (.aload_n 0, 1) := by decide +kernel
theorem dX4_setTo_57 : decode cX4_setTo 57 = .ok (.aload_n 1, 1) := by decide +kernel
theorem dX4_setTo_58 : decode cX4_setTo 58 = .ok (.getfield 33, 3) := by decide +kernel
theorem dX4_setTo_61 : decode cX4_setTo 61 = .ok (.putfield 33, 3) := by decide +kernel
theorem dX4_setTo_64 : decode cX4_setTo 64 = .ok (.return_, 1) := by decide +kernel
theorem dX4_mark_0 : decode cX4_mark 0 = .ok (.iload_n 1, 1) := by decide +kernel
theorem dX4_mark_1 : decode cX4_mark 1 = .ok (.tableswitch 78 0 6 #[43, 48, 53, 58, 63, 68, 73], 43) := by decide +kernel
theorem dX4_mark_44 : decode cX4_mark 44 = .ok (.aload_n 0, 1) := by decide +kernel
theorem dX4_mark_45 : decode cX4_mark 45 = .ok (.getfield 9, 3) := by decide +kernel
theorem dX4_mark_48 : decode cX4_mark 48 = .ok (.ireturn, 1) := by decide +kernel
theorem dX4_mark_49 : decode cX4_mark 49 = .ok (.aload_n 0, 1) := by decide +kernel
theorem dX4_mark_50 : decode cX4_mark 50 = .ok (.getfield 15, 3) := by decide +kernel
theorem dX4_mark_53 : decode cX4_mark 53 = .ok (.ireturn, 1) := by decide +kernel
theorem dX4_mark_54 : decode cX4_mark 54 = .ok (.aload_n 0, 1) := by decide +kernel
theorem dX4_mark_55 : decode cX4_mark 55 = .ok (.getfield 18, 3) := by decide +kernel
theorem dX4_mark_58 : decode cX4_mark 58 = .ok (.ireturn, 1) := by decide +kernel
theorem dX4_mark_59 : decode cX4_mark 59 = .ok (.aload_n 0, 1) := by decide +kernel
theorem dX4_mark_60 : decode cX4_mark 60 = .ok (.getfield 21, 3) := by decide +kernel
theorem dX4_mark_63 : decode cX4_mark 63 = .ok (.ireturn, 1) := by decide +kernel
theorem dX4_mark_64 : decode cX4_mark 64 = .ok (.aload_n 0, 1) := by decide +kernel
theorem dX4_mark_65 : decode cX4_mark 65 = .ok (.getfield 24, 3) := by decide +kernel
theorem dX4_mark_68 : decode cX4_mark 68 = .ok (.ireturn, 1) := by decide +kernel
theorem dX4_mark_69 : decode cX4_mark 69 = .ok (.aload_n 0, 1) := by decide +kernel
theorem dX4_mark_70 : decode cX4_mark 70 = .ok (.getfield 27, 3) := by decide +kernel
theorem dX4_mark_73 : decode cX4_mark 73 = .ok (.ireturn, 1) := by decide +kernel
theorem dX4_mark_74 : decode cX4_mark 74 = .ok (.aload_n 0, 1) := by decide +kernel
theorem dX4_mark_75 : decode cX4_mark 75 = .ok (.getfield 30, 3) := by decide +kernel
theorem dX4_mark_78 : decode cX4_mark 78 = .ok (.ireturn, 1) := by decide +kernel
theorem dX4_mark_79 : decode cX4_mark 79 = .ok (.aload_n 0, 1) := by decide +kernel
theorem dX4_mark_80 : decode cX4_mark 80 = .ok (.getfield 33, 3) := by decide +kernel
theorem dX4_mark_83 : decode cX4_mark 83 = .ok (.ireturn, 1) := by decide +kernel
theorem dX4_setMark_0 : decode cX4_setMark 0 = .ok (.iload_n 1, 1) := by decide +kernel
theorem dX4_setMark_1 : decode cX4_setMark 1 = .ok (.tableswitch 99 0 6 #[43, 51, 59, 67, 75, 83, 91], 43) := by decide +kernel
theorem dX4_setMark_44 : decode cX4_setMark 44 = .ok (.aload_n 0, 1) := by decide +kernel
theorem dX4_setMark_45 : decode cX4_setMark 45 = .ok (.iload_n 2, 1) := by decide +kernel
theorem dX4_setMark_46 : decode cX4_setMark 46 = .ok (.putfield 9, 3) := by decide +kernel
theorem dX4_setMark_49 : decode cX4_setMark 49 = .ok (.goto 56, 3) := by decide +kernel
theorem dX4_setMark_52 : decode cX4_setMark 52 = .ok (.aload_n 0, 1) := by decide +kernel
theorem dX4_setMark_53 : decode cX4_setMark 53 = .ok (.iload_n 2, 1) := by decide +kernel
theorem dX4_setMark_54 : decode cX4_setMark 54 = .ok (.putfield 15, 3) := by decide +kernel
theorem dX4_setMark_57 : decode cX4_setMark 57 = .ok (.goto 48, 3) := by decide +kernel
theorem dX4_setMark_60 : decode cX4_setMark 60 = .ok (.aload_n 0, 1) := by decide +kernel
theorem dX4_setMark_61 : decode cX4_setMark 61 = .ok (.iload_n 2, 1) := by decide +kernel
theorem dX4_setMark_62 : decode cX4_setMark 62 = .ok (.putfield 18, 3) := by decide +kernel
theorem dX4_setMark_65 : decode cX4_setMark 65 = .ok (.goto 40, 3) := by decide +kernel
theorem dX4_setMark_68 : decode cX4_setMark 68 = .ok (.aload_n 0, 1) := by decide +kernel
theorem dX4_setMark_69 : decode cX4_setMark 69 = .ok (.iload_n 2, 1) := by decide +kernel
theorem dX4_setMark_70 : decode cX4_setMark 70 = .ok (.putfield 21, 3) := by decide +kernel
theorem dX4_setMark_73 : decode cX4_setMark 73 = .ok (.goto 32, 3) := by decide +kernel
theorem dX4_setMark_76 : decode cX4_setMark 76 = .ok (.aload_n 0, 1) := by decide +kernel
theorem dX4_setMark_77 : decode cX4_setMark 77 = .ok (.iload_n 2, 1) := by decide +kernel
theorem dX4_setMark_78 : decode cX4_setMark 78 = .ok (.putfield 24, 3) := by decide +kernel
theorem dX4_setMark_81 : decode cX4_setMark 81 = .ok (.goto 24, 3) := by decide +kernel
theorem dX4_setMark_84 : decode cX4_setMark 84 = .ok (.aload_n 0, 1) := by decide +kernel
theorem dX4_setMark_85 : decode cX4_setMark 85 = .ok (.iload_n 2, 1) := by decide +kernel
theorem dX4_setMark_86 : decode cX4_setMark 86 = .ok (.putfield 27, 3) := by decide +kernel
theorem dX4_setMark_89 : decode cX4_setMark 89 = .ok (.goto 16, 3) := by decide +kernel
theorem dX4_setMark_92 : decode cX4_setMark 92 = .ok (.aload_n 0, 1) := by decide +kernel
theorem dX4_setMark_93 : decode cX4_setMark 93 = .ok (.iload_n 2, 1) := by decide +kernel
theorem dX4_setMark_94 : decode cX4_setMark 94 = .ok (.putfield 30, 3) := by decide +kernel
theorem dX4_setMark_97 : decode cX4_setMark 97 = .ok (.goto 8, 3) := by decide +kernel
theorem dX4_setMark_100 : decode cX4_setMark 100 = .ok (.aload_n 0, 1) := by decide +kernel
theorem dX4_setMark_101 : decode cX4_setMark 101 = .ok (.iload_n 2, 1) := by decide +kernel
theorem dX4_setMark_102 : decode cX4_setMark 102 = .ok (.putfield 33, 3) := by decide +kernel
theorem dX4_setMark_105 : decode cX4_setMark 105 = .ok (.return_, 1) := by decide +kernel
theorem dX4_stiff_0 : decode cX4_stiff 0 = .ok (.iconst 5, 1) := by decide +kernel
theorem dX4_stiff_1 : decode cX4_stiff 1 = .ok (.aload_n 0, 1) := by decide +kernel
theorem dX4_stiff_2 : decode cX4_stiff 2 = .ok (.getfield 24, 3) := by decide +kernel
theorem dX4_stiff_5 : decode cX4_stiff 5 = .ok (.imul, 1) := by decide +kernel
theorem dX4_stiff_6 : decode cX4_stiff 6 = .ok (.istore_n 1, 1) := by decide +kernel
theorem dX4_stiff_7 : decode cX4_stiff 7 = .ok (.iconst 0, 1) := by decide +kernel
theorem dX4_stiff_8 : decode cX4_stiff 8 = .ok (.iload_n 1, 1) := by decide +kernel
theorem dX4_stiff_9 : decode cX4_stiff 9 = .ok (.bipush 10, 2) := by decide +kernel
theorem dX4_stiff_11 : decode cX4_stiff 11 = .ok (.isub, 1) := by decide +kernel
theorem dX4_stiff_12 : decode cX4_stiff 12 = .ok (.invokestatic 36, 3) := by decide +kernel
theorem dX4_stiff_15 : decode cX4_stiff 15 = .ok (.istore_n 2, 1) := by decide +kernel
theorem dX4_stiff_16 : decode cX4_stiff 16 = .ok (.iload_n 1, 1) := by decide +kernel
theorem dX4_stiff_17 : decode cX4_stiff 17 = .ok (.bipush 15, 2) := by decide +kernel
theorem dX4_stiff_19 : decode cX4_stiff 19 = .ok (.iadd, 1) := by decide +kernel
theorem dX4_stiff_20 : decode cX4_stiff 20 = .ok (.istore_n 3, 1) := by decide +kernel
theorem dX4_stiff_21 : decode cX4_stiff 21 = .ok (.iconst 0, 1) := by decide +kernel
theorem dX4_stiff_22 : decode cX4_stiff 22 = .ok (.iload_n 3, 1) := by decide +kernel
theorem dX4_stiff_23 : decode cX4_stiff 23 = .ok (.aload_n 0, 1) := by decide +kernel
theorem dX4_stiff_24 : decode cX4_stiff 24 = .ok (.getfield 33, 3) := by decide +kernel
theorem dX4_stiff_27 : decode cX4_stiff 27 = .ok (.bipush 100, 2) := by decide +kernel
theorem dX4_stiff_29 : decode cX4_stiff 29 = .ok (.idiv, 1) := by decide +kernel
theorem dX4_stiff_30 : decode cX4_stiff 30 = .ok (.isub, 1) := by decide +kernel
theorem dX4_stiff_31 : decode cX4_stiff 31 = .ok (.invokestatic 36, 3) := by decide +kernel
theorem dX4_stiff_34 : decode cX4_stiff 34 = .ok (.istore 4, 2) := by decide +kernel
theorem dX4_stiff_36 : decode cX4_stiff 36 = .ok (.aload_n 0, 1) := by decide +kernel
theorem dX4_stiff_37 : decode cX4_stiff 37 = .ok (.getfield 9, 3) := by decide +kernel
theorem dX4_stiff_40 : decode cX4_stiff 40 = .ok (.tableswitch 58 1 6 #[40, 46, 48, 51, 56, 42], 40) := by decide +kernel
theorem dX4_stiff_80 : decode cX4_stiff 80 = .ok (.iload_n 2, 1) := by decide +kernel
theorem dX4_stiff_81 : decode cX4_stiff 81 = .ok (.ireturn, 1) := by decide +kernel
theorem dX4_stiff_82 : decode cX4_stiff 82 = .ok (.iload_n 2, 1) := by decide +kernel
theorem dX4_stiff_83 : decode cX4_stiff 83 = .ok (.iconst 2, 1) := by decide +kernel
theorem dX4_stiff_84 : decode cX4_stiff 84 = .ok (.idiv, 1) := by decide +kernel
theorem dX4_stiff_85 : decode cX4_stiff 85 = .ok (.ireturn, 1) := by decide +kernel
theorem dX4_stiff_86 : decode cX4_stiff 86 = .ok (.iload_n 3, 1) := by decide +kernel
theorem dX4_stiff_87 : decode cX4_stiff 87 = .ok (.ireturn, 1) := by decide +kernel
theorem dX4_stiff_88 : decode cX4_stiff 88 = .ok (.iload 4, 2) := by decide +kernel
theorem dX4_stiff_90 : decode cX4_stiff 90 = .ok (.ireturn, 1) := by decide +kernel
theorem dX4_stiff_91 : decode cX4_stiff 91 = .ok (.iload 4, 2) := by decide +kernel
theorem dX4_stiff_93 : decode cX4_stiff 93 = .ok (.iconst 2, 1) := by decide +kernel
theorem dX4_stiff_94 : decode cX4_stiff 94 = .ok (.idiv, 1) := by decide +kernel
theorem dX4_stiff_95 : decode cX4_stiff 95 = .ok (.ireturn, 1) := by decide +kernel
theorem dX4_stiff_96 : decode cX4_stiff 96 = .ok (.iconst 5, 1) := by decide +kernel
theorem dX4_stiff_97 : decode cX4_stiff 97 = .ok (.ireturn, 1) := by decide +kernel
theorem dX4_stiff_98 : decode cX4_stiff 98 = .ok (.iload_n 1, 1) := by decide +kernel
theorem dX4_stiff_99 : decode cX4_stiff 99 = .ok (.ireturn, 1) := by decide +kernel
theorem dX4_bearable_0 : decode cX4_bearable 0 = .ok (.iload_n 2, 1) := by decide +kernel
theorem dX4_bearable_1 : decode cX4_bearable 1 = .ok (.iload_n 1, 1) := by decide +kernel
theorem dX4_bearable_2 : decode cX4_bearable 2 = .ok (.if_icmp .ne 7, 3) := by decide +kernel
theorem dX4_bearable_5 : decode cX4_bearable 5 = .ok (.iconst 2, 1) := by decide +kernel
theorem dX4_bearable_6 : decode cX4_bearable 6 = .ok (.iload_n 0, 1) := by decide +kernel
theorem dX4_bearable_7 : decode cX4_bearable 7 = .ok (.imul, 1) := by decide +kernel
theorem dX4_bearable_8 : decode cX4_bearable 8 = .ok (.ireturn, 1) := by decide +kernel
theorem dX4_bearable_9 : decode cX4_bearable 9 = .ok (.iload_n 2, 1) := by decide +kernel
theorem dX4_bearable_10 : decode cX4_bearable 10 = .ok (.ifCond .ne 8, 3) := by decide +kernel
theorem dX4_bearable_13 : decode cX4_bearable 13 = .ok (.iload_n 1, 1) := by decide +kernel
theorem dX4_bearable_14 : decode cX4_bearable 14 = .ok (.iconst 1, 1) := by decide +kernel
theorem dX4_bearable_15 : decode cX4_bearable 15 = .ok (.if_icmp .eq 12, 3) := by decide +kernel
theorem dX4_bearable_18 : decode cX4_bearable 18 = .ok (.iload_n 2, 1) := by decide +kernel
theorem dX4_bearable_19 : decode cX4_bearable 19 = .ok (.iconst 1, 1) := by decide +kernel
theorem dX4_bearable_20 : decode cX4_bearable 20 = .ok (.if_icmp .ne 11, 3) := by decide +kernel
theorem dX4_bearable_23 : decode cX4_bearable 23 = .ok (.iload_n 1, 1) := by decide +kernel
theorem dX4_bearable_24 : decode cX4_bearable 24 = .ok (.ifCond .ne 7, 3) := by decide +kernel
theorem dX4_bearable_27 : decode cX4_bearable 27 = .ok (.iconst 1, 1) := by decide +kernel
theorem dX4_bearable_28 : decode cX4_bearable 28 = .ok (.goto 4, 3) := by decide +kernel
theorem dX4_bearable_31 : decode cX4_bearable 31 = .ok (.iconst 0, 1) := by decide +kernel
theorem dX4_bearable_32 : decode cX4_bearable 32 = .ok (.istore_n 3, 1) := by decide +kernel
theorem dX4_bearable_33 : decode cX4_bearable 33 = .ok (.iload_n 3, 1) := by decide +kernel
theorem dX4_bearable_34 : decode cX4_bearable 34 = .ok (.ifCond .eq 9, 3) := by decide +kernel
theorem dX4_bearable_37 : decode cX4_bearable 37 = .ok (.iload_n 0, 1) := by decide +kernel
theorem dX4_bearable_38 : decode cX4_bearable 38 = .ok (.iconst 2, 1) := by decide +kernel
theorem dX4_bearable_39 : decode cX4_bearable 39 = .ok (.idiv, 1) := by decide +kernel
theorem dX4_bearable_40 : decode cX4_bearable 40 = .ok (.goto 4, 3) := by decide +kernel
theorem dX4_bearable_43 : decode cX4_bearable 43 = .ok (.iload_n 0, 1) := by decide +kernel
theorem dX4_bearable_44 : decode cX4_bearable 44 = .ok (.ireturn, 1) := by decide +kernel
theorem dX4_covers_0 : decode cX4_covers 0 = .ok (.aload_n 1, 1) := by decide +kernel
theorem dX4_covers_1 : decode cX4_covers 1 = .ok (.getfield 42, 3) := by decide +kernel
theorem dX4_covers_4 : decode cX4_covers 4 = .ok (.istore_n 2, 1) := by decide +kernel
theorem dX4_covers_5 : decode cX4_covers 5 = .ok (.iload_n 2, 1) := by decide +kernel
theorem dX4_covers_6 : decode cX4_covers 6 = .ok (.iconst 2, 1) := by decide +kernel
theorem dX4_covers_7 : decode cX4_covers 7 = .ok (.idiv, 1) := by decide +kernel
theorem dX4_covers_8 : decode cX4_covers 8 = .ok (.iload_n 2, 1) := by decide +kernel
theorem dX4_covers_9 : decode cX4_covers 9 = .ok (.iconst 4, 1) := by decide +kernel
theorem dX4_covers_10 : decode cX4_covers 10 = .ok (.idiv, 1) := by decide +kernel
theorem dX4_covers_11 : decode cX4_covers 11 = .ok (.iadd, 1) := by decide +kernel
theorem dX4_covers_12 : decode cX4_covers 12 = .ok (.istore_n 3, 1) := by decide +kernel
theorem dX4_covers_13 : decode cX4_covers 13 = .ok (.iconst 0, 1) := by decide +kernel
theorem dX4_covers_14 : decode cX4_covers 14 = .ok (.iload_n 2, 1) := by decide +kernel
theorem dX4_covers_15 : decode cX4_covers 15 = .ok (.iconst 3, 1) := by decide +kernel
theorem dX4_covers_16 : decode cX4_covers 16 = .ok (.idiv, 1) := by decide +kernel
theorem dX4_covers_17 : decode cX4_covers 17 = .ok (.iconst 1, 1) := by decide +kernel
theorem dX4_covers_18 : decode cX4_covers 18 = .ok (.isub, 1) := by decide +kernel
theorem dX4_covers_19 : decode cX4_covers 19 = .ok (.invokestatic 36, 3) := by decide +kernel
theorem dX4_covers_22 : decode cX4_covers 22 = .ok (.istore 4, 2) := by decide +kernel
theorem dX4_covers_24 : decode cX4_covers 24 = .ok (.aload_n 0, 1) := by decide +kernel
theorem dX4_covers_25 : decode cX4_covers 25 = .ok (.getfield 9, 3) := by decide +kernel
theorem dX4_covers_28 : decode cX4_covers 28 = .ok (.tableswitch 92 1 6 #[40, 50, 54, 57, 73, 42], 40) := by decide +kernel
theorem dX4_covers_68 : decode cX4_covers 68 = .ok (.iload_n 3, 1) := by decide +kernel
theorem dX4_covers_69 : decode cX4_covers 69 = .ok (.ireturn, 1) := by decide +kernel
theorem dX4_covers_70 : decode cX4_covers 70 = .ok (.iload_n 2, 1) := by decide +kernel
theorem dX4_covers_71 : decode cX4_covers 71 = .ok (.iload_n 3, 1) := by decide +kernel
theorem dX4_covers_72 : decode cX4_covers 72 = .ok (.iconst 2, 1) := by decide +kernel
theorem dX4_covers_73 : decode cX4_covers 73 = .ok (.iadd, 1) := by decide +kernel
theorem dX4_covers_74 : decode cX4_covers 74 = .ok (.invokestatic 47, 3) := by decide +kernel
theorem dX4_covers_77 : decode cX4_covers 77 = .ok (.ireturn, 1) := by decide +kernel
theorem dX4_covers_78 : decode cX4_covers 78 = .ok (.iload_n 2, 1) := by decide +kernel
theorem dX4_covers_79 : decode cX4_covers 79 = .ok (.iconst 3, 1) := by decide +kernel
theorem dX4_covers_80 : decode cX4_covers 80 = .ok (.idiv, 1) := by decide +kernel
theorem dX4_covers_81 : decode cX4_covers 81 = .ok (.ireturn, 1) := by decide +kernel
theorem dX4_covers_82 : decode cX4_covers 82 = .ok (.iload 4, 2) := by decide +kernel
theorem dX4_covers_84 : decode cX4_covers 84 = .ok (.ireturn, 1) := by decide +kernel
theorem dX4_covers_85 : decode cX4_covers 85 = .ok (.aload_n 1, 1) := by decide +kernel
theorem dX4_covers_86 : decode cX4_covers 86 = .ok (.getfield 50, 3) := by decide +kernel
theorem dX4_covers_89 : decode cX4_covers 89 = .ok (.iconst 2, 1) := by decide +kernel
theorem dX4_covers_90 : decode cX4_covers 90 = .ok (.irem, 1) := by decide +kernel
theorem dX4_covers_91 : decode cX4_covers 91 = .ok (.ifCond .ne 8, 3) := by decide +kernel
theorem dX4_covers_94 : decode cX4_covers 94 = .ok (.iload 4, 2) := by decide +kernel
theorem dX4_covers_96 : decode cX4_covers 96 = .ok (.goto 4, 3) := by decide +kernel
theorem dX4_covers_99 : decode cX4_covers 99 = .ok (.iconst 0, 1) := by decide +kernel
theorem dX4_covers_100 : decode cX4_covers 100 = .ok (.ireturn, 1) := by decide +kernel
theorem dX4_covers_101 : decode cX4_covers 101 = .ok (.aload_n 0, 1) := by decide +kernel
theorem dX4_covers_102 : decode cX4_covers 102 = .ok (.getfield 33, 3) := by decide +kernel
theorem dX4_covers_105 : decode cX4_covers 105 = .ok (.bipush 50, 2) := by decide +kernel
theorem dX4_covers_107 : decode cX4_covers 107 = .ok (.if_icmp .ge 11, 3) := by decide +kernel
theorem dX4_covers_110 : decode cX4_covers 110 = .ok (.iload_n 2, 1) := by decide +kernel
theorem dX4_covers_111 : decode cX4_covers 111 = .ok (.iconst 4, 1) := by decide +kernel
theorem dX4_covers_112 : decode cX4_covers 112 = .ok (.invokestatic 47, 3) := by decide +kernel
theorem dX4_covers_115 : decode cX4_covers 115 = .ok (.goto 4, 3) := by decide +kernel
theorem dX4_covers_118 : decode cX4_covers 118 = .ok (.iconst 0, 1) := by decide +kernel
theorem dX4_covers_119 : decode cX4_covers 119 = .ok (.ireturn, 1) := by decide +kernel
theorem dX4_covers_120 : decode cX4_covers 120 = .ok (.iload_n 2, 1) := by decide +kernel
theorem dX4_covers_121 : decode cX4_covers 121 = .ok (.iconst 2, 1) := by decide +kernel
theorem dX4_covers_122 : decode cX4_covers 122 = .ok (.idiv, 1) := by decide +kernel
theorem dX4_covers_123 : decode cX4_covers 123 = .ok (.ireturn, 1) := by decide +kernel
theorem dX4_pace_0 : decode cX4_pace 0 = .ok (.aload_n 0, 1) := by decide +kernel
theorem dX4_pace_1 : decode cX4_pace 1 = .ok (.getfield 9, 3) := by decide +kernel
theorem dX4_pace_4 : decode cX4_pace 4 = .ok (.tableswitch 42 4 6 #[40, 40, 28], 28) := by decide +kernel
theorem dX4_pace_32 : decode cX4_pace 32 = .ok (.iload_n 1, 1) := by decide +kernel
theorem dX4_pace_33 : decode cX4_pace 33 = .ok (.iconst 2, 1) := by decide +kernel
theorem dX4_pace_34 : decode cX4_pace 34 = .ok (.irem, 1) := by decide +kernel
theorem dX4_pace_35 : decode cX4_pace 35 = .ok (.ifCond .ne 7, 3) := by decide +kernel
theorem dX4_pace_38 : decode cX4_pace 38 = .ok (.iconst 1, 1) := by decide +kernel
theorem dX4_pace_39 : decode cX4_pace 39 = .ok (.goto 4, 3) := by decide +kernel
theorem dX4_pace_42 : decode cX4_pace 42 = .ok (.iconst 0, 1) := by decide +kernel
theorem dX4_pace_43 : decode cX4_pace 43 = .ok (.ireturn, 1) := by decide +kernel
theorem dX4_pace_44 : decode cX4_pace 44 = .ok (.iconst 2, 1) := by decide +kernel
theorem dX4_pace_45 : decode cX4_pace 45 = .ok (.ireturn, 1) := by decide +kernel
theorem dX4_pace_46 : decode cX4_pace 46 = .ok (.iconst 1, 1) := by decide +kernel
theorem dX4_pace_47 : decode cX4_pace 47 = .ok (.ireturn, 1) := by decide +kernel
theorem dX4_walkOn_0 : decode cX4_walkOn 0 = .ok (.aload_n 0, 1) := by decide +kernel
theorem dX4_walkOn_1 : decode cX4_walkOn 1 = .ok (.getfield 15, 3) := by decide +kernel
theorem dX4_walkOn_4 : decode cX4_walkOn 4 = .ok (.invokestatic 53, 3) := by decide +kernel
theorem dX4_walkOn_7 : decode cX4_walkOn 7 = .ok (.ifCond .ne 5, 3) := by decide +kernel
theorem dX4_walkOn_10 : decode cX4_walkOn 10 = .ok (.iconst 0, 1) := by decide +kernel
theorem dX4_walkOn_11 : decode cX4_walkOn 11 = .ok (.ireturn, 1) := by decide +kernel
theorem dX4_walkOn_12 : decode cX4_walkOn 12 = .ok (.aload_n 1, 1) := by decide +kernel
theorem dX4_walkOn_13 : decode cX4_walkOn 13 = .ok (.getfield 57, 3) := by decide +kernel
theorem dX4_walkOn_16 : decode cX4_walkOn 16 = .ok (.aload_n 0, 1) := by decide +kernel
theorem dX4_walkOn_17 : decode cX4_walkOn 17 = .ok (.getfield 15, 3) := by decide +kernel
theorem dX4_walkOn_20 : decode cX4_walkOn 20 = .ok (.iaload, 1) := by decide +kernel
theorem dX4_walkOn_21 : decode cX4_walkOn 21 = .ok (.istore_n 2, 1) := by decide +kernel
theorem dX4_walkOn_22 : decode cX4_walkOn 22 = .ok (.aload_n 1, 1) := by decide +kernel
theorem dX4_walkOn_23 : decode cX4_walkOn 23 = .ok (.getfield 57, 3) := by decide +kernel
theorem dX4_walkOn_26 : decode cX4_walkOn 26 = .ok (.bipush 15, 2) := by decide +kernel
theorem dX4_walkOn_28 : decode cX4_walkOn 28 = .ok (.aload_n 0, 1) := by decide +kernel
theorem dX4_walkOn_29 : decode cX4_walkOn 29 = .ok (.getfield 15, 3) := by decide +kernel
theorem dX4_walkOn_32 : decode cX4_walkOn 32 = .ok (.iconst 1, 1) := by decide +kernel
theorem dX4_walkOn_33 : decode cX4_walkOn 33 = .ok (.iadd, 1) := by decide +kernel
theorem dX4_walkOn_34 : decode cX4_walkOn 34 = .ok (.invokestatic 47, 3) := by decide +kernel
theorem dX4_walkOn_37 : decode cX4_walkOn 37 = .ok (.iaload, 1) := by decide +kernel
theorem dX4_walkOn_38 : decode cX4_walkOn 38 = .ok (.istore_n 3, 1) := by decide +kernel
theorem dX4_walkOn_39 : decode cX4_walkOn 39 = .ok (.aload_n 1, 1) := by decide +kernel
theorem dX4_walkOn_40 : decode cX4_walkOn 40 = .ok (.aload_n 0, 1) := by decide +kernel
theorem dX4_walkOn_41 : decode cX4_walkOn 41 = .ok (.getfield 15, 3) := by decide +kernel
theorem dX4_walkOn_44 : decode cX4_walkOn 44 = .ok (.invokevirtual 61, 3) := by decide +kernel
theorem dX4_walkOn_47 : decode cX4_walkOn 47 = .ok (.istore 4, 2) := by decide +kernel
theorem dX4_walkOn_49 : decode cX4_walkOn 49 = .ok (.aload_n 0, 1) := by decide +kernel
theorem dX4_walkOn_50 : decode cX4_walkOn 50 = .ok (.invokevirtual 65, 3) := by decide +kernel
theorem dX4_walkOn_53 : decode cX4_walkOn 53 = .ok (.istore 5, 2) := by decide +kernel
theorem dX4_walkOn_55 : decode cX4_walkOn 55 = .ok (.aload_n 0, 1) := by decide +kernel
theorem dX4_walkOn_56 : decode cX4_walkOn 56 = .ok (.iload_n 2, 1) := by decide +kernel
theorem dX4_walkOn_57 : decode cX4_walkOn 57 = .ok (.iload_n 3, 1) := by decide +kernel
theorem dX4_walkOn_58 : decode cX4_walkOn 58 = .ok (.iload 4, 2) := by decide +kernel
theorem dX4_walkOn_60 : decode cX4_walkOn 60 = .ok (.iload 5, 2) := by decide +kernel
theorem dX4_walkOn_62 : decode cX4_walkOn 62 = .ok (.iload_n 2, 1) := by decide +kernel
theorem dX4_walkOn_63 : decode cX4_walkOn 63 = .ok (.iload_n 2, 1) := by decide +kernel
theorem dX4_walkOn_64 : decode cX4_walkOn 64 = .ok (.invokestatic 69, 3) := by decide +kernel
theorem dX4_walkOn_67 : decode cX4_walkOn 67 = .ok (.if_icmp .le 7, 3) := by decide +kernel
theorem dX4_walkOn_70 : decode cX4_walkOn 70 = .ok (.iconst 1, 1) := by decide +kernel
theorem dX4_walkOn_71 : decode cX4_walkOn 71 = .ok (.goto 4, 3) := by decide +kernel
theorem dX4_walkOn_74 : decode cX4_walkOn 74 = .ok (.iconst 0, 1) := by decide +kernel
theorem dX4_walkOn_75 : decode cX4_walkOn 75 = .ok (.invokevirtual 73, 3) := by decide +kernel
theorem dX4_walkOn_78 : decode cX4_walkOn 78 = .ok (.aload_n 0, 1) := by decide +kernel
theorem dX4_walkOn_79 : decode cX4_walkOn 79 = .ok (.iload_n 2, 1) := by decide +kernel
theorem dX4_walkOn_80 : decode cX4_walkOn 80 = .ok (.iload 4, 2) := by decide +kernel
theorem dX4_walkOn_82 : decode cX4_walkOn 82 = .ok (.iload 5, 2) := by decide +kernel
theorem dX4_walkOn_84 : decode cX4_walkOn 84 = .ok (.iload_n 2, 1) := by decide +kernel
theorem dX4_walkOn_85 : decode cX4_walkOn 85 = .ok (.aload_n 0, 1) := by decide +kernel
theorem dX4_walkOn_86 : decode cX4_walkOn 86 = .ok (.getfield 18, 3) := by decide +kernel
theorem dX4_walkOn_89 : decode cX4_walkOn 89 = .ok (.invokestatic 69, 3) := by decide +kernel
theorem dX4_walkOn_92 : decode cX4_walkOn 92 = .ok (.if_icmp .le 7, 3) := by decide +kernel
theorem dX4_walkOn_95 : decode cX4_walkOn 95 = .ok (.iconst 1, 1) := by decide +kernel
theorem dX4_walkOn_96 : decode cX4_walkOn 96 = .ok (.goto 4, 3) := by decide +kernel
theorem dX4_walkOn_99 : decode cX4_walkOn 99 = .ok (.iconst 0, 1) := by decide +kernel
theorem dX4_walkOn_100 : decode cX4_walkOn 100 = .ok (.invokevirtual 77, 3) := by decide +kernel
theorem dX4_walkOn_103 : decode cX4_walkOn 103 = .ok (.istore 6, 2) := by decide +kernel
theorem dX4_walkOn_105 : decode cX4_walkOn 105 = .ok (.aload_n 1, 1) := by decide +kernel
theorem dX4_walkOn_106 : decode cX4_walkOn 106 = .ok (.getfield 81, 3) := by decide +kernel
theorem dX4_walkOn_109 : decode cX4_walkOn 109 = .ok (.aload_n 0, 1) := by decide +kernel
theorem dX4_walkOn_110 : decode cX4_walkOn 110 = .ok (.getfield 15, 3) := by decide +kernel
theorem dX4_walkOn_113 : decode cX4_walkOn 113 = .ok (.iaload, 1) := by decide +kernel
theorem dX4_walkOn_114 : decode cX4_walkOn 114 = .ok (.ifCond .ne 55, 3) := by decide +kernel
theorem dX4_walkOn_117 : decode cX4_walkOn 117 = .ok (.aload_n 0, 1) := by decide +kernel
theorem dX4_walkOn_118 : decode cX4_walkOn 118 = .ok (.getfield 18, 3) := by decide +kernel
theorem dX4_walkOn_121 : decode cX4_walkOn 121 = .ok (.iconst 3, 1) := by decide +kernel
theorem dX4_walkOn_122 : decode cX4_walkOn 122 = .ok (.if_icmp .eq 11, 3) := by decide +kernel
theorem dX4_walkOn_125 : decode cX4_walkOn 125 = .ok (.aload_n 0, 1) := by decide +kernel
theorem dX4_walkOn_126 : decode cX4_walkOn 126 = .ok (.getfield 27, 3) := by decide +kernel
theorem dX4_walkOn_129 : decode cX4_walkOn 129 = .ok (.iconst 1, 1) := by decide +kernel
theorem dX4_walkOn_130 : decode cX4_walkOn 130 = .ok (.if_icmp .ne 7, 3) := by decide +kernel
theorem dX4_walkOn_133 : decode cX4_walkOn 133 = .ok (.iconst 0, 1) := by decide +kernel
theorem dX4_walkOn_134 : decode cX4_walkOn 134 = .ok (.goto 8, 3) := by decide +kernel
theorem dX4_walkOn_137 : decode cX4_walkOn 137 = .ok (.aload_n 0, 1) := by decide +kernel
theorem dX4_walkOn_138 : decode cX4_walkOn 138 = .ok (.aload_n 1, 1) := by decide +kernel
theorem dX4_walkOn_139 : decode cX4_walkOn 139 = .ok (.invokevirtual 84, 3) := by decide +kernel
theorem dX4_walkOn_142 : decode cX4_walkOn 142 = .ok (.istore 7, 2) := by decide +kernel
theorem dX4_walkOn_144 : decode cX4_walkOn 144 = .ok (.aload_n 0, 1) := by decide +kernel
theorem dX4_walkOn_145 : decode cX4_walkOn 145 = .ok (.getstatic 88, 3) := by decide +kernel
theorem dX4_walkOn_148 : decode cX4_walkOn 148 = .ok (.bipush 7, 2) := by decide +kernel
theorem dX4_walkOn_150 : decode cX4_walkOn 150 = .ok (.iaload, 1) := by decide +kernel
theorem dX4_walkOn_151 : decode cX4_walkOn 151 = .ok (.aload_n 0, 1) := by decide +kernel
theorem dX4_walkOn_152 : decode cX4_walkOn 152 = .ok (.getfield 33, 3) := by decide +kernel
theorem dX4_walkOn_155 : decode cX4_walkOn 155 = .ok (.aload_n 1, 1) := by decide +kernel
theorem dX4_walkOn_156 : decode cX4_walkOn 156 = .ok (.getfield 42, 3) := by decide +kernel
theorem dX4_walkOn_159 : decode cX4_walkOn 159 = .ok (.iadd, 1) := by decide +kernel
theorem dX4_walkOn_160 : decode cX4_walkOn 160 = .ok (.iload 7, 2) := by decide +kernel
theorem dX4_walkOn_162 : decode cX4_walkOn 162 = .ok (.isub, 1) := by decide +kernel
theorem dX4_walkOn_163 : decode cX4_walkOn 163 = .ok (.invokestatic 47, 3) := by decide +kernel
theorem dX4_walkOn_166 : decode cX4_walkOn 166 = .ok (.putfield 33, 3) := by decide +kernel
theorem dX4_walkOn_169 : decode cX4_walkOn 169 = .ok (.aload_n 0, 1) := by decide +kernel
theorem dX4_walkOn_170 : decode cX4_walkOn 170 = .ok (.getfield 27, 3) := by decide +kernel
theorem dX4_walkOn_173 : decode cX4_walkOn 173 = .ok (.ifCond .ne 25, 3) := by decide +kernel
theorem dX4_walkOn_176 : decode cX4_walkOn 176 = .ok (.aload_n 0, 1) := by decide +kernel
theorem dX4_walkOn_177 : decode cX4_walkOn 177 = .ok (.bipush 16, 2) := by decide +kernel
theorem dX4_walkOn_179 : decode cX4_walkOn 179 = .ok (.aload_n 0, 1) := by decide +kernel
theorem dX4_walkOn_180 : decode cX4_walkOn 180 = .ok (.getfield 15, 3) := by decide +kernel
theorem dX4_walkOn_183 : decode cX4_walkOn 183 = .ok (.aload_n 0, 1) := by decide +kernel
theorem dX4_walkOn_184 : decode cX4_walkOn 184 = .ok (.aload_n 1, 1) := by decide +kernel
theorem dX4_walkOn_185 : decode cX4_walkOn 185 = .ok (.getfield 50, 3) := by decide +kernel
theorem dX4_walkOn_188 : decode cX4_walkOn 188 = .ok (.invokevirtual 91, 3) := by decide +kernel
theorem dX4_walkOn_191 : decode cX4_walkOn 191 = .ok (.iadd, 1) := by decide +kernel
theorem dX4_walkOn_192 : decode cX4_walkOn 192 = .ok (.invokestatic 47, 3) := by decide +kernel
theorem dX4_walkOn_195 : decode cX4_walkOn 195 = .ok (.putfield 15, 3) := by decide +kernel
theorem dX4_walkOn_198 : decode cX4_walkOn 198 = .ok (.iload 6, 2) := by decide +kernel
theorem dX4_walkOn_200 : decode cX4_walkOn 200 = .ok (.ireturn, 1) := by decide +kernel
theorem dX4_holdByHabit_0 : decode cX4_holdByHabit 0 = .ok (.aload_n 0, 1) := by decide +kernel
theorem dX4_holdByHabit_1 : decode cX4_holdByHabit 1 = .ok (.getfield 21, 3) := by decide +kernel
theorem dX4_holdByHabit_4 : decode cX4_holdByHabit 4 = .ok (.tableswitch 60 1 3 #[28, 36, 44], 28) := by decide +kernel
theorem dX4_holdByHabit_32 : decode cX4_holdByHabit 32 = .ok (.aload_n 0, 1) := by decide +kernel
theorem dX4_holdByHabit_33 : decode cX4_holdByHabit 33 = .ok (.iload_n 1, 1) := by decide +kernel
theorem dX4_holdByHabit_34 : decode cX4_holdByHabit 34 = .ok (.putfield 18, 3) := by decide +kernel
theorem dX4_holdByHabit_37 : decode cX4_holdByHabit 37 = .ok (.goto 27, 3) := by decide +kernel
theorem dX4_holdByHabit_40 : decode cX4_holdByHabit 40 = .ok (.aload_n 0, 1) := by decide +kernel
theorem dX4_holdByHabit_41 : decode cX4_holdByHabit 41 = .ok (.iload_n 2, 1) := by decide +kernel
theorem dX4_holdByHabit_42 : decode cX4_holdByHabit 42 = .ok (.putfield 18, 3) := by decide +kernel
theorem dX4_holdByHabit_45 : decode cX4_holdByHabit 45 = .ok (.goto 19, 3) := by decide +kernel
theorem dX4_holdByHabit_48 : decode cX4_holdByHabit 48 = .ok (.aload_n 0, 1) := by decide +kernel
theorem dX4_holdByHabit_49 : decode cX4_holdByHabit 49 = .ok (.iload_n 3, 1) := by decide +kernel
theorem dX4_holdByHabit_50 : decode cX4_holdByHabit 50 = .ok (.ifCond .eq 7, 3) := by decide +kernel
theorem dX4_holdByHabit_53 : decode cX4_holdByHabit 53 = .ok (.iconst 3, 1) := by decide +kernel
theorem dX4_holdByHabit_54 : decode cX4_holdByHabit 54 = .ok (.goto 4, 3) := by decide +kernel
theorem dX4_holdByHabit_57 : decode cX4_holdByHabit 57 = .ok (.iload_n 1, 1) := by decide +kernel
theorem dX4_holdByHabit_58 : decode cX4_holdByHabit 58 = .ok (.putfield 18, 3) := by decide +kernel
theorem dX4_holdByHabit_61 : decode cX4_holdByHabit 61 = .ok (.goto 3, 3) := by decide +kernel
theorem dX4_holdByHabit_64 : decode cX4_holdByHabit 64 = .ok (.return_, 1) := by decide +kernel
theorem dX4_turn_0 : decode cX4_turn 0 = .ok (.aload_n 0, 1) := by decide +kernel
theorem dX4_turn_1 : decode cX4_turn 1 = .ok (.getfield 27, 3) := by decide +kernel
theorem dX4_turn_4 : decode cX4_turn 4 = .ok (.iconst 1, 1) := by decide +kernel
theorem dX4_turn_5 : decode cX4_turn 5 = .ok (.if_icmp .ne 18, 3) := by decide +kernel
theorem dX4_turn_8 : decode cX4_turn 8 = .ok (.aload_n 0, 1) := by decide +kernel
theorem dX4_turn_9 : decode cX4_turn 9 = .ok (.getfield 18, 3) := by decide +kernel
theorem dX4_turn_12 : decode cX4_turn 12 = .ok (.iload_n 1, 1) := by decide +kernel
theorem dX4_turn_13 : decode cX4_turn 13 = .ok (.if_icmp .ne 8, 3) := by decide +kernel
theorem dX4_turn_16 : decode cX4_turn 16 = .ok (.aload_n 0, 1) := by decide +kernel
theorem dX4_turn_17 : decode cX4_turn 17 = .ok (.iconst 0, 1) := by decide +kernel
theorem dX4_turn_18 : decode cX4_turn 18 = .ok (.putfield 27, 3) := by decide +kernel
theorem dX4_turn_21 : decode cX4_turn 21 = .ok (.iconst 0, 1) := by decide +kernel
theorem dX4_turn_22 : decode cX4_turn 22 = .ok (.ireturn, 1) := by decide +kernel
theorem dX4_turn_23 : decode cX4_turn 23 = .ok (.aload_n 0, 1) := by decide +kernel
theorem dX4_turn_24 : decode cX4_turn 24 = .ok (.getfield 18, 3) := by decide +kernel
theorem dX4_turn_27 : decode cX4_turn 27 = .ok (.iconst 3, 1) := by decide +kernel
theorem dX4_turn_28 : decode cX4_turn 28 = .ok (.if_icmp .eq 7, 3) := by decide +kernel
theorem dX4_turn_31 : decode cX4_turn 31 = .ok (.iload_n 2, 1) := by decide +kernel
theorem dX4_turn_32 : decode cX4_turn 32 = .ok (.ifCond .ne 5, 3) := by decide +kernel
theorem dX4_turn_35 : decode cX4_turn 35 = .ok (.iconst 0, 1) := by decide +kernel
theorem dX4_turn_36 : decode cX4_turn 36 = .ok (.ireturn, 1) := by decide +kernel
theorem dX4_turn_37 : decode cX4_turn 37 = .ok (.aload_n 0, 1) := by decide +kernel
theorem dX4_turn_38 : decode cX4_turn 38 = .ok (.iconst 1, 1) := by decide +kernel
theorem dX4_turn_39 : decode cX4_turn 39 = .ok (.putfield 27, 3) := by decide +kernel
theorem dX4_turn_42 : decode cX4_turn 42 = .ok (.aload_n 0, 1) := by decide +kernel
theorem dX4_turn_43 : decode cX4_turn 43 = .ok (.getstatic 88, 3) := by decide +kernel
theorem dX4_turn_46 : decode cX4_turn 46 = .ok (.bipush 6, 2) := by decide +kernel
theorem dX4_turn_48 : decode cX4_turn 48 = .ok (.iaload, 1) := by decide +kernel
theorem dX4_turn_49 : decode cX4_turn 49 = .ok (.aload_n 0, 1) := by decide +kernel
theorem dX4_turn_50 : decode cX4_turn 50 = .ok (.getfield 30, 3) := by decide +kernel
theorem dX4_turn_53 : decode cX4_turn 53 = .ok (.iconst 1, 1) := by decide +kernel
theorem dX4_turn_54 : decode cX4_turn 54 = .ok (.iadd, 1) := by decide +kernel
theorem dX4_turn_55 : decode cX4_turn 55 = .ok (.invokestatic 47, 3) := by decide +kernel
theorem dX4_turn_58 : decode cX4_turn 58 = .ok (.putfield 30, 3) := by decide +kernel
theorem dX4_turn_61 : decode cX4_turn 61 = .ok (.aload_n 0, 1) := by decide +kernel
theorem dX4_turn_62 : decode cX4_turn 62 = .ok (.iconst 0, 1) := by decide +kernel
theorem dX4_turn_63 : decode cX4_turn 63 = .ok (.aload_n 0, 1) := by decide +kernel
theorem dX4_turn_64 : decode cX4_turn 64 = .ok (.getfield 24, 3) := by decide +kernel
theorem dX4_turn_67 : decode cX4_turn 67 = .ok (.iconst 1, 1) := by decide +kernel
theorem dX4_turn_68 : decode cX4_turn 68 = .ok (.isub, 1) := by decide +kernel
theorem dX4_turn_69 : decode cX4_turn 69 = .ok (.invokestatic 36, 3) := by decide +kernel
theorem dX4_turn_72 : decode cX4_turn 72 = .ok (.putfield 24, 3) := by decide +kernel
theorem dX4_turn_75 : decode cX4_turn 75 = .ok (.iconst 1, 1) := by decide +kernel
theorem dX4_turn_76 : decode cX4_turn 76 = .ok (.ireturn, 1) := by decide +kernel
theorem dX5_init_0 : decode cX5_init 0 = .ok (.aload_n 0, 1) := by decide +kernel
theorem dX5_init_1 : decode cX5_init 1 = .ok (.invokespecial 3, 3) := by decide +kernel
theorem dX5_init_4 : decode cX5_init 4 = .ok (.aload_n 0, 1) := by decide +kernel
theorem dX5_init_5 : decode cX5_init 5 = .ok (.new 9, 3) := by decide +kernel
theorem dX5_init_8 : decode cX5_init 8 = .ok (.dup, 1) := by decide +kernel
theorem dX5_init_9 : decode cX5_init 9 = .ok (.invokespecial 11, 3) := by decide +kernel
theorem dX5_init_12 : decode cX5_init 12 = .ok (.putfield 12, 3) := by decide +kernel
theorem dX5_init_15 : decode cX5_init 15 = .ok (.aload_n 0, 1) := by decide +kernel
theorem dX5_init_16 : decode cX5_init 16 = .ok (.new 18, 3) := by decide +kernel
theorem dX5_init_19 : decode cX5_init 19 = .ok (.dup, 1) := by decide +kernel
theorem dX5_init_20 : decode cX5_init 20 = .ok (.invokespecial 20, 3) := by decide +kernel
theorem dX5_init_23 : decode cX5_init 23 = .ok (.putfield 21, 3) := by decide +kernel
theorem dX5_init_26 : decode cX5_init 26 = .ok (.return_, 1) := by decide +kernel
theorem dX5_start_0 : decode cX5_start 0 = .ok (.aload_n 0, 1) := by decide +kernel
theorem dX5_start_1 : decode cX5_start 1 = .ok (.getfield 12, 3) := by decide +kernel
theorem dX5_start_4 : decode cX5_start 4 = .ok (.aload_n 1, 1) := by decide +kernel
theorem dX5_start_5 : decode cX5_start 5 = .ok (.invokevirtual 25, 3) := by decide +kernel
theorem dX5_start_8 : decode cX5_start 8 = .ok (.aload_n 0, 1) := by decide +kernel
theorem dX5_start_9 : decode cX5_start 9 = .ok (.getfield 21, 3) := by decide +kernel
theorem dX5_start_12 : decode cX5_start 12 = .ok (.aload_n 2, 1) := by decide +kernel
theorem dX5_start_13 : decode cX5_start 13 = .ok (.invokevirtual 29, 3) := by decide +kernel
theorem dX5_start_16 : decode cX5_start 16 = .ok (.return_, 1) := by decide +kernel
theorem dX5_choose_0 : decode cX5_choose 0 = .ok (.iload_n 1, 1) := by decide +kernel
theorem dX5_choose_1 : decode cX5_choose 1 = .ok (.bipush 20, 2) := by decide +kernel
theorem dX5_choose_3 : decode cX5_choose 3 = .ok (.if_icmp .ne 38, 3) := by decide +kernel
theorem dX5_choose_6 : decode cX5_choose 6 = .ok (.iload_n 2, 1) := by decide +kernel
theorem dX5_choose_7 : decode cX5_choose 7 = .ok (.invokestatic 32, 3) := by decide +kernel
theorem dX5_choose_10 : decode cX5_choose 10 = .ok (.ifCond .eq 16, 3) := by decide +kernel
theorem dX5_choose_13 : decode cX5_choose 13 = .ok (.aload_n 0, 1) := by decide +kernel
theorem dX5_choose_14 : decode cX5_choose 14 = .ok (.getfield 12, 3) := by decide +kernel
theorem dX5_choose_17 : decode cX5_choose 17 = .ok (.getfield 36, 3) := by decide +kernel
theorem dX5_choose_20 : decode cX5_choose 20 = .ok (.iload_n 2, 1) := by decide +kernel
theorem dX5_choose_21 : decode cX5_choose 21 = .ok (.iaload, 1) := by decide +kernel
theorem dX5_choose_22 : decode cX5_choose 22 = .ok (.iconst 1, 1) := by decide +kernel
theorem dX5_choose_23 : decode cX5_choose 23 = .ok (.if_icmp .ne 5, 3) := by decide +kernel
theorem dX5_choose_26 : decode cX5_choose 26 = .ok (.iconst 0, 1) := by decide +kernel
theorem dX5_choose_27 : decode cX5_choose 27 = .ok (.ireturn, 1) := by decide +kernel
theorem dX5_choose_28 : decode cX5_choose 28 = .ok (.aload_n 0, 1) := by decide +kernel
theorem dX5_choose_29 : decode cX5_choose 29 = .ok (.getfield 12, 3) := by decide +kernel
theorem dX5_choose_32 : decode cX5_choose 32 = .ok (.getfield 36, 3) := by decide +kernel
theorem dX5_choose_35 : decode cX5_choose 35 = .ok (.iload_n 2, 1) := by decide +kernel
theorem dX5_choose_36 : decode cX5_choose 36 = .ok (.iconst 1, 1) := by decide +kernel
theorem dX5_choose_37 : decode cX5_choose 37 = .ok (.iastore, 1) := by decide +kernel
theorem dX5_choose_38 : decode cX5_choose 38 = .ok (.goto 29, 3) := by decide +kernel
theorem dX5_choose_41 : decode cX5_choose 41 = .ok (.iload_n 1, 1) := by decide +kernel
theorem dX5_choose_42 : decode cX5_choose 42 = .ok (.bipush 21, 2) := by decide +kernel
theorem dX5_choose_44 : decode cX5_choose 44 = .ok (.if_icmp .ne 14, 3) := by decide +kernel
theorem dX5_choose_47 : decode cX5_choose 47 = .ok (.aload_n 0, 1) := by decide +kernel
theorem dX5_choose_48 : decode cX5_choose 48 = .ok (.getfield 12, 3) := by decide +kernel
theorem dX5_choose_51 : decode cX5_choose 51 = .ok (.iload_n 2, 1) := by decide +kernel
theorem dX5_choose_52 : decode cX5_choose 52 = .ok (.invokevirtual 40, 3) := by decide +kernel
theorem dX5_choose_55 : decode cX5_choose 55 = .ok (.goto 12, 3) := by decide +kernel
theorem dX5_choose_58 : decode cX5_choose 58 = .ok (.aload_n 0, 1) := by decide +kernel
theorem dX5_choose_59 : decode cX5_choose 59 = .ok (.getfield 21, 3) := by decide +kernel
theorem dX5_choose_62 : decode cX5_choose 62 = .ok (.iload_n 1, 1) := by decide +kernel
theorem dX5_choose_63 : decode cX5_choose 63 = .ok (.iload_n 2, 1) := by decide +kernel
theorem dX5_choose_64 : decode cX5_choose 64 = .ok (.invokevirtual 44, 3) := by decide +kernel
theorem dX5_choose_67 : decode cX5_choose 67 = .ok (.iconst 1, 1) := by decide +kernel
theorem dX5_choose_68 : decode cX5_choose 68 = .ok (.ireturn, 1) := by decide +kernel
theorem dX5_goOn_0 : decode cX5_goOn 0 = .ok (.aload_n 0, 1) := by decide +kernel
theorem dX5_goOn_1 : decode cX5_goOn 1 = .ok (.getfield 21, 3) := by decide +kernel
theorem dX5_goOn_4 : decode cX5_goOn 4 = .ok (.aload_n 0, 1) := by decide +kernel
theorem dX5_goOn_5 : decode cX5_goOn 5 = .ok (.getfield 12, 3) := by decide +kernel
theorem dX5_goOn_8 : decode cX5_goOn 8 = .ok (.invokevirtual 48, 3) := by decide +kernel
theorem dX5_goOn_11 : decode cX5_goOn 11 = .ok (.pop, 1) := by decide +kernel
theorem dX5_goOn_12 : decode cX5_goOn 12 = .ok (.aload_n 0, 1) := by decide +kernel
theorem dX5_goOn_13 : decode cX5_goOn 13 = .ok (.getfield 12, 3) := by decide +kernel
theorem dX5_goOn_16 : decode cX5_goOn 16 = .ok (.iconst 1, 1) := by decide +kernel
theorem dX5_goOn_17 : decode cX5_goOn 17 = .ok (.invokevirtual 40, 3) := by decide +kernel
theorem dX5_goOn_20 : decode cX5_goOn 20 = .ok (.return_, 1) := by decide +kernel
theorem dX5_ticksHome_0 : decode cX5_ticksHome 0 = .ok (.iconst 0, 1) := by decide +kernel
theorem dX5_ticksHome_1 : decode cX5_ticksHome 1 = .ok (.istore_n 1, 1) := by decide +kernel
theorem dX5_ticksHome_2 : decode cX5_ticksHome 2 = .ok (.iload_n 1, 1) := by decide +kernel
theorem dX5_ticksHome_3 : decode cX5_ticksHome 3 = .ok (.sipush 200, 3) := by decide +kernel
theorem dX5_ticksHome_6 : decode cX5_ticksHome 6 = .ok (.if_icmp .ge 27, 3) := by decide +kernel
theorem dX5_ticksHome_9 : decode cX5_ticksHome 9 = .ok (.aload_n 0, 1) := by decide +kernel
theorem dX5_ticksHome_10 : decode cX5_ticksHome 10 = .ok (.getfield 21, 3) := by decide +kernel
theorem dX5_ticksHome_13 : decode cX5_ticksHome 13 = .ok (.getfield 52, 3) := by decide +kernel
theorem dX5_ticksHome_16 : decode cX5_ticksHome 16 = .ok (.bipush 16, 2) := by decide +kernel
theorem dX5_ticksHome_18 : decode cX5_ticksHome 18 = .ok (.if_icmp .ne 5, 3) := by decide +kernel
theorem dX5_ticksHome_21 : decode cX5_ticksHome 21 = .ok (.iload_n 1, 1) := by decide +kernel
theorem dX5_ticksHome_22 : decode cX5_ticksHome 22 = .ok (.ireturn, 1) := by decide +kernel
theorem dX5_ticksHome_23 : decode cX5_ticksHome 23 = .ok (.aload_n 0, 1) := by decide +kernel
theorem dX5_ticksHome_24 : decode cX5_ticksHome 24 = .ok (.invokevirtual 56, 3) := by decide +kernel
theorem dX5_ticksHome_27 : decode cX5_ticksHome 27 = .ok (.iinc 1 1, 3) := by decide +kernel
theorem dX5_ticksHome_30 : decode cX5_ticksHome 30 = .ok (.goto (-28), 3) := by decide +kernel
theorem dX5_ticksHome_33 : decode cX5_ticksHome 33 = .ok (.aload_n 0, 1) := by decide +kernel
theorem dX5_ticksHome_34 : decode cX5_ticksHome 34 = .ok (.getfield 21, 3) := by decide +kernel
theorem dX5_ticksHome_37 : decode cX5_ticksHome 37 = .ok (.getfield 52, 3) := by decide +kernel
theorem dX5_ticksHome_40 : decode cX5_ticksHome 40 = .ok (.bipush 16, 2) := by decide +kernel
theorem dX5_ticksHome_42 : decode cX5_ticksHome 42 = .ok (.if_icmp .ne 9, 3) := by decide +kernel
theorem dX5_ticksHome_45 : decode cX5_ticksHome 45 = .ok (.sipush 200, 3) := by decide +kernel
theorem dX5_ticksHome_48 : decode cX5_ticksHome 48 = .ok (.goto 4, 3) := by decide +kernel
theorem dX5_ticksHome_51 : decode cX5_ticksHome 51 = .ok (.iconst (-1), 1) := by decide +kernel
theorem dX5_ticksHome_52 : decode cX5_ticksHome 52 = .ok (.ireturn, 1) := by decide +kernel
theorem dX5_ticksTillTurned_0 : decode cX5_ticksTillTurned 0 = .ok (.aload_n 0, 1) := by decide +kernel
theorem dX5_ticksTillTurned_1 : decode cX5_ticksTillTurned 1 = .ok (.getfield 21, 3) := by decide +kernel
theorem dX5_ticksTillTurned_4 : decode cX5_ticksTillTurned 4 = .ok (.getfield 59, 3) := by decide +kernel
theorem dX5_ticksTillTurned_7 : decode cX5_ticksTillTurned 7 = .ok (.istore_n 1, 1) := by decide +kernel
theorem dX5_ticksTillTurned_8 : decode cX5_ticksTillTurned 8 = .ok (.iconst 1, 1) := by decide +kernel
theorem dX5_ticksTillTurned_9 : decode cX5_ticksTillTurned 9 = .ok (.istore_n 2, 1) := by decide +kernel
theorem dX5_ticksTillTurned_10 : decode cX5_ticksTillTurned 10 = .ok (.iload_n 2, 1) := by decide +kernel
theorem dX5_ticksTillTurned_11 : decode cX5_ticksTillTurned 11 = .ok (.sipush 200, 3) := by decide +kernel
theorem dX5_ticksTillTurned_14 : decode cX5_ticksTillTurned 14 = .ok (.if_icmp .gt 26, 3) := by decide +kernel
theorem dX5_ticksTillTurned_17 : decode cX5_ticksTillTurned 17 = .ok (.aload_n 0, 1) := by decide +kernel
theorem dX5_ticksTillTurned_18 : decode cX5_ticksTillTurned 18 = .ok (.invokevirtual 56, 3) := by decide +kernel
theorem dX5_ticksTillTurned_21 : decode cX5_ticksTillTurned 21 = .ok (.aload_n 0, 1) := by decide +kernel
theorem dX5_ticksTillTurned_22 : decode cX5_ticksTillTurned 22 = .ok (.getfield 21, 3) := by decide +kernel
theorem dX5_ticksTillTurned_25 : decode cX5_ticksTillTurned 25 = .ok (.getfield 59, 3) := by decide +kernel
theorem dX5_ticksTillTurned_28 : decode cX5_ticksTillTurned 28 = .ok (.iload_n 1, 1) := by decide +kernel
theorem dX5_ticksTillTurned_29 : decode cX5_ticksTillTurned 29 = .ok (.if_icmp .le 5, 3) := by decide +kernel
theorem dX5_ticksTillTurned_32 : decode cX5_ticksTillTurned 32 = .ok (.iload_n 2, 1) := by decide +kernel
theorem dX5_ticksTillTurned_33 : decode cX5_ticksTillTurned 33 = .ok (.ireturn, 1) := by decide +kernel
theorem dX5_ticksTillTurned_34 : decode cX5_ticksTillTurned 34 = .ok (.iinc 2 1, 3) := by decide +kernel
theorem dX5_ticksTillTurned_37 : decode cX5_ticksTillTurned 37 = .ok (.goto (-27), 3) := by decide +kernel
theorem dX5_ticksTillTurned_40 : decode cX5_ticksTillTurned 40 = .ok (.iconst (-1), 1) := by decide +kernel
theorem dX5_ticksTillTurned_41 : decode cX5_ticksTillTurned 41 = .ok (.ireturn, 1) := by decide +kernel
theorem dX5_comesHomeUnturned_0 : decode cX5_comesHomeUnturned 0 = .ok (.aload_n 0, 1) := by decide +kernel
theorem dX5_comesHomeUnturned_1 : decode cX5_comesHomeUnturned 1 = .ok (.getfield 21, 3) := by decide +kernel
theorem dX5_comesHomeUnturned_4 : decode cX5_comesHomeUnturned 4 = .ok (.getfield 59, 3) := by decide +kernel
theorem dX5_comesHomeUnturned_7 : decode cX5_comesHomeUnturned 7 = .ok (.istore_n 1, 1) := by decide +kernel
theorem dX5_comesHomeUnturned_8 : decode cX5_comesHomeUnturned 8 = .ok (.iconst 0, 1) := by decide +kernel
theorem dX5_comesHomeUnturned_9 : decode cX5_comesHomeUnturned 9 = .ok (.istore_n 2, 1) := by decide +kernel
theorem dX5_comesHomeUnturned_10 : decode cX5_comesHomeUnturned 10 = .ok (.iload_n 2, 1) := by decide +kernel
theorem dX5_comesHomeUnturned_11 : decode cX5_comesHomeUnturned 11 = .ok (.sipush 200, 3) := by decide +kernel
theorem dX5_comesHomeUnturned_14 : decode cX5_comesHomeUnturned 14 = .ok (.if_icmp .ge 38, 3) := by decide +kernel
theorem dX5_comesHomeUnturned_17 : decode cX5_comesHomeUnturned 17 = .ok (.aload_n 0, 1) := by decide +kernel
theorem dX5_comesHomeUnturned_18 : decode cX5_comesHomeUnturned 18 = .ok (.getfield 21, 3) := by decide +kernel
theorem dX5_comesHomeUnturned_21 : decode cX5_comesHomeUnturned 21 = .ok (.getfield 52, 3) := by decide +kernel
theorem dX5_comesHomeUnturned_24 : decode cX5_comesHomeUnturned 24 = .ok (.bipush 16, 2) := by decide +kernel
theorem dX5_comesHomeUnturned_26 : decode cX5_comesHomeUnturned 26 = .ok (.if_icmp .eq 26, 3) := by decide +kernel
theorem dX5_comesHomeUnturned_29 : decode cX5_comesHomeUnturned 29 = .ok (.aload_n 0, 1) := by decide +kernel
theorem dX5_comesHomeUnturned_30 : decode cX5_comesHomeUnturned 30 = .ok (.invokevirtual 56, 3) := by decide +kernel
theorem dX5_comesHomeUnturned_33 : decode cX5_comesHomeUnturned 33 = .ok (.aload_n 0, 1) := by decide +kernel
theorem dX5_comesHomeUnturned_34 : decode cX5_comesHomeUnturned 34 = .ok (.getfield 21, 3) := by decide +kernel
theorem dX5_comesHomeUnturned_37 : decode cX5_comesHomeUnturned 37 = .ok (.getfield 59, 3) := by decide +kernel
theorem dX5_comesHomeUnturned_40 : decode cX5_comesHomeUnturned 40 = .ok (.iload_n 1, 1) := by decide +kernel
theorem dX5_comesHomeUnturned_41 : decode cX5_comesHomeUnturned 41 = .ok (.if_icmp .eq 5, 3) := by decide +kernel
theorem dX5_comesHomeUnturned_44 : decode cX5_comesHomeUnturned 44 = .ok (.iconst 0, 1) := by decide +kernel
theorem dX5_comesHomeUnturned_45 : decode cX5_comesHomeUnturned 45 = .ok (.ireturn, 1) := by decide +kernel
theorem dX5_comesHomeUnturned_46 : decode cX5_comesHomeUnturned 46 = .ok (.iinc 2 1, 3) := by decide +kernel
theorem dX5_comesHomeUnturned_49 : decode cX5_comesHomeUnturned 49 = .ok (.goto (-39), 3) := by decide +kernel
theorem dX5_comesHomeUnturned_52 : decode cX5_comesHomeUnturned 52 = .ok (.aload_n 0, 1) := by decide +kernel
theorem dX5_comesHomeUnturned_53 : decode cX5_comesHomeUnturned 53 = .ok (.getfield 21, 3) := by decide +kernel
theorem dX5_comesHomeUnturned_56 : decode cX5_comesHomeUnturned 56 = .ok (.getfield 52, 3) := by decide +kernel
theorem dX5_comesHomeUnturned_59 : decode cX5_comesHomeUnturned 59 = .ok (.bipush 16, 2) := by decide +kernel
theorem dX5_comesHomeUnturned_61 : decode cX5_comesHomeUnturned 61 = .ok (.if_icmp .ne 7, 3) := by decide +kernel
theorem dX5_comesHomeUnturned_64 : decode cX5_comesHomeUnturned 64 = .ok (.iconst 1, 1) := by decide +kernel
theorem dX5_comesHomeUnturned_65 : decode cX5_comesHomeUnturned 65 = .ok (.goto 4, 3) := by decide +kernel
theorem dX5_comesHomeUnturned_68 : decode cX5_comesHomeUnturned 68 = .ok (.iconst 0, 1) := by decide +kernel
theorem dX5_comesHomeUnturned_69 : decode cX5_comesHomeUnturned 69 = .ok (.ireturn, 1) := by decide +kernel
theorem dX5_follows_0 : decode cX5_follows 0 = .ok (.iconst 0, 1) := by decide +kernel
theorem dX5_follows_1 : decode cX5_follows 1 = .ok (.istore_n 2, 1) := by decide +kernel
theorem dX5_follows_2 : decode cX5_follows 2 = .ok (.iload_n 2, 1) := by decide +kernel
theorem dX5_follows_3 : decode cX5_follows 3 = .ok (.aload_n 1, 1) := by decide +kernel
theorem dX5_follows_4 : decode cX5_follows 4 = .ok (.getfield 62, 3) := by decide +kernel
theorem dX5_follows_7 : decode cX5_follows 7 = .ok (.if_icmp .ge 41, 3) := by decide +kernel
theorem dX5_follows_10 : decode cX5_follows 10 = .ok (.aload_n 1, 1) := by decide +kernel
theorem dX5_follows_11 : decode cX5_follows 11 = .ok (.getfield 67, 3) := by decide +kernel
theorem dX5_follows_14 : decode cX5_follows 14 = .ok (.iload_n 2, 1) := by decide +kernel
theorem dX5_follows_15 : decode cX5_follows 15 = .ok (.iaload, 1) := by decide +kernel
theorem dX5_follows_16 : decode cX5_follows 16 = .ok (.iconst (-1), 1) := by decide +kernel
theorem dX5_follows_17 : decode cX5_follows 17 = .ok (.if_icmp .eq 21, 3) := by decide +kernel
theorem dX5_follows_20 : decode cX5_follows 20 = .ok (.aload_n 1, 1) := by decide +kernel
theorem dX5_follows_21 : decode cX5_follows 21 = .ok (.getfield 67, 3) := by decide +kernel
theorem dX5_follows_24 : decode cX5_follows 24 = .ok (.iload_n 2, 1) := by decide +kernel
theorem dX5_follows_25 : decode cX5_follows 25 = .ok (.iaload, 1) := by decide +kernel
theorem dX5_follows_26 : decode cX5_follows 26 = .ok (.aload_n 0, 1) := by decide +kernel
theorem dX5_follows_27 : decode cX5_follows 27 = .ok (.getfield 21, 3) := by decide +kernel
theorem dX5_follows_30 : decode cX5_follows 30 = .ok (.getfield 52, 3) := by decide +kernel
theorem dX5_follows_33 : decode cX5_follows 33 = .ok (.if_icmp .eq 5, 3) := by decide +kernel
theorem dX5_follows_36 : decode cX5_follows 36 = .ok (.iconst 0, 1) := by decide +kernel
theorem dX5_follows_37 : decode cX5_follows 37 = .ok (.ireturn, 1) := by decide +kernel
theorem dX5_follows_38 : decode cX5_follows 38 = .ok (.aload_n 0, 1) := by decide +kernel
theorem dX5_follows_39 : decode cX5_follows 39 = .ok (.invokevirtual 56, 3) := by decide +kernel
theorem dX5_follows_42 : decode cX5_follows 42 = .ok (.iinc 2 1, 3) := by decide +kernel
theorem dX5_follows_45 : decode cX5_follows 45 = .ok (.goto (-43), 3) := by decide +kernel
theorem dX5_follows_48 : decode cX5_follows 48 = .ok (.iconst 1, 1) := by decide +kernel
theorem dX5_follows_49 : decode cX5_follows 49 = .ok (.ireturn, 1) := by decide +kernel
theorem dX6_init_0 : decode cX6_init 0 = .ok (.aload_n 0, 1) := by decide +kernel
theorem dX6_init_1 : decode cX6_init 1 = .ok (.invokespecial 3, 3) := by decide +kernel
theorem dX6_init_4 : decode cX6_init 4 = .ok (.aload_n 0, 1) := by decide +kernel
theorem dX6_init_5 : decode cX6_init 5 = .ok (.new 9, 3) := by decide +kernel
theorem dX6_init_8 : decode cX6_init 8 = .ok (.dup, 1) := by decide +kernel
theorem dX6_init_9 : decode cX6_init 9 = .ok (.invokespecial 11, 3) := by decide +kernel
theorem dX6_init_12 : decode cX6_init 12 = .ok (.putfield 12, 3) := by decide +kernel
theorem dX6_init_15 : decode cX6_init 15 = .ok (.aload_n 0, 1) := by decide +kernel
theorem dX6_init_16 : decode cX6_init 16 = .ok (.bipush 8, 2) := by decide +kernel
theorem dX6_init_18 : decode cX6_init 18 = .ok (.anewarray 18, 3) := by decide +kernel
theorem dX6_init_21 : decode cX6_init 21 = .ok (.putfield 20, 3) := by decide +kernel
theorem dX6_init_24 : decode cX6_init 24 = .ok (.aload_n 0, 1) := by decide +kernel
theorem dX6_init_25 : decode cX6_init 25 = .ok (.iconst 0, 1) := by decide +kernel
theorem dX6_init_26 : decode cX6_init 26 = .ok (.putfield 24, 3) := by decide +kernel
theorem dX6_init_29 : decode cX6_init 29 = .ok (.aload_n 0, 1) := by decide +kernel
theorem dX6_init_30 : decode cX6_init 30 = .ok (.bipush 10, 2) := by decide +kernel
theorem dX6_init_32 : decode cX6_init 32 = .ok (.newarray .int, 2) := by decide +kernel
theorem dX6_init_34 : decode cX6_init 34 = .ok (.putfield 28, 3) := by decide +kernel
theorem dX6_init_37 : decode cX6_init 37 = .ok (.aload_n 0, 1) := by decide +kernel
theorem dX6_init_38 : decode cX6_init 38 = .ok (.iconst 1, 1) := by decide +kernel
theorem dX6_init_39 : decode cX6_init 39 = .ok (.putfield 32, 3) := by decide +kernel
theorem dX6_init_42 : decode cX6_init 42 = .ok (.iconst 0, 1) := by decide +kernel
theorem dX6_init_43 : decode cX6_init 43 = .ok (.istore_n 1, 1) := by decide +kernel
theorem dX6_init_44 : decode cX6_init 44 = .ok (.iload_n 1, 1) := by decide +kernel
theorem dX6_init_45 : decode cX6_init 45 = .ok (.bipush 8, 2) := by decide +kernel
theorem dX6_init_47 : decode cX6_init 47 = .ok (.if_icmp .ge 22, 3) := by decide +kernel
theorem dX6_init_50 : decode cX6_init 50 = .ok (.aload_n 0, 1) := by decide +kernel
theorem dX6_init_51 : decode cX6_init 51 = .ok (.getfield 20, 3) := by decide +kernel
theorem dX6_init_54 : decode cX6_init 54 = .ok (.iload_n 1, 1) := by decide +kernel
theorem dX6_init_55 : decode cX6_init 55 = .ok (.new 18, 3) := by decide +kernel
theorem dX6_init_58 : decode cX6_init 58 = .ok (.dup, 1) := by decide +kernel
theorem dX6_init_59 : decode cX6_init 59 = .ok (.invokespecial 35, 3) := by decide +kernel
theorem dX6_init_62 : decode cX6_init 62 = .ok (.aastore, 1) := by decide +kernel
theorem dX6_init_63 : decode cX6_init 63 = .ok (.iinc 1 1, 3) := by decide +kernel
theorem dX6_init_66 : decode cX6_init 66 = .ok (.goto (-22), 3) := by decide +kernel
theorem dX6_init_69 : decode cX6_init 69 = .ok (.aload_n 0, 1) := by decide +kernel
theorem dX6_init_70 : decode cX6_init 70 = .ok (.getfield 28, 3) := by decide +kernel
theorem dX6_init_73 : decode cX6_init 73 = .ok (.iconst (-1), 1) := by decide +kernel
theorem dX6_init_74 : decode cX6_init 74 = .ok (.invokestatic 36, 3) := by decide +kernel
theorem dX6_init_77 : decode cX6_init 77 = .ok (.return_, 1) := by decide +kernel
theorem dX6_become_0 : decode cX6_become 0 = .ok (.aload_n 0, 1) := by decide +kernel
theorem dX6_become_1 : decode cX6_become 1 = .ok (.getfield 12, 3) := by decide +kernel
theorem dX6_become_4 : decode cX6_become 4 = .ok (.aload_n 1, 1) := by decide +kernel
theorem dX6_become_5 : decode cX6_become 5 = .ok (.getfield 12, 3) := by decide +kernel
theorem dX6_become_8 : decode cX6_become 8 = .ok (.invokevirtual 42, 3) := by decide +kernel
theorem dX6_become_11 : decode cX6_become 11 = .ok (.iconst 0, 1) := by decide +kernel
theorem dX6_become_12 : decode cX6_become 12 = .ok (.istore_n 2, 1) := by decide +kernel
theorem dX6_become_13 : decode cX6_become 13 = .ok (.iload_n 2, 1) := by decide +kernel
theorem dX6_become_14 : decode cX6_become 14 = .ok (.bipush 8, 2) := by decide +kernel
theorem dX6_become_16 : decode cX6_become 16 = .ok (.if_icmp .ge 24, 3) := by decide +kernel
theorem dX6_become_19 : decode cX6_become 19 = .ok (.aload_n 0, 1) := by decide +kernel
theorem dX6_become_20 : decode cX6_become 20 = .ok (.getfield 20, 3) := by decide +kernel
theorem dX6_become_23 : decode cX6_become 23 = .ok (.iload_n 2, 1) := by decide +kernel
theorem dX6_become_24 : decode cX6_become 24 = .ok (.aaload, 1) := by decide +kernel
theorem dX6_become_25 : decode cX6_become 25 = .ok (.aload_n 1, 1) := by decide +kernel
theorem dX6_become_26 : decode cX6_become 26 = .ok (.getfield 20, 3) := by decide +kernel
theorem dX6_become_29 : decode cX6_become 29 = .ok (.iload_n 2, 1) := by decide +kernel
theorem dX6_become_30 : decode cX6_become 30 = .ok (.aaload, 1) := by decide +kernel
theorem dX6_become_31 : decode cX6_become 31 = .ok (.invokevirtual 46, 3) := by decide +kernel
theorem dX6_become_34 : decode cX6_become 34 = .ok (.iinc 2 1, 3) := by decide +kernel
theorem dX6_become_37 : decode cX6_become 37 = .ok (.goto (-24), 3) := by decide +kernel
theorem dX6_become_40 : decode cX6_become 40 = .ok (.aload_n 0, 1) := by decide +kernel
theorem dX6_become_41 : decode cX6_become 41 = .ok (.aload_n 1, 1) := by decide +kernel
theorem dX6_become_42 : decode cX6_become 42 = .ok (.getfield 24, 3) := by decide +kernel
theorem dX6_become_45 : decode cX6_become 45 = .ok (.putfield 24, 3) := by decide +kernel
theorem dX6_become_48 : decode cX6_become 48 = .ok (.aload_n 1, 1) := by decide +kernel
theorem dX6_become_49 : decode cX6_become 49 = .ok (.getfield 28, 3) := by decide +kernel
theorem dX6_become_52 : decode cX6_become 52 = .ok (.iconst 0, 1) := by decide +kernel
theorem dX6_become_53 : decode cX6_become 53 = .ok (.aload_n 0, 1) := by decide +kernel
theorem dX6_become_54 : decode cX6_become 54 = .ok (.getfield 28, 3) := by decide +kernel
theorem dX6_become_57 : decode cX6_become 57 = .ok (.iconst 0, 1) := by decide +kernel
theorem dX6_become_58 : decode cX6_become 58 = .ok (.bipush 10, 2) := by decide +kernel
theorem dX6_become_60 : decode cX6_become 60 = .ok (.invokestatic 49, 3) := by decide +kernel
theorem dX6_become_63 : decode cX6_become 63 = .ok (.aload_n 0, 1) := by decide +kernel
theorem dX6_become_64 : decode cX6_become 64 = .ok (.aload_n 1, 1) := by decide +kernel
theorem dX6_become_65 : decode cX6_become 65 = .ok (.getfield 32, 3) := by decide +kernel
theorem dX6_become_68 : decode cX6_become 68 = .ok (.putfield 32, 3) := by decide +kernel
theorem dX6_become_71 : decode cX6_become 71 = .ok (.return_, 1) := by decide +kernel
theorem dX6_isFull_0 : decode cX6_isFull 0 = .ok (.aload_n 0, 1) := by decide +kernel
theorem dX6_isFull_1 : decode cX6_isFull 1 = .ok (.getfield 24, 3) := by decide +kernel
theorem dX6_isFull_4 : decode cX6_isFull 4 = .ok (.bipush 8, 2) := by decide +kernel
theorem dX6_isFull_6 : decode cX6_isFull 6 = .ok (.if_icmp .lt 7, 3) := by decide +kernel
theorem dX6_isFull_9 : decode cX6_isFull 9 = .ok (.iconst 1, 1) := by decide +kernel
theorem dX6_isFull_10 : decode cX6_isFull 10 = .ok (.goto 4, 3) := by decide +kernel
theorem dX6_isFull_13 : decode cX6_isFull 13 = .ok (.iconst 0, 1) := by decide +kernel
theorem dX6_isFull_14 : decode cX6_isFull 14 = .ok (.ireturn, 1) := by decide +kernel
theorem dX6_addUmbrella_0 : decode cX6_addUmbrella 0 = .ok (.aload_n 0, 1) := by decide +kernel
theorem dX6_addUmbrella_1 : decode cX6_addUmbrella 1 = .ok (.getfield 24, 3) := by decide +kernel
theorem dX6_addUmbrella_4 : decode cX6_addUmbrella 4 = .ok (.istore_n 2, 1) := by decide +kernel
theorem dX6_addUmbrella_5 : decode cX6_addUmbrella 5 = .ok (.iload_n 2, 1) := by decide +kernel
theorem dX6_addUmbrella_6 : decode cX6_addUmbrella 6 = .ok (.bipush 8, 2) := by decide +kernel
theorem dX6_addUmbrella_8 : decode cX6_addUmbrella 8 = .ok (.if_icmp .ge 20, 3) := by decide +kernel
theorem dX6_addUmbrella_11 : decode cX6_addUmbrella 11 = .ok (.aload_n 0, 1) := by decide +kernel
theorem dX6_addUmbrella_12 : decode cX6_addUmbrella 12 = .ok (.getfield 20, 3) := by decide +kernel
theorem dX6_addUmbrella_15 : decode cX6_addUmbrella 15 = .ok (.iload_n 2, 1) := by decide +kernel
theorem dX6_addUmbrella_16 : decode cX6_addUmbrella 16 = .ok (.aaload, 1) := by decide +kernel
theorem dX6_addUmbrella_17 : decode cX6_addUmbrella 17 = .ok (.iload_n 1, 1) := by decide +kernel
theorem dX6_addUmbrella_18 : decode cX6_addUmbrella 18 = .ok (.invokevirtual 55, 3) := by decide +kernel
theorem dX6_addUmbrella_21 : decode cX6_addUmbrella 21 = .ok (.aload_n 0, 1) := by decide +kernel
theorem dX6_addUmbrella_22 : decode cX6_addUmbrella 22 = .ok (.iload_n 2, 1) := by decide +kernel
theorem dX6_addUmbrella_23 : decode cX6_addUmbrella 23 = .ok (.iconst 1, 1) := by decide +kernel
theorem dX6_addUmbrella_24 : decode cX6_addUmbrella 24 = .ok (.iadd, 1) := by decide +kernel
theorem dX6_addUmbrella_25 : decode cX6_addUmbrella 25 = .ok (.putfield 24, 3) := by decide +kernel
theorem dX6_addUmbrella_28 : decode cX6_addUmbrella 28 = .ok (.iload_n 2, 1) := by decide +kernel
theorem dX6_addUmbrella_29 : decode cX6_addUmbrella 29 = .ok (.ireturn, 1) := by decide +kernel
theorem dX6_passTick_0 : decode cX6_passTick 0 = .ok (.iconst 0, 1) := by decide +kernel
theorem dX6_passTick_1 : decode cX6_passTick 1 = .ok (.istore_n 1, 1) := by decide +kernel
theorem dX6_passTick_2 : decode cX6_passTick 2 = .ok (.iconst 0, 1) := by decide +kernel
theorem dX6_passTick_3 : decode cX6_passTick 3 = .ok (.istore_n 2, 1) := by decide +kernel
theorem dX6_passTick_4 : decode cX6_passTick 4 = .ok (.iload_n 2, 1) := by decide +kernel
theorem dX6_passTick_5 : decode cX6_passTick 5 = .ok (.aload_n 0, 1) := by decide +kernel
theorem dX6_passTick_6 : decode cX6_passTick 6 = .ok (.getfield 24, 3) := by decide +kernel
theorem dX6_passTick_9 : decode cX6_passTick 9 = .ok (.if_icmp .ge 28, 3) := by decide +kernel
theorem dX6_passTick_12 : decode cX6_passTick 12 = .ok (.aload_n 0, 1) := by decide +kernel
theorem dX6_passTick_13 : decode cX6_passTick 13 = .ok (.getfield 20, 3) := by decide +kernel
theorem dX6_passTick_16 : decode cX6_passTick 16 = .ok (.iload_n 2, 1) := by decide +kernel
theorem dX6_passTick_17 : decode cX6_passTick 17 = .ok (.aaload, 1) := by decide +kernel
theorem dX6_passTick_18 : decode cX6_passTick 18 = .ok (.aload_n 0, 1) := by decide +kernel
theorem dX6_passTick_19 : decode cX6_passTick 19 = .ok (.getfield 12, 3) := by decide +kernel
theorem dX6_passTick_22 : decode cX6_passTick 22 = .ok (.invokevirtual 59, 3) := by decide +kernel
theorem dX6_passTick_25 : decode cX6_passTick 25 = .ok (.ifCond .eq 6, 3) := by decide +kernel
theorem dX6_passTick_28 : decode cX6_passTick 28 = .ok (.iinc 1 1, 3) := by decide +kernel
theorem dX6_passTick_31 : decode cX6_passTick 31 = .ok (.iinc 2 1, 3) := by decide +kernel
theorem dX6_passTick_34 : decode cX6_passTick 34 = .ok (.goto (-30), 3) := by decide +kernel
theorem dX6_passTick_37 : decode cX6_passTick 37 = .ok (.aload_n 0, 1) := by decide +kernel
theorem dX6_passTick_38 : decode cX6_passTick 38 = .ok (.getfield 12, 3) := by decide +kernel
theorem dX6_passTick_41 : decode cX6_passTick 41 = .ok (.iconst 1, 1) := by decide +kernel
theorem dX6_passTick_42 : decode cX6_passTick 42 = .ok (.invokevirtual 63, 3) := by decide +kernel
theorem dX6_passTick_45 : decode cX6_passTick 45 = .ok (.iload_n 1, 1) := by decide +kernel
theorem dX6_passTick_46 : decode cX6_passTick 46 = .ok (.ireturn, 1) := by decide +kernel
theorem dX6_draw_0 : decode cX6_draw 0 = .ok (.aload_n 0, 1) := by decide +kernel
theorem dX6_draw_1 : decode cX6_draw 1 = .ok (.aload_n 0, 1) := by decide +kernel
theorem dX6_draw_2 : decode cX6_draw 2 = .ok (.getfield 32, 3) := by decide +kernel
theorem dX6_draw_5 : decode cX6_draw 5 = .ok (.ldc 66, 2) := by decide +kernel
theorem dX6_draw_7 : decode cX6_draw 7 = .ok (.imul, 1) := by decide +kernel
theorem dX6_draw_8 : decode cX6_draw 8 = .ok (.sipush 12345, 3) := by decide +kernel
theorem dX6_draw_11 : decode cX6_draw 11 = .ok (.iadd, 1) := by decide +kernel
theorem dX6_draw_12 : decode cX6_draw 12 = .ok (.putfield 32, 3) := by decide +kernel
theorem dX6_draw_15 : decode cX6_draw 15 = .ok (.aload_n 0, 1) := by decide +kernel
theorem dX6_draw_16 : decode cX6_draw 16 = .ok (.getfield 32, 3) := by decide +kernel
theorem dX6_draw_19 : decode cX6_draw 19 = .ok (.bipush 8, 2) := by decide +kernel
theorem dX6_draw_21 : decode cX6_draw 21 = .ok (.iushr, 1) := by decide +kernel
theorem dX6_draw_22 : decode cX6_draw 22 = .ok (.ireturn, 1) := by decide +kernel
theorem dX6_setOf_0 : decode cX6_setOf 0 = .ok (.iconst 0, 1) := by decide +kernel
theorem dX6_setOf_1 : decode cX6_setOf 1 = .ok (.istore_n 3, 1) := by decide +kernel
theorem dX6_setOf_2 : decode cX6_setOf 2 = .ok (.iconst 0, 1) := by decide +kernel
theorem dX6_setOf_3 : decode cX6_setOf 3 = .ok (.istore 4, 2) := by decide +kernel
theorem dX6_setOf_5 : decode cX6_setOf 5 = .ok (.iload 4, 2) := by decide +kernel
theorem dX6_setOf_7 : decode cX6_setOf 7 = .ok (.aload_n 0, 1) := by decide +kernel
theorem dX6_setOf_8 : decode cX6_setOf 8 = .ok (.getfield 24, 3) := by decide +kernel
theorem dX6_setOf_11 : decode cX6_setOf 11 = .ok (.if_icmp .ge 31, 3) := by decide +kernel
theorem dX6_setOf_14 : decode cX6_setOf 14 = .ok (.aload_n 0, 1) := by decide +kernel
theorem dX6_setOf_15 : decode cX6_setOf 15 = .ok (.getfield 20, 3) := by decide +kernel
theorem dX6_setOf_18 : decode cX6_setOf 18 = .ok (.iload 4, 2) := by decide +kernel
theorem dX6_setOf_20 : decode cX6_setOf 20 = .ok (.aaload, 1) := by decide +kernel
theorem dX6_setOf_21 : decode cX6_setOf 21 = .ok (.iload_n 1, 1) := by decide +kernel
theorem dX6_setOf_22 : decode cX6_setOf 22 = .ok (.invokevirtual 67, 3) := by decide +kernel
theorem dX6_setOf_25 : decode cX6_setOf 25 = .ok (.iload_n 2, 1) := by decide +kernel
theorem dX6_setOf_26 : decode cX6_setOf 26 = .ok (.if_icmp .ne 10, 3) := by decide +kernel
theorem dX6_setOf_29 : decode cX6_setOf 29 = .ok (.iload_n 3, 1) := by decide +kernel
theorem dX6_setOf_30 : decode cX6_setOf 30 = .ok (.iconst 1, 1) := by decide +kernel
theorem dX6_setOf_31 : decode cX6_setOf 31 = .ok (.iload 4, 2) := by decide +kernel
theorem dX6_setOf_33 : decode cX6_setOf 33 = .ok (.ishl, 1) := by decide +kernel
theorem dX6_setOf_34 : decode cX6_setOf 34 = .ok (.ior, 1) := by decide +kernel
theorem dX6_setOf_35 : decode cX6_setOf 35 = .ok (.istore_n 3, 1) := by decide +kernel
theorem dX6_setOf_36 : decode cX6_setOf 36 = .ok (.iinc 4 1, 3) := by decide +kernel
theorem dX6_setOf_39 : decode cX6_setOf 39 = .ok (.goto (-34), 3) := by decide +kernel
theorem dX6_setOf_42 : decode cX6_setOf 42 = .ok (.iload_n 3, 1) := by decide +kernel
theorem dX6_setOf_43 : decode cX6_setOf 43 = .ok (.ireturn, 1) := by decide +kernel
theorem dX6_sumOf_0 : decode cX6_sumOf 0 = .ok (.iconst 0, 1) := by decide +kernel
theorem dX6_sumOf_1 : decode cX6_sumOf 1 = .ok (.istore_n 2, 1) := by decide +kernel
theorem dX6_sumOf_2 : decode cX6_sumOf 2 = .ok (.iconst 0, 1) := by decide +kernel
theorem dX6_sumOf_3 : decode cX6_sumOf 3 = .ok (.istore_n 3, 1) := by decide +kernel
theorem dX6_sumOf_4 : decode cX6_sumOf 4 = .ok (.iload_n 3, 1) := by decide +kernel
theorem dX6_sumOf_5 : decode cX6_sumOf 5 = .ok (.aload_n 0, 1) := by decide +kernel
theorem dX6_sumOf_6 : decode cX6_sumOf 6 = .ok (.getfield 24, 3) := by decide +kernel
theorem dX6_sumOf_9 : decode cX6_sumOf 9 = .ok (.if_icmp .ge 22, 3) := by decide +kernel
theorem dX6_sumOf_12 : decode cX6_sumOf 12 = .ok (.iload_n 2, 1) := by decide +kernel
theorem dX6_sumOf_13 : decode cX6_sumOf 13 = .ok (.aload_n 0, 1) := by decide +kernel
theorem dX6_sumOf_14 : decode cX6_sumOf 14 = .ok (.getfield 20, 3) := by decide +kernel
theorem dX6_sumOf_17 : decode cX6_sumOf 17 = .ok (.iload_n 3, 1) := by decide +kernel
theorem dX6_sumOf_18 : decode cX6_sumOf 18 = .ok (.aaload, 1) := by decide +kernel
theorem dX6_sumOf_19 : decode cX6_sumOf 19 = .ok (.iload_n 1, 1) := by decide +kernel
theorem dX6_sumOf_20 : decode cX6_sumOf 20 = .ok (.invokevirtual 67, 3) := by decide +kernel
theorem dX6_sumOf_23 : decode cX6_sumOf 23 = .ok (.iadd, 1) := by decide +kernel
theorem dX6_sumOf_24 : decode cX6_sumOf 24 = .ok (.istore_n 2, 1) := by decide +kernel
theorem dX6_sumOf_25 : decode cX6_sumOf 25 = .ok (.iinc 3 1, 3) := by decide +kernel
theorem dX6_sumOf_28 : decode cX6_sumOf 28 = .ok (.goto (-24), 3) := by decide +kernel
theorem dX6_sumOf_31 : decode cX6_sumOf 31 = .ok (.iload_n 2, 1) := by decide +kernel
theorem dX6_sumOf_32 : decode cX6_sumOf 32 = .ok (.ireturn, 1) := by decide +kernel
theorem dX6_spotsHolding_0 : decode cX6_spotsHolding 0 = .ok (.iconst 0, 1) := by decide +kernel
theorem dX6_spotsHolding_1 : decode cX6_spotsHolding 1 = .ok (.istore_n 1, 1) := by decide +kernel
theorem dX6_spotsHolding_2 : decode cX6_spotsHolding 2 = .ok (.iconst 0, 1) := by decide +kernel
theorem dX6_spotsHolding_3 : decode cX6_spotsHolding 3 = .ok (.istore_n 2, 1) := by decide +kernel
theorem dX6_spotsHolding_4 : decode cX6_spotsHolding 4 = .ok (.iload_n 2, 1) := by decide +kernel
theorem dX6_spotsHolding_5 : decode cX6_spotsHolding 5 = .ok (.bipush 10, 2) := by decide +kernel
theorem dX6_spotsHolding_7 : decode cX6_spotsHolding 7 = .ok (.if_icmp .ge 22, 3) := by decide +kernel
theorem dX6_spotsHolding_10 : decode cX6_spotsHolding 10 = .ok (.aload_n 0, 1) := by decide +kernel
theorem dX6_spotsHolding_11 : decode cX6_spotsHolding 11 = .ok (.getfield 28, 3) := by decide +kernel
theorem dX6_spotsHolding_14 : decode cX6_spotsHolding 14 = .ok (.iload_n 2, 1) := by decide +kernel
theorem dX6_spotsHolding_15 : decode cX6_spotsHolding 15 = .ok (.iaload, 1) := by decide +kernel
theorem dX6_spotsHolding_16 : decode cX6_spotsHolding 16 = .ok (.iconst (-1), 1) := by decide +kernel
theorem dX6_spotsHolding_17 : decode cX6_spotsHolding 17 = .ok (.if_icmp .eq 6, 3) := by decide +kernel
theorem dX6_spotsHolding_20 : decode cX6_spotsHolding 20 = .ok (.iinc 1 1, 3) := by decide +kernel
theorem dX6_spotsHolding_23 : decode cX6_spotsHolding 23 = .ok (.iinc 2 1, 3) := by decide +kernel
theorem dX6_spotsHolding_26 : decode cX6_spotsHolding 26 = .ok (.goto (-22), 3) := by decide +kernel
theorem dX6_spotsHolding_29 : decode cX6_spotsHolding 29 = .ok (.iload_n 1, 1) := by decide +kernel
theorem dX6_spotsHolding_30 : decode cX6_spotsHolding 30 = .ok (.ireturn, 1) := by decide +kernel
theorem dJ6_bitCount_0f7a4_0 : decode cJ6_bitCount_0f7a4 0 = .ok (.iload_n 0, 1) := by decide +kernel
theorem dJ6_bitCount_0f7a4_1 : decode cJ6_bitCount_0f7a4 1 = .ok (.iload_n 0, 1) := by decide +kernel
theorem dJ6_bitCount_0f7a4_2 : decode cJ6_bitCount_0f7a4 2 = .ok (.iconst 1, 1) := by decide +kernel
theorem dJ6_bitCount_0f7a4_3 : decode cJ6_bitCount_0f7a4 3 = .ok (.iushr, 1) := by decide +kernel
theorem dJ6_bitCount_0f7a4_4 : decode cJ6_bitCount_0f7a4 4 = .ok (.ldc_w 265, 3) := by decide +kernel
theorem dJ6_bitCount_0f7a4_7 : decode cJ6_bitCount_0f7a4 7 = .ok (.iand, 1) := by decide +kernel
theorem dJ6_bitCount_0f7a4_8 : decode cJ6_bitCount_0f7a4 8 = .ok (.isub, 1) := by decide +kernel
theorem dJ6_bitCount_0f7a4_9 : decode cJ6_bitCount_0f7a4 9 = .ok (.istore_n 0, 1) := by decide +kernel
theorem dJ6_bitCount_0f7a4_10 : decode cJ6_bitCount_0f7a4 10 = .ok (.iload_n 0, 1) := by decide +kernel
theorem dJ6_bitCount_0f7a4_11 : decode cJ6_bitCount_0f7a4 11 = .ok (.ldc_w 266, 3) := by decide +kernel
theorem dJ6_bitCount_0f7a4_14 : decode cJ6_bitCount_0f7a4 14 = .ok (.iand, 1) := by decide +kernel
theorem dJ6_bitCount_0f7a4_15 : decode cJ6_bitCount_0f7a4 15 = .ok (.iload_n 0, 1) := by decide +kernel
theorem dJ6_bitCount_0f7a4_16 : decode cJ6_bitCount_0f7a4 16 = .ok (.iconst 2, 1) := by decide +kernel
theorem dJ6_bitCount_0f7a4_17 : decode cJ6_bitCount_0f7a4 17 = .ok (.iushr, 1) := by decide +kernel
theorem dJ6_bitCount_0f7a4_18 : decode cJ6_bitCount_0f7a4 18 = .ok (.ldc_w 266, 3) := by decide +kernel
theorem dJ6_bitCount_0f7a4_21 : decode cJ6_bitCount_0f7a4 21 = .ok (.iand, 1) := by decide +kernel
theorem dJ6_bitCount_0f7a4_22 : decode cJ6_bitCount_0f7a4 22 = .ok (.iadd, 1) := by decide +kernel
theorem dJ6_bitCount_0f7a4_23 : decode cJ6_bitCount_0f7a4 23 = .ok (.istore_n 0, 1) := by decide +kernel
theorem dJ6_bitCount_0f7a4_24 : decode cJ6_bitCount_0f7a4 24 = .ok (.iload_n 0, 1) := by decide +kernel
theorem dJ6_bitCount_0f7a4_25 : decode cJ6_bitCount_0f7a4 25 = .ok (.iload_n 0, 1) := by decide +kernel
theorem dJ6_bitCount_0f7a4_26 : decode cJ6_bitCount_0f7a4 26 = .ok (.iconst 4, 1) := by decide +kernel
theorem dJ6_bitCount_0f7a4_27 : decode cJ6_bitCount_0f7a4 27 = .ok (.iushr, 1) := by decide +kernel
theorem dJ6_bitCount_0f7a4_28 : decode cJ6_bitCount_0f7a4 28 = .ok (.iadd, 1) := by decide +kernel
theorem dJ6_bitCount_0f7a4_29 : decode cJ6_bitCount_0f7a4 29 = .ok (.ldc_w 267, 3) := by decide +kernel
theorem dJ6_bitCount_0f7a4_32 : decode cJ6_bitCount_0f7a4 32 = .ok (.iand, 1) := by decide +kernel
theorem dJ6_bitCount_0f7a4_33 : decode cJ6_bitCount_0f7a4 33 = .ok (.istore_n 0, 1) := by decide +kernel
theorem dJ6_bitCount_0f7a4_34 : decode cJ6_bitCount_0f7a4 34 = .ok (.iload_n 0, 1) := by decide +kernel
theorem dJ6_bitCount_0f7a4_35 : decode cJ6_bitCount_0f7a4 35 = .ok (.iload_n 0, 1) := by decide +kernel
theorem dJ6_bitCount_0f7a4_36 : decode cJ6_bitCount_0f7a4 36 = .ok (.bipush 8, 2) := by decide +kernel
theorem dJ6_bitCount_0f7a4_38 : decode cJ6_bitCount_0f7a4 38 = .ok (.iushr, 1) := by decide +kernel
theorem dJ6_bitCount_0f7a4_39 : decode cJ6_bitCount_0f7a4 39 = .ok (.iadd, 1) := by decide +kernel
theorem dJ6_bitCount_0f7a4_40 : decode cJ6_bitCount_0f7a4 40 = .ok (.istore_n 0, 1) := by decide +kernel
theorem dJ6_bitCount_0f7a4_41 : decode cJ6_bitCount_0f7a4 41 = .ok (.iload_n 0, 1) := by decide +kernel
theorem dJ6_bitCount_0f7a4_42 : decode cJ6_bitCount_0f7a4 42 = .ok (.iload_n 0, 1) := by decide +kernel
theorem dJ6_bitCount_0f7a4_43 : decode cJ6_bitCount_0f7a4 43 = .ok (.bipush 16, 2) := by decide +kernel
theorem dJ6_bitCount_0f7a4_45 : decode cJ6_bitCount_0f7a4 45 = .ok (.iushr, 1) := by decide +kernel
theorem dJ6_bitCount_0f7a4_46 : decode cJ6_bitCount_0f7a4 46 = .ok (.iadd, 1) := by decide +kernel
theorem dJ6_bitCount_0f7a4_47 : decode cJ6_bitCount_0f7a4 47 = .ok (.istore_n 0, 1) := by decide +kernel
theorem dJ6_bitCount_0f7a4_48 : decode cJ6_bitCount_0f7a4 48 = .ok (.iload_n 0, 1) := by decide +kernel
theorem dJ6_bitCount_0f7a4_49 : decode cJ6_bitCount_0f7a4 49 = .ok (.bipush 63, 2) := by decide +kernel
theorem dJ6_bitCount_0f7a4_51 : decode cJ6_bitCount_0f7a4 51 = .ok (.iand, 1) := by decide +kernel
theorem dJ6_bitCount_0f7a4_52 : decode cJ6_bitCount_0f7a4 52 = .ok (.ireturn, 1) := by decide +kernel
theorem dJ9_max_7cf53_0 : decode cJ9_max_7cf53 0 = .ok (.iload_n 0, 1) := by decide +kernel
theorem dJ9_max_7cf53_1 : decode cJ9_max_7cf53 1 = .ok (.iload_n 1, 1) := by decide +kernel
theorem dJ9_max_7cf53_2 : decode cJ9_max_7cf53 2 = .ok (.if_icmp .lt 7, 3) := by decide +kernel
theorem dJ9_max_7cf53_5 : decode cJ9_max_7cf53 5 = .ok (.iload_n 0, 1) := by decide +kernel
theorem dJ9_max_7cf53_6 : decode cJ9_max_7cf53 6 = .ok (.goto 4, 3) := by decide +kernel
theorem dJ9_max_7cf53_9 : decode cJ9_max_7cf53 9 = .ok (.iload_n 1, 1) := by decide +kernel
theorem dJ9_max_7cf53_10 : decode cJ9_max_7cf53 10 = .ok (.ireturn, 1) := by decide +kernel
theorem dJ9_min_7cf53_0 : decode cJ9_min_7cf53 0 = .ok (.iload_n 0, 1) := by decide +kernel
theorem dJ9_min_7cf53_1 : decode cJ9_min_7cf53 1 = .ok (.iload_n 1, 1) := by decide +kernel
theorem dJ9_min_7cf53_2 : decode cJ9_min_7cf53 2 = .ok (.if_icmp .gt 7, 3) := by decide +kernel
theorem dJ9_min_7cf53_5 : decode cJ9_min_7cf53 5 = .ok (.iload_n 0, 1) := by decide +kernel
theorem dJ9_min_7cf53_6 : decode cJ9_min_7cf53 6 = .ok (.goto 4, 3) := by decide +kernel
theorem dJ9_min_7cf53_9 : decode cJ9_min_7cf53 9 = .ok (.iload_n 1, 1) := by decide +kernel
theorem dJ9_min_7cf53_10 : decode cJ9_min_7cf53 10 = .ok (.ireturn, 1) := by decide +kernel
theorem dJ0_length_8abf5_0 : decode cJ0_length_8abf5 0 = .ok (.aload_n 0, 1) := by decide +kernel
theorem dJ0_length_8abf5_1 : decode cJ0_length_8abf5 1 = .ok (.getfield 9, 3) := by decide +kernel
theorem dJ0_length_8abf5_4 : decode cJ0_length_8abf5 4 = .ok (.arraylength, 1) := by decide +kernel
theorem dJ0_length_8abf5_5 : decode cJ0_length_8abf5 5 = .ok (.aload_n 0, 1) := by decide +kernel
theorem dJ0_length_8abf5_6 : decode cJ0_length_8abf5 6 = .ok (.invokevirtual 335, 3) := by decide +kernel
theorem dJ0_length_8abf5_9 : decode cJ0_length_8abf5 9 = .ok (.ishr, 1) := by decide +kernel
theorem dJ0_length_8abf5_10 : decode cJ0_length_8abf5 10 = .ok (.ireturn, 1) := by decide +kernel
theorem dJ0_charAt_5068e_0 : decode cJ0_charAt_5068e 0 = .ok (.aload_n 0, 1) := by decide +kernel
theorem dJ0_charAt_5068e_1 : decode cJ0_charAt_5068e 1 = .ok (.invokevirtual 492, 3) := by decide +kernel
theorem dJ0_charAt_5068e_4 : decode cJ0_charAt_5068e 4 = .ok (.ifCond .eq 12, 3) := by decide +kernel
theorem dJ0_charAt_5068e_7 : decode cJ0_charAt_5068e 7 = .ok (.aload_n 0, 1) := by decide +kernel
theorem dJ0_charAt_5068e_8 : decode cJ0_charAt_5068e 8 = .ok (.getfield 9, 3) := by decide +kernel
theorem dJ0_charAt_5068e_11 : decode cJ0_charAt_5068e 11 = .ok (.iload_n 1, 1) := by decide +kernel
theorem dJ0_charAt_5068e_12 : decode cJ0_charAt_5068e 12 = .ok (.invokestatic 495, 3) := by decide +kernel
theorem dJ0_charAt_5068e_15 : decode cJ0_charAt_5068e 15 = .ok (.ireturn, 1) := by decide +kernel
theorem dJ0_charAt_5068e_16 : decode cJ0_charAt_5068e 16 = .ok (.aload_n 0, 1) := by decide +kernel
theorem dJ0_charAt_5068e_17 : decode cJ0_charAt_5068e 17 = .ok (.getfield 9, 3) := by decide +kernel
theorem dJ0_charAt_5068e_20 : decode cJ0_charAt_5068e 20 = .ok (.iload_n 1, 1) := by decide +kernel
theorem dJ0_charAt_5068e_21 : decode cJ0_charAt_5068e 21 = .ok (.invokestatic 498, 3) := by decide +kernel
theorem dJ0_charAt_5068e_24 : decode cJ0_charAt_5068e 24 = .ok (.ireturn, 1) := by decide +kernel
theorem dJ0_coder_7d493_0 : decode cJ0_coder_7d493 0 = .ok (.getstatic 38, 3) := by decide +kernel
theorem dJ0_coder_7d493_3 : decode cJ0_coder_7d493 3 = .ok (.ifCond .eq 10, 3) := by decide +kernel
theorem dJ0_coder_7d493_6 : decode cJ0_coder_7d493 6 = .ok (.aload_n 0, 1) := by decide +kernel
theorem dJ0_coder_7d493_7 : decode cJ0_coder_7d493 7 = .ok (.getfield 15, 3) := by decide +kernel
theorem dJ0_coder_7d493_10 : decode cJ0_coder_7d493 10 = .ok (.goto 4, 3) := by decide +kernel
theorem dJ0_coder_7d493_13 : decode cJ0_coder_7d493 13 = .ok (.iconst 1, 1) := by decide +kernel
theorem dJ0_coder_7d493_14 : decode cJ0_coder_7d493 14 = .ok (.ireturn, 1) := by decide +kernel
theorem dJ0_isLatin1_aae02_0 : decode cJ0_isLatin1_aae02 0 = .ok (.getstatic 38, 3) := by decide +kernel
theorem dJ0_isLatin1_aae02_3 : decode cJ0_isLatin1_aae02 3 = .ok (.ifCond .eq 14, 3) := by decide +kernel
theorem dJ0_isLatin1_aae02_6 : decode cJ0_isLatin1_aae02 6 = .ok (.aload_n 0, 1) := by decide +kernel
theorem dJ0_isLatin1_aae02_7 : decode cJ0_isLatin1_aae02 7 = .ok (.getfield 15, 3) := by decide +kernel
theorem dJ0_isLatin1_aae02_10 : decode cJ0_isLatin1_aae02 10 = .ok (.ifCond .ne 7, 3) := by decide +kernel
theorem dJ0_isLatin1_aae02_13 : decode cJ0_isLatin1_aae02 13 = .ok (.iconst 1, 1) := by decide +kernel
theorem dJ0_isLatin1_aae02_14 : decode cJ0_isLatin1_aae02 14 = .ok (.goto 4, 3) := by decide +kernel
theorem dJ0_isLatin1_aae02_17 : decode cJ0_isLatin1_aae02 17 = .ok (.iconst 0, 1) := by decide +kernel
theorem dJ0_isLatin1_aae02_18 : decode cJ0_isLatin1_aae02 18 = .ok (.ireturn, 1) := by decide +kernel
theorem dJ0_checkIndex_df160_0 : decode cJ0_checkIndex_df160 0 = .ok (.iload_n 0, 1) := by decide +kernel
theorem dJ0_checkIndex_df160_1 : decode cJ0_checkIndex_df160 1 = .ok (.iload_n 1, 1) := by decide +kernel
theorem dJ0_checkIndex_df160_2 : decode cJ0_checkIndex_df160 2 = .ok (.getstatic 1053, 3) := by decide +kernel
theorem dJ0_checkIndex_df160_5 : decode cJ0_checkIndex_df160 5 = .ok (.invokestatic 1059, 3) := by decide +kernel
theorem dJ0_checkIndex_df160_8 : decode cJ0_checkIndex_df160 8 = .ok (.pop, 1) := by decide +kernel
theorem dJ0_checkIndex_df160_9 : decode cJ0_checkIndex_df160 9 = .ok (.return_, 1) := by decide +kernel
theorem dJ1_charAt_3b067_0 : decode cJ1_charAt_3b067 0 = .ok (.iload_n 1, 1) := by decide +kernel
theorem dJ1_charAt_3b067_1 : decode cJ1_charAt_3b067 1 = .ok (.aload_n 0, 1) := by decide +kernel
theorem dJ1_charAt_3b067_2 : decode cJ1_charAt_3b067 2 = .ok (.arraylength, 1) := by decide +kernel
theorem dJ1_charAt_3b067_3 : decode cJ1_charAt_3b067 3 = .ok (.invokestatic 9, 3) := by decide +kernel
theorem dJ1_charAt_3b067_6 : decode cJ1_charAt_3b067 6 = .ok (.aload_n 0, 1) := by decide +kernel
theorem dJ1_charAt_3b067_7 : decode cJ1_charAt_3b067 7 = .ok (.iload_n 1, 1) := by decide +kernel
theorem dJ1_charAt_3b067_8 : decode cJ1_charAt_3b067 8 = .ok (.baload, 1) := by decide +kernel
theorem dJ1_charAt_3b067_9 : decode cJ1_charAt_3b067 9 = .ok (.sipush 255, 3) := by decide +kernel
theorem dJ1_charAt_3b067_12 : decode cJ1_charAt_3b067 12 = .ok (.iand, 1) := by decide +kernel
theorem dJ1_charAt_3b067_13 : decode cJ1_charAt_3b067 13 = .ok (.i2c, 1) := by decide +kernel
theorem dJ1_charAt_3b067_14 : decode cJ1_charAt_3b067 14 = .ok (.ireturn, 1) := by decide +kernel
theorem dJ2_getChar_3b067_0 : decode cJ2_getChar_3b067 0 = .ok (.getstatic 44, 3) := by decide +kernel
theorem dJ2_getChar_3b067_3 : decode cJ2_getChar_3b067 3 = .ok (.ifCond .ne 25, 3) := by decide +kernel
theorem dJ2_getChar_3b067_6 : decode cJ2_getChar_3b067 6 = .ok (.iload_n 1, 1) := by decide +kernel
theorem dJ2_getChar_3b067_7 : decode cJ2_getChar_3b067 7 = .ok (.ifCond .lt 11, 3) := by decide +kernel
theorem dJ2_getChar_3b067_10 : decode cJ2_getChar_3b067 10 = .ok (.iload_n 1, 1) := by decide +kernel
theorem dJ2_getChar_3b067_11 : decode cJ2_getChar_3b067 11 = .ok (.aload_n 0, 1) := by decide +kernel
theorem dJ2_getChar_3b067_12 : decode cJ2_getChar_3b067 12 = .ok (.invokestatic 48, 3) := by decide +kernel
theorem dJ2_getChar_3b067_15 : decode cJ2_getChar_3b067 15 = .ok (.if_icmp .lt 13, 3) := by decide +kernel
theorem dJ2_getChar_3b067_18 : decode cJ2_getChar_3b067 18 = .ok (.new 52, 3) := by decide +kernel
theorem dJ2_getChar_3b067_21 : decode cJ2_getChar_3b067 21 = .ok (.dup, 1) := by decide +kernel
theorem dJ2_getChar_3b067_22 : decode cJ2_getChar_3b067 22 = .ok (.ldc 54, 2) := by decide +kernel
theorem dJ2_getChar_3b067_24 : decode cJ2_getChar_3b067 24 = .ok (.invokespecial 56, 3) := by decide +kernel
theorem dJ2_getChar_3b067_27 : decode cJ2_getChar_3b067 27 = .ok (.athrow, 1) := by decide +kernel
theorem dJ2_getChar_3b067_28 : decode cJ2_getChar_3b067 28 = .ok (.iload_n 1, 1) := by decide +kernel
theorem dJ2_getChar_3b067_29 : decode cJ2_getChar_3b067 29 = .ok (.iconst 1, 1) := by decide +kernel
theorem dJ2_getChar_3b067_30 : decode cJ2_getChar_3b067 30 = .ok (.ishl, 1) := by decide +kernel
theorem dJ2_getChar_3b067_31 : decode cJ2_getChar_3b067 31 = .ok (.istore_n 1, 1) := by decide +kernel
theorem dJ2_getChar_3b067_32 : decode cJ2_getChar_3b067 32 = .ok (.aload_n 0, 1) := by decide +kernel
theorem dJ2_getChar_3b067_33 : decode cJ2_getChar_3b067 33 = .ok (.iload_n 1, 1) := by decide +kernel
theorem dJ2_getChar_3b067_34 : decode cJ2_getChar_3b067 34 = .ok (.iinc 1 1, 3) := by decide +kernel
theorem dJ2_getChar_3b067_37 : decode cJ2_getChar_3b067 37 = .ok (.baload, 1) := by decide +kernel
theorem dJ2_getChar_3b067_38 : decode cJ2_getChar_3b067 38 = .ok (.sipush 255, 3) := by decide +kernel
theorem dJ2_getChar_3b067_41 : decode cJ2_getChar_3b067 41 = .ok (.iand, 1) := by decide +kernel
theorem dJ2_getChar_3b067_42 : decode cJ2_getChar_3b067 42 = .ok (.getstatic 59, 3) := by decide +kernel
theorem dJ2_getChar_3b067_45 : decode cJ2_getChar_3b067 45 = .ok (.ishl, 1) := by decide +kernel
theorem dJ2_getChar_3b067_46 : decode cJ2_getChar_3b067 46 = .ok (.aload_n 0, 1) := by decide +kernel
theorem dJ2_getChar_3b067_47 : decode cJ2_getChar_3b067 47 = .ok (.iload_n 1, 1) := by decide +kernel
theorem dJ2_getChar_3b067_48 : decode cJ2_getChar_3b067 48 = .ok (.baload, 1) := by decide +kernel
theorem dJ2_getChar_3b067_49 : decode cJ2_getChar_3b067 49 = .ok (.sipush 255, 3) := by decide +kernel
theorem dJ2_getChar_3b067_52 : decode cJ2_getChar_3b067 52 = .ok (.iand, 1) := by decide +kernel
theorem dJ2_getChar_3b067_53 : decode cJ2_getChar_3b067 53 = .ok (.getstatic 63, 3) := by decide +kernel
theorem dJ2_getChar_3b067_56 : decode cJ2_getChar_3b067 56 = .ok (.ishl, 1) := by decide +kernel
theorem dJ2_getChar_3b067_57 : decode cJ2_getChar_3b067 57 = .ok (.ior, 1) := by decide +kernel
theorem dJ2_getChar_3b067_58 : decode cJ2_getChar_3b067 58 = .ok (.i2c, 1) := by decide +kernel
theorem dJ2_getChar_3b067_59 : decode cJ2_getChar_3b067 59 = .ok (.ireturn, 1) := by decide +kernel
theorem dJ2_length_9d52b_0 : decode cJ2_length_9d52b 0 = .ok (.aload_n 0, 1) := by decide +kernel
theorem dJ2_length_9d52b_1 : decode cJ2_length_9d52b 1 = .ok (.arraylength, 1) := by decide +kernel
theorem dJ2_length_9d52b_2 : decode cJ2_length_9d52b 2 = .ok (.iconst 1, 1) := by decide +kernel
theorem dJ2_length_9d52b_3 : decode cJ2_length_9d52b 3 = .ok (.ishr, 1) := by decide +kernel
theorem dJ2_length_9d52b_4 : decode cJ2_length_9d52b 4 = .ok (.ireturn, 1) := by decide +kernel
theorem dJ2_charAt_3b067_0 : decode cJ2_charAt_3b067 0 = .ok (.iload_n 1, 1) := by decide +kernel
theorem dJ2_charAt_3b067_1 : decode cJ2_charAt_3b067 1 = .ok (.aload_n 0, 1) := by decide +kernel
theorem dJ2_charAt_3b067_2 : decode cJ2_charAt_3b067 2 = .ok (.invokestatic 67, 3) := by decide +kernel
theorem dJ2_charAt_3b067_5 : decode cJ2_charAt_3b067 5 = .ok (.aload_n 0, 1) := by decide +kernel
theorem dJ2_charAt_3b067_6 : decode cJ2_charAt_3b067 6 = .ok (.iload_n 1, 1) := by decide +kernel
theorem dJ2_charAt_3b067_7 : decode cJ2_charAt_3b067 7 = .ok (.invokestatic 71, 3) := by decide +kernel
theorem dJ2_charAt_3b067_10 : decode cJ2_charAt_3b067 10 = .ok (.ireturn, 1) := by decide +kernel
theorem dJ2_checkIndex_2214a_0 : decode cJ2_checkIndex_2214a 0 = .ok (.iload_n 0, 1) := by decide +kernel
theorem dJ2_checkIndex_2214a_1 : decode cJ2_checkIndex_2214a 1 = .ok (.aload_n 1, 1) := by decide +kernel
theorem dJ2_checkIndex_2214a_2 : decode cJ2_checkIndex_2214a 2 = .ok (.invokestatic 48, 3) := by decide +kernel
theorem dJ2_checkIndex_2214a_5 : decode cJ2_checkIndex_2214a 5 = .ok (.invokestatic 414, 3) := by decide +kernel
theorem dJ2_checkIndex_2214a_8 : decode cJ2_checkIndex_2214a 8 = .ok (.return_, 1) := by decide +kernel
theorem dJ7_fill_53178_0 : decode cJ7_fill_53178 0 = .ok (.iconst 0, 1) := by decide +kernel
theorem dJ7_fill_53178_1 : decode cJ7_fill_53178 1 = .ok (.istore_n 2, 1) := by decide +kernel
theorem dJ7_fill_53178_2 : decode cJ7_fill_53178 2 = .ok (.aload_n 0, 1) := by decide +kernel
theorem dJ7_fill_53178_3 : decode cJ7_fill_53178 3 = .ok (.arraylength, 1) := by decide +kernel
theorem dJ7_fill_53178_4 : decode cJ7_fill_53178 4 = .ok (.istore_n 3, 1) := by decide +kernel
theorem dJ7_fill_53178_5 : decode cJ7_fill_53178 5 = .ok (.iload_n 2, 1) := by decide +kernel
theorem dJ7_fill_53178_6 : decode cJ7_fill_53178 6 = .ok (.iload_n 3, 1) := by decide +kernel
theorem dJ7_fill_53178_7 : decode cJ7_fill_53178 7 = .ok (.if_icmp .ge 13, 3) := by decide +kernel
theorem dJ7_fill_53178_10 : decode cJ7_fill_53178 10 = .ok (.aload_n 0, 1) := by decide +kernel
theorem dJ7_fill_53178_11 : decode cJ7_fill_53178 11 = .ok (.iload_n 2, 1) := by decide +kernel
theorem dJ7_fill_53178_12 : decode cJ7_fill_53178 12 = .ok (.iload_n 1, 1) := by decide +kernel
theorem dJ7_fill_53178_13 : decode cJ7_fill_53178 13 = .ok (.iastore, 1) := by decide +kernel
theorem dJ7_fill_53178_14 : decode cJ7_fill_53178 14 = .ok (.iinc 2 1, 3) := by decide +kernel
theorem dJ7_fill_53178_17 : decode cJ7_fill_53178 17 = .ok (.goto (-12), 3) := by decide +kernel
theorem dJ7_fill_53178_20 : decode cJ7_fill_53178 20 = .ok (.return_, 1) := by decide +kernel
theorem dJ3_checkIndex_8e157_0 : decode cJ3_checkIndex_8e157 0 = .ok (.iload_n 0, 1) := by decide +kernel
theorem dJ3_checkIndex_8e157_1 : decode cJ3_checkIndex_8e157 1 = .ok (.ifCond .lt 8, 3) := by decide +kernel
theorem dJ3_checkIndex_8e157_4 : decode cJ3_checkIndex_8e157 4 = .ok (.iload_n 0, 1) := by decide +kernel
theorem dJ3_checkIndex_8e157_5 : decode cJ3_checkIndex_8e157 5 = .ok (.iload_n 1, 1) := by decide +kernel
theorem dJ3_checkIndex_8e157_6 : decode cJ3_checkIndex_8e157 6 = .ok (.if_icmp .lt 10, 3) := by decide +kernel
theorem dJ3_checkIndex_8e157_9 : decode cJ3_checkIndex_8e157 9 = .ok (.aload_n 2, 1) := by decide +kernel
theorem dJ3_checkIndex_8e157_10 : decode cJ3_checkIndex_8e157 10 = .ok (.iload_n 0, 1) := by decide +kernel
theorem dJ3_checkIndex_8e157_11 : decode cJ3_checkIndex_8e157 11 = .ok (.iload_n 1, 1) := by decide +kernel
theorem dJ3_checkIndex_8e157_12 : decode cJ3_checkIndex_8e157 12 = .ok (.invokestatic 95, 3) := by decide +kernel
theorem dJ3_checkIndex_8e157_15 : decode cJ3_checkIndex_8e157 15 = .ok (.athrow, 1) := by decide +kernel
theorem dJ3_checkIndex_8e157_16 : decode cJ3_checkIndex_8e157 16 = .ok (.iload_n 0, 1) := by decide +kernel
theorem dJ3_checkIndex_8e157_17 : decode cJ3_checkIndex_8e157 17 = .ok (.ireturn, 1) := by decide +kernel
