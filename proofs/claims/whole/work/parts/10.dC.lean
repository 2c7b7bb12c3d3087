theorem dX8_init_0 : decode cX8_init 0 = .ok (.aload_n 0, 1) := by decide +kernel
theorem dX8_init_1 : decode cX8_init 1 = .ok (.invokespecial 1, 3) := by decide +kernel
theorem dX8_init_4 : decode cX8_init 4 = .ok (.aload_n 0, 1) := by decide +kernel
theorem dX8_init_5 : decode cX8_init 5 = .ok (.bipush 127, 2) := by decide +kernel
theorem dX8_init_7 : decode cX8_init 7 = .ok (.newarray .int, 2) := by decide +kernel
theorem dX8_init_9 : decode cX8_init 9 = .ok (.putfield 7, 3) := by decide +kernel
theorem dX8_init_12 : decode cX8_init 12 = .ok (.aload_n 0, 1) := by decide +kernel
theorem dX8_init_13 : decode cX8_init 13 = .ok (.bipush 127, 2) := by decide +kernel
theorem dX8_init_15 : decode cX8_init 15 = .ok (.newarray .int, 2) := by decide +kernel
theorem dX8_init_17 : decode cX8_init 17 = .ok (.putfield 13, 3) := by decide +kernel
theorem dX8_init_20 : decode cX8_init 20 = .ok (.aload_n 0, 1) := by decide +kernel
theorem dX8_init_21 : decode cX8_init 21 = .ok (.bipush 127, 2) := by decide +kernel
theorem dX8_init_23 : decode cX8_init 23 = .ok (.newarray .int, 2) := by decide +kernel
theorem dX8_init_25 : decode cX8_init 25 = .ok (.putfield 16, 3) := by decide +kernel
theorem dX8_init_28 : decode cX8_init 28 = .ok (.aload_n 0, 1) := by decide +kernel
theorem dX8_init_29 : decode cX8_init 29 = .ok (.bipush 127, 2) := by decide +kernel
theorem dX8_init_31 : decode cX8_init 31 = .ok (.newarray .int, 2) := by decide +kernel
theorem dX8_init_33 : decode cX8_init 33 = .ok (.putfield 19, 3) := by decide +kernel
theorem dX8_init_36 : decode cX8_init 36 = .ok (.aload_n 0, 1) := by decide +kernel
theorem dX8_init_37 : decode cX8_init 37 = .ok (.bipush 8, 2) := by decide +kernel
theorem dX8_init_39 : decode cX8_init 39 = .ok (.newarray .int, 2) := by decide +kernel
theorem dX8_init_41 : decode cX8_init 41 = .ok (.putfield 22, 3) := by decide +kernel
theorem dX8_init_44 : decode cX8_init 44 = .ok (.aload_n 0, 1) := by decide +kernel
theorem dX8_init_45 : decode cX8_init 45 = .ok (.bipush 120, 2) := by decide +kernel
theorem dX8_init_47 : decode cX8_init 47 = .ok (.newarray .int, 2) := by decide +kernel
theorem dX8_init_49 : decode cX8_init 49 = .ok (.putfield 25, 3) := by decide +kernel
theorem dX8_init_52 : decode cX8_init 52 = .ok (.aload_n 0, 1) := by decide +kernel
theorem dX8_init_53 : decode cX8_init 53 = .ok (.iconst 4, 1) := by decide +kernel
theorem dX8_init_54 : decode cX8_init 54 = .ok (.newarray .int, 2) := by decide +kernel
theorem dX8_init_56 : decode cX8_init 56 = .ok (.dup, 1) := by decide +kernel
theorem dX8_init_57 : decode cX8_init 57 = .ok (.iconst 0, 1) := by decide +kernel
theorem dX8_init_58 : decode cX8_init 58 = .ok (.iconst (-1), 1) := by decide +kernel
theorem dX8_init_59 : decode cX8_init 59 = .ok (.iastore, 1) := by decide +kernel
theorem dX8_init_60 : decode cX8_init 60 = .ok (.dup, 1) := by decide +kernel
theorem dX8_init_61 : decode cX8_init 61 = .ok (.iconst 1, 1) := by decide +kernel
theorem dX8_init_62 : decode cX8_init 62 = .ok (.iconst (-1), 1) := by decide +kernel
theorem dX8_init_63 : decode cX8_init 63 = .ok (.iastore, 1) := by decide +kernel
theorem dX8_init_64 : decode cX8_init 64 = .ok (.dup, 1) := by decide +kernel
theorem dX8_init_65 : decode cX8_init 65 = .ok (.iconst 2, 1) := by decide +kernel
theorem dX8_init_66 : decode cX8_init 66 = .ok (.iconst (-1), 1) := by decide +kernel
theorem dX8_init_67 : decode cX8_init 67 = .ok (.iastore, 1) := by decide +kernel
theorem dX8_init_68 : decode cX8_init 68 = .ok (.dup, 1) := by decide +kernel
theorem dX8_init_69 : decode cX8_init 69 = .ok (.iconst 3, 1) := by decide +kernel
theorem dX8_init_70 : decode cX8_init 70 = .ok (.iconst (-1), 1) := by decide +kernel
theorem dX8_init_71 : decode cX8_init 71 = .ok (.iastore, 1) := by decide +kernel
theorem dX8_init_72 : decode cX8_init 72 = .ok (.putfield 28, 3) := by decide +kernel
theorem dX8_init_75 : decode cX8_init 75 = .ok (.aload_n 0, 1) := by decide +kernel
theorem dX8_init_76 : decode cX8_init 76 = .ok (.iconst 4, 1) := by decide +kernel
theorem dX8_init_77 : decode cX8_init 77 = .ok (.newarray .int, 2) := by decide +kernel
theorem dX8_init_79 : decode cX8_init 79 = .ok (.putfield 31, 3) := by decide +kernel
theorem dX8_init_82 : decode cX8_init 82 = .ok (.aload_n 0, 1) := by decide +kernel
theorem dX8_init_83 : decode cX8_init 83 = .ok (.sipush 160, 3) := by decide +kernel
theorem dX8_init_86 : decode cX8_init 86 = .ok (.newarray .int, 2) := by decide +kernel
theorem dX8_init_88 : decode cX8_init 88 = .ok (.putfield 34, 3) := by decide +kernel
theorem dX8_init_91 : decode cX8_init 91 = .ok (.aload_n 0, 1) := by decide +kernel
theorem dX8_init_92 : decode cX8_init 92 = .ok (.getfield 7, 3) := by decide +kernel
theorem dX8_init_95 : decode cX8_init 95 = .ok (.iconst 2, 1) := by decide +kernel
theorem dX8_init_96 : decode cX8_init 96 = .ok (.iconst 1, 1) := by decide +kernel
theorem dX8_init_97 : decode cX8_init 97 = .ok (.iastore, 1) := by decide +kernel
theorem dX8_init_98 : decode cX8_init 98 = .ok (.aload_n 0, 1) := by decide +kernel
theorem dX8_init_99 : decode cX8_init 99 = .ok (.getfield 7, 3) := by decide +kernel
theorem dX8_init_102 : decode cX8_init 102 = .ok (.iconst 3, 1) := by decide +kernel
theorem dX8_init_103 : decode cX8_init 103 = .ok (.bipush 8, 2) := by decide +kernel
theorem dX8_init_105 : decode cX8_init 105 = .ok (.iastore, 1) := by decide +kernel
theorem dX8_init_106 : decode cX8_init 106 = .ok (.aload_n 0, 1) := by decide +kernel
theorem dX8_init_107 : decode cX8_init 107 = .ok (.getfield 7, 3) := by decide +kernel
theorem dX8_init_110 : decode cX8_init 110 = .ok (.iconst 4, 1) := by decide +kernel
theorem dX8_init_111 : decode cX8_init 111 = .ok (.bipush 20, 2) := by decide +kernel
theorem dX8_init_113 : decode cX8_init 113 = .ok (.iastore, 1) := by decide +kernel
theorem dX8_init_114 : decode cX8_init 114 = .ok (.iconst 0, 1) := by decide +kernel
theorem dX8_init_115 : decode cX8_init 115 = .ok (.istore_n 1, 1) := by decide +kernel
theorem dX8_init_116 : decode cX8_init 116 = .ok (.iload_n 1, 1) := by decide +kernel
theorem dX8_init_117 : decode cX8_init 117 = .ok (.bipush 16, 2) := by decide +kernel
theorem dX8_init_119 : decode cX8_init 119 = .ok (.if_icmp .ge 20, 3) := by decide +kernel
theorem dX8_init_122 : decode cX8_init 122 = .ok (.aload_n 0, 1) := by decide +kernel
theorem dX8_init_123 : decode cX8_init 123 = .ok (.getfield 7, 3) := by decide +kernel
theorem dX8_init_126 : decode cX8_init 126 = .ok (.bipush 21, 2) := by decide +kernel
theorem dX8_init_128 : decode cX8_init 128 = .ok (.iload_n 1, 1) := by decide +kernel
theorem dX8_init_129 : decode cX8_init 129 = .ok (.iadd, 1) := by decide +kernel
theorem dX8_init_130 : decode cX8_init 130 = .ok (.bipush 10, 2) := by decide +kernel
theorem dX8_init_132 : decode cX8_init 132 = .ok (.iastore, 1) := by decide +kernel
theorem dX8_init_133 : decode cX8_init 133 = .ok (.iinc 1 1, 3) := by decide +kernel
theorem dX8_init_136 : decode cX8_init 136 = .ok (.goto (-20), 3) := by decide +kernel
theorem dX8_init_139 : decode cX8_init 139 = .ok (.iconst 0, 1) := by decide +kernel
theorem dX8_init_140 : decode cX8_init 140 = .ok (.istore_n 1, 1) := by decide +kernel
theorem dX8_init_141 : decode cX8_init 141 = .ok (.iload_n 1, 1) := by decide +kernel
theorem dX8_init_142 : decode cX8_init 142 = .ok (.bipush 10, 2) := by decide +kernel
theorem dX8_init_144 : decode cX8_init 144 = .ok (.if_icmp .ge 19, 3) := by decide +kernel
theorem dX8_init_147 : decode cX8_init 147 = .ok (.aload_n 0, 1) := by decide +kernel
theorem dX8_init_148 : decode cX8_init 148 = .ok (.getfield 7, 3) := by decide +kernel
theorem dX8_init_151 : decode cX8_init 151 = .ok (.bipush 117, 2) := by decide +kernel
theorem dX8_init_153 : decode cX8_init 153 = .ok (.iload_n 1, 1) := by decide +kernel
theorem dX8_init_154 : decode cX8_init 154 = .ok (.iadd, 1) := by decide +kernel
theorem dX8_init_155 : decode cX8_init 155 = .ok (.iconst (-1), 1) := by decide +kernel
theorem dX8_init_156 : decode cX8_init 156 = .ok (.iastore, 1) := by decide +kernel
theorem dX8_init_157 : decode cX8_init 157 = .ok (.iinc 1 1, 3) := by decide +kernel
theorem dX8_init_160 : decode cX8_init 160 = .ok (.goto (-19), 3) := by decide +kernel
theorem dX8_init_163 : decode cX8_init 163 = .ok (.return_, 1) := by decide +kernel
theorem dX8_isIn_0 : decode cX8_isIn 0 = .ok (.lload_n 0, 1) := by decide +kernel
theorem dX8_isIn_1 : decode cX8_isIn 1 = .ok (.lload_n 2, 1) := by decide +kernel
theorem dX8_isIn_2 : decode cX8_isIn 2 = .ok (.lcmp, 1) := by decide +kernel
theorem dX8_isIn_3 : decode cX8_isIn 3 = .ok (.ifCond .lt 14, 3) := by decide +kernel
theorem dX8_isIn_6 : decode cX8_isIn 6 = .ok (.lload_n 0, 1) := by decide +kernel
theorem dX8_isIn_7 : decode cX8_isIn 7 = .ok (.lload 4, 2) := by decide +kernel
theorem dX8_isIn_9 : decode cX8_isIn 9 = .ok (.lcmp, 1) := by decide +kernel
theorem dX8_isIn_10 : decode cX8_isIn 10 = .ok (.ifCond .gt 7, 3) := by decide +kernel
theorem dX8_isIn_13 : decode cX8_isIn 13 = .ok (.iconst 1, 1) := by decide +kernel
theorem dX8_isIn_14 : decode cX8_isIn 14 = .ok (.goto 4, 3) := by decide +kernel
theorem dX8_isIn_17 : decode cX8_isIn 17 = .ok (.iconst 0, 1) := by decide +kernel
theorem dX8_isIn_18 : decode cX8_isIn 18 = .ok (.ireturn, 1) := by decide +kernel
theorem dX8_finds_0 : decode cX8_finds 0 = .ok (.aload_n 0, 1) := by decide +kernel
theorem dX8_finds_1 : decode cX8_finds 1 = .ok (.getfield 22, 3) := by decide +kernel
theorem dX8_finds_4 : decode cX8_finds 4 = .ok (.iconst 0, 1) := by decide +kernel
theorem dX8_finds_5 : decode cX8_finds 5 = .ok (.dup2, 1) := by decide +kernel
theorem dX8_finds_6 : decode cX8_finds 6 = .ok (.iaload, 1) := by decide +kernel
theorem dX8_finds_7 : decode cX8_finds 7 = .ok (.iconst 1, 1) := by decide +kernel
theorem dX8_finds_8 : decode cX8_finds 8 = .ok (.iadd, 1) := by decide +kernel
theorem dX8_finds_9 : decode cX8_finds 9 = .ok (.iastore, 1) := by decide +kernel
theorem dX8_finds_10 : decode cX8_finds 10 = .ok (.aload_n 0, 1) := by decide +kernel
theorem dX8_finds_11 : decode cX8_finds 11 = .ok (.getfield 22, 3) := by decide +kernel
theorem dX8_finds_14 : decode cX8_finds 14 = .ok (.ldc 37, 2) := by decide +kernel
theorem dX8_finds_16 : decode cX8_finds 16 = .ok (.iload_n 1, 1) := by decide +kernel
theorem dX8_finds_17 : decode cX8_finds 17 = .ok (.isub, 1) := by decide +kernel
theorem dX8_finds_18 : decode cX8_finds 18 = .ok (.iconst 1, 1) := by decide +kernel
theorem dX8_finds_19 : decode cX8_finds 19 = .ok (.iadd, 1) := by decide +kernel
theorem dX8_finds_20 : decode cX8_finds 20 = .ok (.dup2, 1) := by decide +kernel
theorem dX8_finds_21 : decode cX8_finds 21 = .ok (.iaload, 1) := by decide +kernel
theorem dX8_finds_22 : decode cX8_finds 22 = .ok (.iconst 1, 1) := by decide +kernel
theorem dX8_finds_23 : decode cX8_finds 23 = .ok (.iadd, 1) := by decide +kernel
theorem dX8_finds_24 : decode cX8_finds 24 = .ok (.iastore, 1) := by decide +kernel
theorem dX8_finds_25 : decode cX8_finds 25 = .ok (.iload_n 1, 1) := by decide +kernel
theorem dX8_finds_26 : decode cX8_finds 26 = .ok (.ireturn, 1) := by decide +kernel
theorem dX8_becomes_0 : decode cX8_becomes 0 = .ok (.aload_n 0, 1) := by decide +kernel
theorem dX8_becomes_1 : decode cX8_becomes 1 = .ok (.getfield 7, 3) := by decide +kernel
theorem dX8_becomes_4 : decode cX8_becomes 4 = .ok (.iload_n 1, 1) := by decide +kernel
theorem dX8_becomes_5 : decode cX8_becomes 5 = .ok (.iaload, 1) := by decide +kernel
theorem dX8_becomes_6 : decode cX8_becomes 6 = .ok (.istore_n 3, 1) := by decide +kernel
theorem dX8_becomes_7 : decode cX8_becomes 7 = .ok (.aload_n 0, 1) := by decide +kernel
theorem dX8_becomes_8 : decode cX8_becomes 8 = .ok (.getfield 7, 3) := by decide +kernel
theorem dX8_becomes_11 : decode cX8_becomes 11 = .ok (.iload_n 1, 1) := by decide +kernel
theorem dX8_becomes_12 : decode cX8_becomes 12 = .ok (.iload_n 2, 1) := by decide +kernel
theorem dX8_becomes_13 : decode cX8_becomes 13 = .ok (.iastore, 1) := by decide +kernel
theorem dX8_becomes_14 : decode cX8_becomes 14 = .ok (.iload_n 3, 1) := by decide +kernel
theorem dX8_becomes_15 : decode cX8_becomes 15 = .ok (.ireturn, 1) := by decide +kernel
theorem dX8_copyRow_0 : decode cX8_copyRow 0 = .ok (.iconst 0, 1) := by decide +kernel
theorem dX8_copyRow_1 : decode cX8_copyRow 1 = .ok (.istore_n 2, 1) := by decide +kernel
theorem dX8_copyRow_2 : decode cX8_copyRow 2 = .ok (.iload_n 2, 1) := by decide +kernel
theorem dX8_copyRow_3 : decode cX8_copyRow 3 = .ok (.bipush 127, 2) := by decide +kernel
theorem dX8_copyRow_5 : decode cX8_copyRow 5 = .ok (.if_icmp .ge 15, 3) := by decide +kernel
theorem dX8_copyRow_8 : decode cX8_copyRow 8 = .ok (.aload_n 1, 1) := by decide +kernel
theorem dX8_copyRow_9 : decode cX8_copyRow 9 = .ok (.iload_n 2, 1) := by decide +kernel
theorem dX8_copyRow_10 : decode cX8_copyRow 10 = .ok (.aload_n 0, 1) := by decide +kernel
theorem dX8_copyRow_11 : decode cX8_copyRow 11 = .ok (.iload_n 2, 1) := by decide +kernel
theorem dX8_copyRow_12 : decode cX8_copyRow 12 = .ok (.iaload, 1) := by decide +kernel
theorem dX8_copyRow_13 : decode cX8_copyRow 13 = .ok (.iastore, 1) := by decide +kernel
theorem dX8_copyRow_14 : decode cX8_copyRow 14 = .ok (.iinc 2 1, 3) := by decide +kernel
theorem dX8_copyRow_17 : decode cX8_copyRow 17 = .ok (.goto (-15), 3) := by decide +kernel
theorem dX8_copyRow_20 : decode cX8_copyRow 20 = .ok (.return_, 1) := by decide +kernel
theorem dX8_isStep_0 : decode cX8_isStep 0 = .ok (.iload_n 0, 1) := by decide +kernel
theorem dX8_isStep_1 : decode cX8_isStep 1 = .ok (.ifCond .lt 13, 3) := by decide +kernel
theorem dX8_isStep_4 : decode cX8_isStep 4 = .ok (.iload_n 0, 1) := by decide +kernel
theorem dX8_isStep_5 : decode cX8_isStep 5 = .ok (.bipush 16, 2) := by decide +kernel
theorem dX8_isStep_7 : decode cX8_isStep 7 = .ok (.if_icmp .ge 7, 3) := by decide +kernel
theorem dX8_isStep_10 : decode cX8_isStep 10 = .ok (.iconst 1, 1) := by decide +kernel
theorem dX8_isStep_11 : decode cX8_isStep 11 = .ok (.goto 4, 3) := by decide +kernel
theorem dX8_isStep_14 : decode cX8_isStep 14 = .ok (.iconst 0, 1) := by decide +kernel
theorem dX8_isStep_15 : decode cX8_isStep 15 = .ok (.ireturn, 1) := by decide +kernel
theorem dX8_isUmbrella_0 : decode cX8_isUmbrella 0 = .ok (.iload_n 1, 1) := by decide +kernel
theorem dX8_isUmbrella_1 : decode cX8_isUmbrella 1 = .ok (.ifCond .lt 17, 3) := by decide +kernel
theorem dX8_isUmbrella_4 : decode cX8_isUmbrella 4 = .ok (.iload_n 1, 1) := by decide +kernel
theorem dX8_isUmbrella_5 : decode cX8_isUmbrella 5 = .ok (.aload_n 0, 1) := by decide +kernel
theorem dX8_isUmbrella_6 : decode cX8_isUmbrella 6 = .ok (.getfield 7, 3) := by decide +kernel
theorem dX8_isUmbrella_9 : decode cX8_isUmbrella 9 = .ok (.iconst 0, 1) := by decide +kernel
theorem dX8_isUmbrella_10 : decode cX8_isUmbrella 10 = .ok (.iaload, 1) := by decide +kernel
theorem dX8_isUmbrella_11 : decode cX8_isUmbrella 11 = .ok (.if_icmp .ge 7, 3) := by decide +kernel
theorem dX8_isUmbrella_14 : decode cX8_isUmbrella 14 = .ok (.iconst 1, 1) := by decide +kernel
theorem dX8_isUmbrella_15 : decode cX8_isUmbrella 15 = .ok (.goto 4, 3) := by decide +kernel
theorem dX8_isUmbrella_18 : decode cX8_isUmbrella 18 = .ok (.iconst 0, 1) := by decide +kernel
theorem dX8_isUmbrella_19 : decode cX8_isUmbrella 19 = .ok (.ireturn, 1) := by decide +kernel
theorem dX8_at_0 : decode cX8_at 0 = .ok (.bipush 53, 2) := by decide +kernel
theorem dX8_at_2 : decode cX8_at 2 = .ok (.bipush 8, 2) := by decide +kernel
theorem dX8_at_4 : decode cX8_at 4 = .ok (.iload_n 0, 1) := by decide +kernel
theorem dX8_at_5 : decode cX8_at 5 = .ok (.imul, 1) := by decide +kernel
theorem dX8_at_6 : decode cX8_at 6 = .ok (.iadd, 1) := by decide +kernel
theorem dX8_at_7 : decode cX8_at 7 = .ok (.iload_n 1, 1) := by decide +kernel
theorem dX8_at_8 : decode cX8_at 8 = .ok (.iadd, 1) := by decide +kernel
theorem dX8_at_9 : decode cX8_at 9 = .ok (.ireturn, 1) := by decide +kernel
theorem dX8_its_0 : decode cX8_its 0 = .ok (.aload_n 0, 1) := by decide +kernel
theorem dX8_its_1 : decode cX8_its 1 = .ok (.getfield 7, 3) := by decide +kernel
theorem dX8_its_4 : decode cX8_its 4 = .ok (.bipush 53, 2) := by decide +kernel
theorem dX8_its_6 : decode cX8_its 6 = .ok (.bipush 8, 2) := by decide +kernel
theorem dX8_its_8 : decode cX8_its 8 = .ok (.iload_n 1, 1) := by decide +kernel
theorem dX8_its_9 : decode cX8_its 9 = .ok (.imul, 1) := by decide +kernel
theorem dX8_its_10 : decode cX8_its 10 = .ok (.iadd, 1) := by decide +kernel
theorem dX8_its_11 : decode cX8_its 11 = .ok (.iload_n 2, 1) := by decide +kernel
theorem dX8_its_12 : decode cX8_its 12 = .ok (.iadd, 1) := by decide +kernel
theorem dX8_its_13 : decode cX8_its 13 = .ok (.iaload, 1) := by decide +kernel
theorem dX8_its_14 : decode cX8_its 14 = .ok (.ireturn, 1) := by decide +kernel
theorem dX8_least_0 : decode cX8_least 0 = .ok (.iload_n 0, 1) := by decide +kernel
theorem dX8_least_1 : decode cX8_least 1 = .ok (.iload_n 1, 1) := by decide +kernel
theorem dX8_least_2 : decode cX8_least 2 = .ok (.if_icmp .ge 7, 3) := by decide +kernel
theorem dX8_least_5 : decode cX8_least 5 = .ok (.iload_n 0, 1) := by decide +kernel
theorem dX8_least_6 : decode cX8_least 6 = .ok (.goto 4, 3) := by decide +kernel
theorem dX8_least_9 : decode cX8_least 9 = .ok (.iload_n 1, 1) := by decide +kernel
theorem dX8_least_10 : decode cX8_least 10 = .ok (.ireturn, 1) := by decide +kernel
theorem dX8_greatest_0 : decode cX8_greatest 0 = .ok (.iload_n 0, 1) := by decide +kernel
theorem dX8_greatest_1 : decode cX8_greatest 1 = .ok (.iload_n 1, 1) := by decide +kernel
theorem dX8_greatest_2 : decode cX8_greatest 2 = .ok (.if_icmp .le 7, 3) := by decide +kernel
theorem dX8_greatest_5 : decode cX8_greatest 5 = .ok (.iload_n 0, 1) := by decide +kernel
theorem dX8_greatest_6 : decode cX8_greatest 6 = .ok (.goto 4, 3) := by decide +kernel
theorem dX8_greatest_9 : decode cX8_greatest 9 = .ok (.iload_n 1, 1) := by decide +kernel
theorem dX8_greatest_10 : decode cX8_greatest 10 = .ok (.ireturn, 1) := by decide +kernel
theorem dX8_orNone_0 : decode cX8_orNone 0 = .ok (.iload_n 1, 1) := by decide +kernel
theorem dX8_orNone_1 : decode cX8_orNone 1 = .ok (.ifCond .ge 12, 3) := by decide +kernel
theorem dX8_orNone_4 : decode cX8_orNone 4 = .ok (.aload_n 0, 1) := by decide +kernel
theorem dX8_orNone_5 : decode cX8_orNone 5 = .ok (.ldc 38, 2) := by decide +kernel
theorem dX8_orNone_7 : decode cX8_orNone 7 = .ok (.invokevirtual 39, 3) := by decide +kernel
theorem dX8_orNone_10 : decode cX8_orNone 10 = .ok (.goto 4, 3) := by decide +kernel
theorem dX8_orNone_13 : decode cX8_orNone 13 = .ok (.iload_n 1, 1) := by decide +kernel
theorem dX8_orNone_14 : decode cX8_orNone 14 = .ok (.ireturn, 1) := by decide +kernel
theorem dX8_many_0 : decode cX8_many 0 = .ok (.iconst 0, 1) := by decide +kernel
theorem dX8_many_1 : decode cX8_many 1 = .ok (.istore_n 1, 1) := by decide +kernel
theorem dX8_many_2 : decode cX8_many 2 = .ok (.iload_n 0, 1) := by decide +kernel
theorem dX8_many_3 : decode cX8_many 3 = .ok (.istore_n 2, 1) := by decide +kernel
theorem dX8_many_4 : decode cX8_many 4 = .ok (.iload_n 2, 1) := by decide +kernel
theorem dX8_many_5 : decode cX8_many 5 = .ok (.ifCond .eq 15, 3) := by decide +kernel
theorem dX8_many_8 : decode cX8_many 8 = .ok (.iinc 1 1, 3) := by decide +kernel
theorem dX8_many_11 : decode cX8_many 11 = .ok (.iload_n 2, 1) := by decide +kernel
theorem dX8_many_12 : decode cX8_many 12 = .ok (.iload_n 2, 1) := by decide +kernel
theorem dX8_many_13 : decode cX8_many 13 = .ok (.iconst 1, 1) := by decide +kernel
theorem dX8_many_14 : decode cX8_many 14 = .ok (.isub, 1) := by decide +kernel
theorem dX8_many_15 : decode cX8_many 15 = .ok (.iand, 1) := by decide +kernel
theorem dX8_many_16 : decode cX8_many 16 = .ok (.istore_n 2, 1) := by decide +kernel
theorem dX8_many_17 : decode cX8_many 17 = .ok (.goto (-13), 3) := by decide +kernel
theorem dX8_many_20 : decode cX8_many 20 = .ok (.iload_n 1, 1) := by decide +kernel
theorem dX8_many_21 : decode cX8_many 21 = .ok (.ireturn, 1) := by decide +kernel
theorem dX8_step_0 : decode cX8_step 0 = .ok (.iload_n 1, 1) := by decide +kernel
theorem dX8_step_1 : decode cX8_step 1 = .ok (.invokestatic 43, 3) := by decide +kernel
theorem dX8_step_4 : decode cX8_step 4 = .ok (.ifCond .eq 46, 3) := by decide +kernel
theorem dX8_step_7 : decode cX8_step 7 = .ok (.iload_n 2, 1) := by decide +kernel
theorem dX8_step_8 : decode cX8_step 8 = .ok (.i2l, 1) := by decide +kernel
theorem dX8_step_9 : decode cX8_step 9 = .ok (.lconst 0, 1) := by decide +kernel
theorem dX8_step_10 : decode cX8_step 10 = .ok (.ldc2_w 47, 3) := by decide +kernel
theorem dX8_step_13 : decode cX8_step 13 = .ok (.invokestatic 49, 3) := by decide +kernel
theorem dX8_step_16 : decode cX8_step 16 = .ok (.ifCond .eq 34, 3) := by decide +kernel
theorem dX8_step_19 : decode cX8_step 19 = .ok (.iload_n 3, 1) := by decide +kernel
theorem dX8_step_20 : decode cX8_step 20 = .ok (.i2l, 1) := by decide +kernel
theorem dX8_step_21 : decode cX8_step 21 = .ok (.lconst 0, 1) := by decide +kernel
theorem dX8_step_22 : decode cX8_step 22 = .ok (.iload_n 2, 1) := by decide +kernel
theorem dX8_step_23 : decode cX8_step 23 = .ok (.ifCond .ne 9, 3) := by decide +kernel
theorem dX8_step_26 : decode cX8_step 26 = .ok (.ldc2_w 47, 3) := by decide +kernel
theorem dX8_step_29 : decode cX8_step 29 = .ok (.goto 15, 3) := by decide +kernel
theorem dX8_step_32 : decode cX8_step 32 = .ok (.iload_n 2, 1) := by decide +kernel
theorem dX8_step_33 : decode cX8_step 33 = .ok (.iconst 1, 1) := by decide +kernel
theorem dX8_step_34 : decode cX8_step 34 = .ok (.if_icmp .ne 9, 3) := by decide +kernel
theorem dX8_step_37 : decode cX8_step 37 = .ok (.ldc2_w 53, 3) := by decide +kernel
theorem dX8_step_40 : decode cX8_step 40 = .ok (.goto 4, 3) := by decide +kernel
theorem dX8_step_43 : decode cX8_step 43 = .ok (.lconst 1, 1) := by decide +kernel
theorem dX8_step_44 : decode cX8_step 44 = .ok (.invokestatic 49, 3) := by decide +kernel
theorem dX8_step_47 : decode cX8_step 47 = .ok (.ifCond .ne 10, 3) := by decide +kernel
theorem dX8_step_50 : decode cX8_step 50 = .ok (.aload_n 0, 1) := by decide +kernel
theorem dX8_step_51 : decode cX8_step 51 = .ok (.ldc 37, 2) := by decide +kernel
theorem dX8_step_53 : decode cX8_step 53 = .ok (.invokevirtual 39, 3) := by decide +kernel
theorem dX8_step_56 : decode cX8_step 56 = .ok (.ireturn, 1) := by decide +kernel
theorem dX8_step_57 : decode cX8_step 57 = .ok (.aload_n 0, 1) := by decide +kernel
theorem dX8_step_58 : decode cX8_step 58 = .ok (.iconst 5, 1) := by decide +kernel
theorem dX8_step_59 : decode cX8_step 59 = .ok (.bipush 16, 2) := by decide +kernel
theorem dX8_step_61 : decode cX8_step 61 = .ok (.iload_n 2, 1) := by decide +kernel
theorem dX8_step_62 : decode cX8_step 62 = .ok (.imul, 1) := by decide +kernel
theorem dX8_step_63 : decode cX8_step 63 = .ok (.iadd, 1) := by decide +kernel
theorem dX8_step_64 : decode cX8_step 64 = .ok (.iload_n 1, 1) := by decide +kernel
theorem dX8_step_65 : decode cX8_step 65 = .ok (.iadd, 1) := by decide +kernel
theorem dX8_step_66 : decode cX8_step 66 = .ok (.iload_n 3, 1) := by decide +kernel
theorem dX8_step_67 : decode cX8_step 67 = .ok (.invokevirtual 55, 3) := by decide +kernel
theorem dX8_step_70 : decode cX8_step 70 = .ok (.ireturn, 1) := by decide +kernel
theorem dX8_wind_0 : decode cX8_wind 0 = .ok (.aload_n 0, 1) := by decide +kernel
theorem dX8_wind_1 : decode cX8_wind 1 = .ok (.getfield 7, 3) := by decide +kernel
theorem dX8_wind_4 : decode cX8_wind 4 = .ok (.bipush 21, 2) := by decide +kernel
theorem dX8_wind_6 : decode cX8_wind 6 = .ok (.iload_n 1, 1) := by decide +kernel
theorem dX8_wind_7 : decode cX8_wind 7 = .ok (.iadd, 1) := by decide +kernel
theorem dX8_wind_8 : decode cX8_wind 8 = .ok (.iaload, 1) := by decide +kernel
theorem dX8_wind_9 : decode cX8_wind 9 = .ok (.aload_n 0, 1) := by decide +kernel
theorem dX8_wind_10 : decode cX8_wind 10 = .ok (.getfield 7, 3) := by decide +kernel
theorem dX8_wind_13 : decode cX8_wind 13 = .ok (.iconst 1, 1) := by decide +kernel
theorem dX8_wind_14 : decode cX8_wind 14 = .ok (.iaload, 1) := by decide +kernel
theorem dX8_wind_15 : decode cX8_wind 15 = .ok (.iconst 3, 1) := by decide +kernel
theorem dX8_wind_16 : decode cX8_wind 16 = .ok (.irem, 1) := by decide +kernel
theorem dX8_wind_17 : decode cX8_wind 17 = .ok (.iconst 2, 1) := by decide +kernel
theorem dX8_wind_18 : decode cX8_wind 18 = .ok (.if_icmp .ne 12, 3) := by decide +kernel
theorem dX8_wind_21 : decode cX8_wind 21 = .ok (.aload_n 0, 1) := by decide +kernel
theorem dX8_wind_22 : decode cX8_wind 22 = .ok (.getfield 7, 3) := by decide +kernel
theorem dX8_wind_25 : decode cX8_wind 25 = .ok (.iconst 4, 1) := by decide +kernel
theorem dX8_wind_26 : decode cX8_wind 26 = .ok (.iaload, 1) := by decide +kernel
theorem dX8_wind_27 : decode cX8_wind 27 = .ok (.goto 4, 3) := by decide +kernel
theorem dX8_wind_30 : decode cX8_wind 30 = .ok (.iconst 0, 1) := by decide +kernel
theorem dX8_wind_31 : decode cX8_wind 31 = .ok (.iadd, 1) := by decide +kernel
theorem dX8_wind_32 : decode cX8_wind 32 = .ok (.istore_n 2, 1) := by decide +kernel
theorem dX8_wind_33 : decode cX8_wind 33 = .ok (.aload_n 0, 1) := by decide +kernel
theorem dX8_wind_34 : decode cX8_wind 34 = .ok (.getfield 7, 3) := by decide +kernel
theorem dX8_wind_37 : decode cX8_wind 37 = .ok (.bipush 37, 2) := by decide +kernel
theorem dX8_wind_39 : decode cX8_wind 39 = .ok (.iload_n 1, 1) := by decide +kernel
theorem dX8_wind_40 : decode cX8_wind 40 = .ok (.iadd, 1) := by decide +kernel
theorem dX8_wind_41 : decode cX8_wind 41 = .ok (.iaload, 1) := by decide +kernel
theorem dX8_wind_42 : decode cX8_wind 42 = .ok (.iconst 1, 1) := by decide +kernel
theorem dX8_wind_43 : decode cX8_wind 43 = .ok (.if_icmp .ne 9, 3) := by decide +kernel
theorem dX8_wind_46 : decode cX8_wind 46 = .ok (.iload_n 2, 1) := by decide +kernel
theorem dX8_wind_47 : decode cX8_wind 47 = .ok (.iconst 2, 1) := by decide +kernel
theorem dX8_wind_48 : decode cX8_wind 48 = .ok (.idiv, 1) := by decide +kernel
theorem dX8_wind_49 : decode cX8_wind 49 = .ok (.goto 4, 3) := by decide +kernel
theorem dX8_wind_52 : decode cX8_wind 52 = .ok (.iload_n 2, 1) := by decide +kernel
theorem dX8_wind_53 : decode cX8_wind 53 = .ok (.ireturn, 1) := by decide +kernel
theorem dX8_there_0 : decode cX8_there 0 = .ok (.iconst 0, 1) := by decide +kernel
theorem dX8_there_1 : decode cX8_there 1 = .ok (.istore_n 2, 1) := by decide +kernel
theorem dX8_there_2 : decode cX8_there 2 = .ok (.iconst 0, 1) := by decide +kernel
theorem dX8_there_3 : decode cX8_there 3 = .ok (.istore_n 3, 1) := by decide +kernel
theorem dX8_there_4 : decode cX8_there 4 = .ok (.iload_n 3, 1) := by decide +kernel
theorem dX8_there_5 : decode cX8_there 5 = .ok (.aload_n 0, 1) := by decide +kernel
theorem dX8_there_6 : decode cX8_there 6 = .ok (.getfield 7, 3) := by decide +kernel
theorem dX8_there_9 : decode cX8_there 9 = .ok (.iconst 0, 1) := by decide +kernel
theorem dX8_there_10 : decode cX8_there 10 = .ok (.iaload, 1) := by decide +kernel
theorem dX8_there_11 : decode cX8_there 11 = .ok (.if_icmp .ge 29, 3) := by decide +kernel
theorem dX8_there_14 : decode cX8_there 14 = .ok (.iload_n 2, 1) := by decide +kernel
theorem dX8_there_15 : decode cX8_there 15 = .ok (.aload_n 0, 1) := by decide +kernel
theorem dX8_there_16 : decode cX8_there 16 = .ok (.iload_n 3, 1) := by decide +kernel
theorem dX8_there_17 : decode cX8_there 17 = .ok (.iconst 1, 1) := by decide +kernel
theorem dX8_there_18 : decode cX8_there 18 = .ok (.invokevirtual 59, 3) := by decide +kernel
theorem dX8_there_21 : decode cX8_there 21 = .ok (.iload_n 1, 1) := by decide +kernel
theorem dX8_there_22 : decode cX8_there 22 = .ok (.if_icmp .ne 9, 3) := by decide +kernel
theorem dX8_there_25 : decode cX8_there 25 = .ok (.iconst 1, 1) := by decide +kernel
theorem dX8_there_26 : decode cX8_there 26 = .ok (.iload_n 3, 1) := by decide +kernel
theorem dX8_there_27 : decode cX8_there 27 = .ok (.ishl, 1) := by decide +kernel
theorem dX8_there_28 : decode cX8_there 28 = .ok (.goto 4, 3) := by decide +kernel
theorem dX8_there_31 : decode cX8_there 31 = .ok (.iconst 0, 1) := by decide +kernel
theorem dX8_there_32 : decode cX8_there 32 = .ok (.ior, 1) := by decide +kernel
theorem dX8_there_33 : decode cX8_there 33 = .ok (.istore_n 2, 1) := by decide +kernel
theorem dX8_there_34 : decode cX8_there 34 = .ok (.iinc 3 1, 3) := by decide +kernel
theorem dX8_there_37 : decode cX8_there 37 = .ok (.goto (-33), 3) := by decide +kernel
theorem dX8_there_40 : decode cX8_there 40 = .ok (.iload_n 2, 1) := by decide +kernel
theorem dX8_there_41 : decode cX8_there 41 = .ok (.ireturn, 1) := by decide +kernel
theorem dX8_stepOf_0 : decode cX8_stepOf 0 = .ok (.iload_n 1, 1) := by decide +kernel
theorem dX8_stepOf_1 : decode cX8_stepOf 1 = .ok (.invokestatic 43, 3) := by decide +kernel
theorem dX8_stepOf_4 : decode cX8_stepOf 4 = .ok (.ifCond .eq 15, 3) := by decide +kernel
theorem dX8_stepOf_7 : decode cX8_stepOf 7 = .ok (.iload_n 2, 1) := by decide +kernel
theorem dX8_stepOf_8 : decode cX8_stepOf 8 = .ok (.i2l, 1) := by decide +kernel
theorem dX8_stepOf_9 : decode cX8_stepOf 9 = .ok (.lconst 0, 1) := by decide +kernel
theorem dX8_stepOf_10 : decode cX8_stepOf 10 = .ok (.ldc2_w 62, 3) := by decide +kernel
theorem dX8_stepOf_13 : decode cX8_stepOf 13 = .ok (.invokestatic 49, 3) := by decide +kernel
theorem dX8_stepOf_16 : decode cX8_stepOf 16 = .ok (.ifCond .ne 10, 3) := by decide +kernel
theorem dX8_stepOf_19 : decode cX8_stepOf 19 = .ok (.aload_n 0, 1) := by decide +kernel
theorem dX8_stepOf_20 : decode cX8_stepOf 20 = .ok (.ldc 37, 2) := by decide +kernel
theorem dX8_stepOf_22 : decode cX8_stepOf 22 = .ok (.invokevirtual 39, 3) := by decide +kernel
theorem dX8_stepOf_25 : decode cX8_stepOf 25 = .ok (.ireturn, 1) := by decide +kernel
theorem dX8_stepOf_26 : decode cX8_stepOf 26 = .ok (.iload_n 2, 1) := by decide +kernel
theorem dX8_stepOf_27 : decode cX8_stepOf 27 = .ok (.iconst 3, 1) := by decide +kernel
theorem dX8_stepOf_28 : decode cX8_stepOf 28 = .ok (.if_icmp .ge 19, 3) := by decide +kernel
theorem dX8_stepOf_31 : decode cX8_stepOf 31 = .ok (.aload_n 0, 1) := by decide +kernel
theorem dX8_stepOf_32 : decode cX8_stepOf 32 = .ok (.getfield 7, 3) := by decide +kernel
theorem dX8_stepOf_35 : decode cX8_stepOf 35 = .ok (.iconst 5, 1) := by decide +kernel
theorem dX8_stepOf_36 : decode cX8_stepOf 36 = .ok (.bipush 16, 2) := by decide +kernel
theorem dX8_stepOf_38 : decode cX8_stepOf 38 = .ok (.iload_n 2, 1) := by decide +kernel
theorem dX8_stepOf_39 : decode cX8_stepOf 39 = .ok (.imul, 1) := by decide +kernel
theorem dX8_stepOf_40 : decode cX8_stepOf 40 = .ok (.iadd, 1) := by decide +kernel
theorem dX8_stepOf_41 : decode cX8_stepOf 41 = .ok (.iload_n 1, 1) := by decide +kernel
theorem dX8_stepOf_42 : decode cX8_stepOf 42 = .ok (.iadd, 1) := by decide +kernel
theorem dX8_stepOf_43 : decode cX8_stepOf 43 = .ok (.iaload, 1) := by decide +kernel
theorem dX8_stepOf_44 : decode cX8_stepOf 44 = .ok (.goto 21, 3) := by decide +kernel
theorem dX8_stepOf_47 : decode cX8_stepOf 47 = .ok (.iload_n 2, 1) := by decide +kernel
theorem dX8_stepOf_48 : decode cX8_stepOf 48 = .ok (.iconst 3, 1) := by decide +kernel
theorem dX8_stepOf_49 : decode cX8_stepOf 49 = .ok (.if_icmp .ne 11, 3) := by decide +kernel
theorem dX8_stepOf_52 : decode cX8_stepOf 52 = .ok (.aload_n 0, 1) := by decide +kernel
theorem dX8_stepOf_53 : decode cX8_stepOf 53 = .ok (.iload_n 1, 1) := by decide +kernel
theorem dX8_stepOf_54 : decode cX8_stepOf 54 = .ok (.invokevirtual 64, 3) := by decide +kernel
theorem dX8_stepOf_57 : decode cX8_stepOf 57 = .ok (.goto 8, 3) := by decide +kernel
theorem dX8_stepOf_60 : decode cX8_stepOf 60 = .ok (.aload_n 0, 1) := by decide +kernel
theorem dX8_stepOf_61 : decode cX8_stepOf 61 = .ok (.iload_n 1, 1) := by decide +kernel
theorem dX8_stepOf_62 : decode cX8_stepOf 62 = .ok (.invokevirtual 67, 3) := by decide +kernel
theorem dX8_stepOf_65 : decode cX8_stepOf 65 = .ok (.ireturn, 1) := by decide +kernel
theorem dX8_weather_0 : decode cX8_weather 0 = .ok (.iload_n 1, 1) := by decide +kernel
theorem dX8_weather_1 : decode cX8_weather 1 = .ok (.i2l, 1) := by decide +kernel
theorem dX8_weather_2 : decode cX8_weather 2 = .ok (.lconst 0, 1) := by decide +kernel
theorem dX8_weather_3 : decode cX8_weather 3 = .ok (.lconst 1, 1) := by decide +kernel
theorem dX8_weather_4 : decode cX8_weather 4 = .ok (.invokestatic 49, 3) := by decide +kernel
theorem dX8_weather_7 : decode cX8_weather 7 = .ok (.ifCond .eq 26, 3) := by decide +kernel
theorem dX8_weather_10 : decode cX8_weather 10 = .ok (.iload_n 2, 1) := by decide +kernel
theorem dX8_weather_11 : decode cX8_weather 11 = .ok (.i2l, 1) := by decide +kernel
theorem dX8_weather_12 : decode cX8_weather 12 = .ok (.lconst 0, 1) := by decide +kernel
theorem dX8_weather_13 : decode cX8_weather 13 = .ok (.ldc2_w 53, 3) := by decide +kernel
theorem dX8_weather_16 : decode cX8_weather 16 = .ok (.invokestatic 49, 3) := by decide +kernel
theorem dX8_weather_19 : decode cX8_weather 19 = .ok (.ifCond .eq 14, 3) := by decide +kernel
theorem dX8_weather_22 : decode cX8_weather 22 = .ok (.aload_n 0, 1) := by decide +kernel
theorem dX8_weather_23 : decode cX8_weather 23 = .ok (.iconst 3, 1) := by decide +kernel
theorem dX8_weather_24 : decode cX8_weather 24 = .ok (.iload_n 1, 1) := by decide +kernel
theorem dX8_weather_25 : decode cX8_weather 25 = .ok (.iadd, 1) := by decide +kernel
theorem dX8_weather_26 : decode cX8_weather 26 = .ok (.iload_n 2, 1) := by decide +kernel
theorem dX8_weather_27 : decode cX8_weather 27 = .ok (.invokevirtual 55, 3) := by decide +kernel
theorem dX8_weather_30 : decode cX8_weather 30 = .ok (.goto 9, 3) := by decide +kernel
theorem dX8_weather_33 : decode cX8_weather 33 = .ok (.aload_n 0, 1) := by decide +kernel
theorem dX8_weather_34 : decode cX8_weather 34 = .ok (.ldc 37, 2) := by decide +kernel
theorem dX8_weather_36 : decode cX8_weather 36 = .ok (.invokevirtual 39, 3) := by decide +kernel
theorem dX8_weather_39 : decode cX8_weather 39 = .ok (.ireturn, 1) := by decide +kernel
theorem dX8_comes_0 : decode cX8_comes 0 = .ok (.iconst 0, 1) := by decide +kernel
theorem dX8_comes_1 : decode cX8_comes 1 = .ok (.istore_n 2, 1) := by decide +kernel
theorem dX8_comes_2 : decode cX8_comes 2 = .ok (.iload_n 2, 1) := by decide +kernel
theorem dX8_comes_3 : decode cX8_comes 3 = .ok (.bipush 8, 2) := by decide +kernel
theorem dX8_comes_5 : decode cX8_comes 5 = .ok (.if_icmp .ge 25, 3) := by decide +kernel
theorem dX8_comes_8 : decode cX8_comes 8 = .ok (.aload_n 0, 1) := by decide +kernel
theorem dX8_comes_9 : decode cX8_comes 9 = .ok (.getfield 7, 3) := by decide +kernel
theorem dX8_comes_12 : decode cX8_comes 12 = .ok (.aload_n 0, 1) := by decide +kernel
theorem dX8_comes_13 : decode cX8_comes 13 = .ok (.getfield 7, 3) := by decide +kernel
theorem dX8_comes_16 : decode cX8_comes 16 = .ok (.iconst 0, 1) := by decide +kernel
theorem dX8_comes_17 : decode cX8_comes 17 = .ok (.iaload, 1) := by decide +kernel
theorem dX8_comes_18 : decode cX8_comes 18 = .ok (.iload_n 2, 1) := by decide +kernel
theorem dX8_comes_19 : decode cX8_comes 19 = .ok (.invokestatic 70, 3) := by decide +kernel
theorem dX8_comes_22 : decode cX8_comes 22 = .ok (.iconst 0, 1) := by decide +kernel
theorem dX8_comes_23 : decode cX8_comes 23 = .ok (.iastore, 1) := by decide +kernel
theorem dX8_comes_24 : decode cX8_comes 24 = .ok (.iinc 2 1, 3) := by decide +kernel
theorem dX8_comes_27 : decode cX8_comes 27 = .ok (.goto (-25), 3) := by decide +kernel
theorem dX8_comes_30 : decode cX8_comes 30 = .ok (.aload_n 0, 1) := by decide +kernel
theorem dX8_comes_31 : decode cX8_comes 31 = .ok (.getfield 7, 3) := by decide +kernel
theorem dX8_comes_34 : decode cX8_comes 34 = .ok (.aload_n 0, 1) := by decide +kernel
theorem dX8_comes_35 : decode cX8_comes 35 = .ok (.getfield 7, 3) := by decide +kernel
theorem dX8_comes_38 : decode cX8_comes 38 = .ok (.iconst 0, 1) := by decide +kernel
theorem dX8_comes_39 : decode cX8_comes 39 = .ok (.iaload, 1) := by decide +kernel
theorem dX8_comes_40 : decode cX8_comes 40 = .ok (.iconst 0, 1) := by decide +kernel
theorem dX8_comes_41 : decode cX8_comes 41 = .ok (.invokestatic 70, 3) := by decide +kernel
theorem dX8_comes_44 : decode cX8_comes 44 = .ok (.iload_n 1, 1) := by decide +kernel
theorem dX8_comes_45 : decode cX8_comes 45 = .ok (.iastore, 1) := by decide +kernel
theorem dX8_comes_46 : decode cX8_comes 46 = .ok (.aload_n 0, 1) := by decide +kernel
theorem dX8_comes_47 : decode cX8_comes 47 = .ok (.getfield 7, 3) := by decide +kernel
theorem dX8_comes_50 : decode cX8_comes 50 = .ok (.aload_n 0, 1) := by decide +kernel
theorem dX8_comes_51 : decode cX8_comes 51 = .ok (.getfield 7, 3) := by decide +kernel
theorem dX8_comes_54 : decode cX8_comes 54 = .ok (.iconst 0, 1) := by decide +kernel
theorem dX8_comes_55 : decode cX8_comes 55 = .ok (.iaload, 1) := by decide +kernel
theorem dX8_comes_56 : decode cX8_comes 56 = .ok (.iconst 4, 1) := by decide +kernel
theorem dX8_comes_57 : decode cX8_comes 57 = .ok (.invokestatic 70, 3) := by decide +kernel
theorem dX8_comes_60 : decode cX8_comes 60 = .ok (.bipush 8, 2) := by decide +kernel
theorem dX8_comes_62 : decode cX8_comes 62 = .ok (.iastore, 1) := by decide +kernel
theorem dX8_comes_63 : decode cX8_comes 63 = .ok (.aload_n 0, 1) := by decide +kernel
theorem dX8_comes_64 : decode cX8_comes 64 = .ok (.getfield 7, 3) := by decide +kernel
theorem dX8_comes_67 : decode cX8_comes 67 = .ok (.iconst 0, 1) := by decide +kernel
theorem dX8_comes_68 : decode cX8_comes 68 = .ok (.dup2, 1) := by decide +kernel
theorem dX8_comes_69 : decode cX8_comes 69 = .ok (.iaload, 1) := by decide +kernel
theorem dX8_comes_70 : decode cX8_comes 70 = .ok (.iconst 1, 1) := by decide +kernel
theorem dX8_comes_71 : decode cX8_comes 71 = .ok (.iadd, 1) := by decide +kernel
theorem dX8_comes_72 : decode cX8_comes 72 = .ok (.iastore, 1) := by decide +kernel
theorem dX8_comes_73 : decode cX8_comes 73 = .ok (.return_, 1) := by decide +kernel
theorem dX8_umbrella_0 : decode cX8_umbrella 0 = .ok (.iload_n 1, 1) := by decide +kernel
theorem dX8_umbrella_1 : decode cX8_umbrella 1 = .ok (.i2l, 1) := by decide +kernel
theorem dX8_umbrella_2 : decode cX8_umbrella 2 = .ok (.lconst 0, 1) := by decide +kernel
theorem dX8_umbrella_3 : decode cX8_umbrella 3 = .ok (.ldc2_w 73, 3) := by decide +kernel
theorem dX8_umbrella_6 : decode cX8_umbrella 6 = .ok (.invokestatic 49, 3) := by decide +kernel
theorem dX8_umbrella_9 : decode cX8_umbrella 9 = .ok (.ifCond .ne 10, 3) := by decide +kernel
theorem dX8_umbrella_12 : decode cX8_umbrella 12 = .ok (.aload_n 0, 1) := by decide +kernel
theorem dX8_umbrella_13 : decode cX8_umbrella 13 = .ok (.ldc 37, 2) := by decide +kernel
theorem dX8_umbrella_15 : decode cX8_umbrella 15 = .ok (.invokevirtual 39, 3) := by decide +kernel
theorem dX8_umbrella_18 : decode cX8_umbrella 18 = .ok (.ireturn, 1) := by decide +kernel
theorem dX8_umbrella_19 : decode cX8_umbrella 19 = .ok (.aload_n 0, 1) := by decide +kernel
theorem dX8_umbrella_20 : decode cX8_umbrella 20 = .ok (.getfield 7, 3) := by decide +kernel
theorem dX8_umbrella_23 : decode cX8_umbrella 23 = .ok (.iconst 0, 1) := by decide +kernel
theorem dX8_umbrella_24 : decode cX8_umbrella 24 = .ok (.iaload, 1) := by decide +kernel
theorem dX8_umbrella_25 : decode cX8_umbrella 25 = .ok (.bipush 8, 2) := by decide +kernel
theorem dX8_umbrella_27 : decode cX8_umbrella 27 = .ok (.if_icmp .ne 10, 3) := by decide +kernel
theorem dX8_umbrella_30 : decode cX8_umbrella 30 = .ok (.aload_n 0, 1) := by decide +kernel
theorem dX8_umbrella_31 : decode cX8_umbrella 31 = .ok (.ldc 75, 2) := by decide +kernel
theorem dX8_umbrella_33 : decode cX8_umbrella 33 = .ok (.invokevirtual 39, 3) := by decide +kernel
theorem dX8_umbrella_36 : decode cX8_umbrella 36 = .ok (.ireturn, 1) := by decide +kernel
theorem dX8_umbrella_37 : decode cX8_umbrella 37 = .ok (.aload_n 0, 1) := by decide +kernel
theorem dX8_umbrella_38 : decode cX8_umbrella 38 = .ok (.iload_n 1, 1) := by decide +kernel
theorem dX8_umbrella_39 : decode cX8_umbrella 39 = .ok (.invokevirtual 76, 3) := by decide +kernel
theorem dX8_umbrella_42 : decode cX8_umbrella 42 = .ok (.aload_n 0, 1) := by decide +kernel
theorem dX8_umbrella_43 : decode cX8_umbrella 43 = .ok (.getfield 7, 3) := by decide +kernel
theorem dX8_umbrella_46 : decode cX8_umbrella 46 = .ok (.iconst 0, 1) := by decide +kernel
theorem dX8_umbrella_47 : decode cX8_umbrella 47 = .ok (.iaload, 1) := by decide +kernel
theorem dX8_umbrella_48 : decode cX8_umbrella 48 = .ok (.iconst 1, 1) := by decide +kernel
theorem dX8_umbrella_49 : decode cX8_umbrella 49 = .ok (.isub, 1) := by decide +kernel
theorem dX8_umbrella_50 : decode cX8_umbrella 50 = .ok (.ireturn, 1) := by decide +kernel
theorem dX8_stiff_0 : decode cX8_stiff 0 = .ok (.iconst 5, 1) := by decide +kernel
theorem dX8_stiff_1 : decode cX8_stiff 1 = .ok (.aload_n 0, 1) := by decide +kernel
theorem dX8_stiff_2 : decode cX8_stiff 2 = .ok (.iload_n 1, 1) := by decide +kernel
theorem dX8_stiff_3 : decode cX8_stiff 3 = .ok (.iconst 4, 1) := by decide +kernel
theorem dX8_stiff_4 : decode cX8_stiff 4 = .ok (.invokevirtual 59, 3) := by decide +kernel
theorem dX8_stiff_7 : decode cX8_stiff 7 = .ok (.imul, 1) := by decide +kernel
theorem dX8_stiff_8 : decode cX8_stiff 8 = .ok (.istore_n 2, 1) := by decide +kernel
theorem dX8_stiff_9 : decode cX8_stiff 9 = .ok (.iconst 0, 1) := by decide +kernel
theorem dX8_stiff_10 : decode cX8_stiff 10 = .ok (.iload_n 2, 1) := by decide +kernel
theorem dX8_stiff_11 : decode cX8_stiff 11 = .ok (.bipush 15, 2) := by decide +kernel
theorem dX8_stiff_13 : decode cX8_stiff 13 = .ok (.iadd, 1) := by decide +kernel
theorem dX8_stiff_14 : decode cX8_stiff 14 = .ok (.aload_n 0, 1) := by decide +kernel
theorem dX8_stiff_15 : decode cX8_stiff 15 = .ok (.iload_n 1, 1) := by decide +kernel
theorem dX8_stiff_16 : decode cX8_stiff 16 = .ok (.bipush 7, 2) := by decide +kernel
theorem dX8_stiff_18 : decode cX8_stiff 18 = .ok (.invokevirtual 59, 3) := by decide +kernel
theorem dX8_stiff_21 : decode cX8_stiff 21 = .ok (.bipush 100, 2) := by decide +kernel
theorem dX8_stiff_23 : decode cX8_stiff 23 = .ok (.idiv, 1) := by decide +kernel
theorem dX8_stiff_24 : decode cX8_stiff 24 = .ok (.isub, 1) := by decide +kernel
theorem dX8_stiff_25 : decode cX8_stiff 25 = .ok (.invokestatic 80, 3) := by decide +kernel
theorem dX8_stiff_28 : decode cX8_stiff 28 = .ok (.istore_n 3, 1) := by decide +kernel
theorem dX8_stiff_29 : decode cX8_stiff 29 = .ok (.aload_n 0, 1) := by decide +kernel
theorem dX8_stiff_30 : decode cX8_stiff 30 = .ok (.iload_n 1, 1) := by decide +kernel
theorem dX8_stiff_31 : decode cX8_stiff 31 = .ok (.iconst 0, 1) := by decide +kernel
theorem dX8_stiff_32 : decode cX8_stiff 32 = .ok (.invokevirtual 59, 3) := by decide +kernel
theorem dX8_stiff_35 : decode cX8_stiff 35 = .ok (.tableswitch 70 1 6 #[37, 46, 51, 53, 57, 59], 37) := by decide +kernel
theorem dX8_stiff_72 : decode cX8_stiff 72 = .ok (.iconst 0, 1) := by decide +kernel
theorem dX8_stiff_73 : decode cX8_stiff 73 = .ok (.iload_n 2, 1) := by decide +kernel
theorem dX8_stiff_74 : decode cX8_stiff 74 = .ok (.bipush 10, 2) := by decide +kernel
theorem dX8_stiff_76 : decode cX8_stiff 76 = .ok (.isub, 1) := by decide +kernel
theorem dX8_stiff_77 : decode cX8_stiff 77 = .ok (.invokestatic 80, 3) := by decide +kernel
theorem dX8_stiff_80 : decode cX8_stiff 80 = .ok (.ireturn, 1) := by decide +kernel
theorem dX8_stiff_81 : decode cX8_stiff 81 = .ok (.iload_n 2, 1) := by decide +kernel
theorem dX8_stiff_82 : decode cX8_stiff 82 = .ok (.bipush 15, 2) := by decide +kernel
theorem dX8_stiff_84 : decode cX8_stiff 84 = .ok (.iadd, 1) := by decide +kernel
theorem dX8_stiff_85 : decode cX8_stiff 85 = .ok (.ireturn, 1) := by decide +kernel
theorem dX8_stiff_86 : decode cX8_stiff 86 = .ok (.iload_n 3, 1) := by decide +kernel
theorem dX8_stiff_87 : decode cX8_stiff 87 = .ok (.ireturn, 1) := by decide +kernel
theorem dX8_stiff_88 : decode cX8_stiff 88 = .ok (.iload_n 3, 1) := by decide +kernel
theorem dX8_stiff_89 : decode cX8_stiff 89 = .ok (.iconst 2, 1) := by decide +kernel
theorem dX8_stiff_90 : decode cX8_stiff 90 = .ok (.idiv, 1) := by decide +kernel
theorem dX8_stiff_91 : decode cX8_stiff 91 = .ok (.ireturn, 1) := by decide +kernel
theorem dX8_stiff_92 : decode cX8_stiff 92 = .ok (.iconst 5, 1) := by decide +kernel
theorem dX8_stiff_93 : decode cX8_stiff 93 = .ok (.ireturn, 1) := by decide +kernel
theorem dX8_stiff_94 : decode cX8_stiff 94 = .ok (.iconst 0, 1) := by decide +kernel
theorem dX8_stiff_95 : decode cX8_stiff 95 = .ok (.iload_n 2, 1) := by decide +kernel
theorem dX8_stiff_96 : decode cX8_stiff 96 = .ok (.bipush 10, 2) := by decide +kernel
theorem dX8_stiff_98 : decode cX8_stiff 98 = .ok (.isub, 1) := by decide +kernel
theorem dX8_stiff_99 : decode cX8_stiff 99 = .ok (.invokestatic 80, 3) := by decide +kernel
theorem dX8_stiff_102 : decode cX8_stiff 102 = .ok (.iconst 2, 1) := by decide +kernel
theorem dX8_stiff_103 : decode cX8_stiff 103 = .ok (.idiv, 1) := by decide +kernel
theorem dX8_stiff_104 : decode cX8_stiff 104 = .ok (.ireturn, 1) := by decide +kernel
theorem dX8_stiff_105 : decode cX8_stiff 105 = .ok (.iload_n 2, 1) := by decide +kernel
theorem dX8_stiff_106 : decode cX8_stiff 106 = .ok (.ireturn, 1) := by decide +kernel
theorem dX8_bearsOn_0 : decode cX8_bearsOn 0 = .ok (.aload_n 0, 1) := by decide +kernel
theorem dX8_bearsOn_1 : decode cX8_bearsOn 1 = .ok (.getfield 7, 3) := by decide +kernel
theorem dX8_bearsOn_4 : decode cX8_bearsOn 4 = .ok (.iconst 5, 1) := by decide +kernel
theorem dX8_bearsOn_5 : decode cX8_bearsOn 5 = .ok (.iload_n 2, 1) := by decide +kernel
theorem dX8_bearsOn_6 : decode cX8_bearsOn 6 = .ok (.iadd, 1) := by decide +kernel
theorem dX8_bearsOn_7 : decode cX8_bearsOn 7 = .ok (.iaload, 1) := by decide +kernel
theorem dX8_bearsOn_8 : decode cX8_bearsOn 8 = .ok (.istore 4, 2) := by decide +kernel
theorem dX8_bearsOn_10 : decode cX8_bearsOn 10 = .ok (.aload_n 0, 1) := by decide +kernel
theorem dX8_bearsOn_11 : decode cX8_bearsOn 11 = .ok (.iload_n 1, 1) := by decide +kernel
theorem dX8_bearsOn_12 : decode cX8_bearsOn 12 = .ok (.invokevirtual 83, 3) := by decide +kernel
theorem dX8_bearsOn_15 : decode cX8_bearsOn 15 = .ok (.istore 5, 2) := by decide +kernel
theorem dX8_bearsOn_17 : decode cX8_bearsOn 17 = .ok (.iload_n 3, 1) := by decide +kernel
theorem dX8_bearsOn_18 : decode cX8_bearsOn 18 = .ok (.iload 4, 2) := by decide +kernel
theorem dX8_bearsOn_20 : decode cX8_bearsOn 20 = .ok (.if_icmp .ne 10, 3) := by decide +kernel
theorem dX8_bearsOn_23 : decode cX8_bearsOn 23 = .ok (.iconst 2, 1) := by decide +kernel
theorem dX8_bearsOn_24 : decode cX8_bearsOn 24 = .ok (.iload 5, 2) := by decide +kernel
theorem dX8_bearsOn_26 : decode cX8_bearsOn 26 = .ok (.imul, 1) := by decide +kernel
theorem dX8_bearsOn_27 : decode cX8_bearsOn 27 = .ok (.goto 20, 3) := by decide +kernel
theorem dX8_bearsOn_30 : decode cX8_bearsOn 30 = .ok (.iload_n 3, 1) := by decide +kernel
theorem dX8_bearsOn_31 : decode cX8_bearsOn 31 = .ok (.iload 4, 2) := by decide +kernel
theorem dX8_bearsOn_33 : decode cX8_bearsOn 33 = .ok (.iadd, 1) := by decide +kernel
theorem dX8_bearsOn_34 : decode cX8_bearsOn 34 = .ok (.iconst 1, 1) := by decide +kernel
theorem dX8_bearsOn_35 : decode cX8_bearsOn 35 = .ok (.if_icmp .ne 10, 3) := by decide +kernel
theorem dX8_bearsOn_38 : decode cX8_bearsOn 38 = .ok (.iload 5, 2) := by decide +kernel
theorem dX8_bearsOn_40 : decode cX8_bearsOn 40 = .ok (.iconst 2, 1) := by decide +kernel
theorem dX8_bearsOn_41 : decode cX8_bearsOn 41 = .ok (.idiv, 1) := by decide +kernel
theorem dX8_bearsOn_42 : decode cX8_bearsOn 42 = .ok (.goto 5, 3) := by decide +kernel
theorem dX8_bearsOn_45 : decode cX8_bearsOn 45 = .ok (.iload 5, 2) := by decide +kernel
theorem dX8_bearsOn_47 : decode cX8_bearsOn 47 = .ok (.ireturn, 1) := by decide +kernel
theorem dX8_covers_0 : decode cX8_covers 0 = .ok (.aload_n 0, 1) := by decide +kernel
theorem dX8_covers_1 : decode cX8_covers 1 = .ok (.getfield 7, 3) := by decide +kernel
theorem dX8_covers_4 : decode cX8_covers 4 = .ok (.iconst 3, 1) := by decide +kernel
theorem dX8_covers_5 : decode cX8_covers 5 = .ok (.iaload, 1) := by decide +kernel
theorem dX8_covers_6 : decode cX8_covers 6 = .ok (.istore_n 2, 1) := by decide +kernel
theorem dX8_covers_7 : decode cX8_covers 7 = .ok (.iconst 0, 1) := by decide +kernel
theorem dX8_covers_8 : decode cX8_covers 8 = .ok (.iload_n 2, 1) := by decide +kernel
theorem dX8_covers_9 : decode cX8_covers 9 = .ok (.iconst 3, 1) := by decide +kernel
theorem dX8_covers_10 : decode cX8_covers 10 = .ok (.idiv, 1) := by decide +kernel
theorem dX8_covers_11 : decode cX8_covers 11 = .ok (.iconst 1, 1) := by decide +kernel
theorem dX8_covers_12 : decode cX8_covers 12 = .ok (.isub, 1) := by decide +kernel
theorem dX8_covers_13 : decode cX8_covers 13 = .ok (.invokestatic 80, 3) := by decide +kernel
theorem dX8_covers_16 : decode cX8_covers 16 = .ok (.istore_n 3, 1) := by decide +kernel
theorem dX8_covers_17 : decode cX8_covers 17 = .ok (.aload_n 0, 1) := by decide +kernel
theorem dX8_covers_18 : decode cX8_covers 18 = .ok (.iload_n 1, 1) := by decide +kernel
theorem dX8_covers_19 : decode cX8_covers 19 = .ok (.iconst 0, 1) := by decide +kernel
theorem dX8_covers_20 : decode cX8_covers 20 = .ok (.invokevirtual 59, 3) := by decide +kernel
theorem dX8_covers_23 : decode cX8_covers 23 = .ok (.tableswitch 120 1 6 #[37, 49, 57, 63, 84, 106], 37) := by decide +kernel
theorem dX8_covers_60 : decode cX8_covers 60 = .ok (.iload_n 2, 1) := by decide +kernel
theorem dX8_covers_61 : decode cX8_covers 61 = .ok (.iconst 2, 1) := by decide +kernel
theorem dX8_covers_62 : decode cX8_covers 62 = .ok (.idiv, 1) := by decide +kernel
theorem dX8_covers_63 : decode cX8_covers 63 = .ok (.iload_n 2, 1) := by decide +kernel
theorem dX8_covers_64 : decode cX8_covers 64 = .ok (.iconst 4, 1) := by decide +kernel
theorem dX8_covers_65 : decode cX8_covers 65 = .ok (.idiv, 1) := by decide +kernel
theorem dX8_covers_66 : decode cX8_covers 66 = .ok (.iadd, 1) := by decide +kernel
theorem dX8_covers_67 : decode cX8_covers 67 = .ok (.istore 4, 2) := by decide +kernel
theorem dX8_covers_69 : decode cX8_covers 69 = .ok (.goto 79, 3) := by decide +kernel
theorem dX8_covers_72 : decode cX8_covers 72 = .ok (.iload_n 2, 1) := by decide +kernel
theorem dX8_covers_73 : decode cX8_covers 73 = .ok (.iconst 3, 1) := by decide +kernel
theorem dX8_covers_74 : decode cX8_covers 74 = .ok (.idiv, 1) := by decide +kernel
theorem dX8_covers_75 : decode cX8_covers 75 = .ok (.istore 4, 2) := by decide +kernel
theorem dX8_covers_77 : decode cX8_covers 77 = .ok (.goto 71, 3) := by decide +kernel
theorem dX8_covers_80 : decode cX8_covers 80 = .ok (.iload_n 3, 1) := by decide +kernel
theorem dX8_covers_81 : decode cX8_covers 81 = .ok (.istore 4, 2) := by decide +kernel
theorem dX8_covers_83 : decode cX8_covers 83 = .ok (.goto 65, 3) := by decide +kernel
theorem dX8_covers_86 : decode cX8_covers 86 = .ok (.aload_n 0, 1) := by decide +kernel
theorem dX8_covers_87 : decode cX8_covers 87 = .ok (.getfield 7, 3) := by decide +kernel
theorem dX8_covers_90 : decode cX8_covers 90 = .ok (.iconst 1, 1) := by decide +kernel
theorem dX8_covers_91 : decode cX8_covers 91 = .ok (.iaload, 1) := by decide +kernel
theorem dX8_covers_92 : decode cX8_covers 92 = .ok (.iconst 2, 1) := by decide +kernel
theorem dX8_covers_93 : decode cX8_covers 93 = .ok (.irem, 1) := by decide +kernel
theorem dX8_covers_94 : decode cX8_covers 94 = .ok (.ifCond .ne 7, 3) := by decide +kernel
theorem dX8_covers_97 : decode cX8_covers 97 = .ok (.iload_n 3, 1) := by decide +kernel
theorem dX8_covers_98 : decode cX8_covers 98 = .ok (.goto 4, 3) := by decide +kernel
theorem dX8_covers_101 : decode cX8_covers 101 = .ok (.iconst 0, 1) := by decide +kernel
theorem dX8_covers_102 : decode cX8_covers 102 = .ok (.istore 4, 2) := by decide +kernel
theorem dX8_covers_104 : decode cX8_covers 104 = .ok (.goto 44, 3) := by decide +kernel
theorem dX8_covers_107 : decode cX8_covers 107 = .ok (.aload_n 0, 1) := by decide +kernel
theorem dX8_covers_108 : decode cX8_covers 108 = .ok (.iload_n 1, 1) := by decide +kernel
theorem dX8_covers_109 : decode cX8_covers 109 = .ok (.bipush 7, 2) := by decide +kernel
theorem dX8_covers_111 : decode cX8_covers 111 = .ok (.invokevirtual 59, 3) := by decide +kernel
theorem dX8_covers_114 : decode cX8_covers 114 = .ok (.bipush 50, 2) := by decide +kernel
theorem dX8_covers_116 : decode cX8_covers 116 = .ok (.if_icmp .ge 7, 3) := by decide +kernel
theorem dX8_covers_119 : decode cX8_covers 119 = .ok (.iconst 4, 1) := by decide +kernel
theorem dX8_covers_120 : decode cX8_covers 120 = .ok (.goto 4, 3) := by decide +kernel
theorem dX8_covers_123 : decode cX8_covers 123 = .ok (.iconst 0, 1) := by decide +kernel
theorem dX8_covers_124 : decode cX8_covers 124 = .ok (.istore 4, 2) := by decide +kernel
theorem dX8_covers_126 : decode cX8_covers 126 = .ok (.goto 22, 3) := by decide +kernel
theorem dX8_covers_129 : decode cX8_covers 129 = .ok (.iload_n 2, 1) := by decide +kernel
theorem dX8_covers_130 : decode cX8_covers 130 = .ok (.iconst 2, 1) := by decide +kernel
theorem dX8_covers_131 : decode cX8_covers 131 = .ok (.idiv, 1) := by decide +kernel
theorem dX8_covers_132 : decode cX8_covers 132 = .ok (.iload_n 2, 1) := by decide +kernel
theorem dX8_covers_133 : decode cX8_covers 133 = .ok (.iconst 4, 1) := by decide +kernel
theorem dX8_covers_134 : decode cX8_covers 134 = .ok (.idiv, 1) := by decide +kernel
theorem dX8_covers_135 : decode cX8_covers 135 = .ok (.iadd, 1) := by decide +kernel
theorem dX8_covers_136 : decode cX8_covers 136 = .ok (.iconst 2, 1) := by decide +kernel
theorem dX8_covers_137 : decode cX8_covers 137 = .ok (.iadd, 1) := by decide +kernel
theorem dX8_covers_138 : decode cX8_covers 138 = .ok (.istore 4, 2) := by decide +kernel
theorem dX8_covers_140 : decode cX8_covers 140 = .ok (.goto 8, 3) := by decide +kernel
theorem dX8_covers_143 : decode cX8_covers 143 = .ok (.iload_n 2, 1) := by decide +kernel
theorem dX8_covers_144 : decode cX8_covers 144 = .ok (.iconst 2, 1) := by decide +kernel
theorem dX8_covers_145 : decode cX8_covers 145 = .ok (.idiv, 1) := by decide +kernel
theorem dX8_covers_146 : decode cX8_covers 146 = .ok (.istore 4, 2) := by decide +kernel
theorem dX8_covers_148 : decode cX8_covers 148 = .ok (.iload_n 2, 1) := by decide +kernel
theorem dX8_covers_149 : decode cX8_covers 149 = .ok (.iload 4, 2) := by decide +kernel
theorem dX8_covers_151 : decode cX8_covers 151 = .ok (.invokestatic 86, 3) := by decide +kernel
theorem dX8_covers_154 : decode cX8_covers 154 = .ok (.ireturn, 1) := by decide +kernel
theorem dX8_pace_0 : decode cX8_pace 0 = .ok (.aload_n 0, 1) := by decide +kernel
theorem dX8_pace_1 : decode cX8_pace 1 = .ok (.iload_n 1, 1) := by decide +kernel
theorem dX8_pace_2 : decode cX8_pace 2 = .ok (.iconst 0, 1) := by decide +kernel
theorem dX8_pace_3 : decode cX8_pace 3 = .ok (.invokevirtual 59, 3) := by decide +kernel
theorem dX8_pace_6 : decode cX8_pace 6 = .ok (.tableswitch 45 4 6 #[26, 26, 28], 26) := by decide +kernel
theorem dX8_pace_32 : decode cX8_pace 32 = .ok (.iconst 2, 1) := by decide +kernel
theorem dX8_pace_33 : decode cX8_pace 33 = .ok (.ireturn, 1) := by decide +kernel
theorem dX8_pace_34 : decode cX8_pace 34 = .ok (.aload_n 0, 1) := by decide +kernel
theorem dX8_pace_35 : decode cX8_pace 35 = .ok (.getfield 7, 3) := by decide +kernel
theorem dX8_pace_38 : decode cX8_pace 38 = .ok (.iconst 1, 1) := by decide +kernel
theorem dX8_pace_39 : decode cX8_pace 39 = .ok (.iaload, 1) := by decide +kernel
theorem dX8_pace_40 : decode cX8_pace 40 = .ok (.iconst 2, 1) := by decide +kernel
theorem dX8_pace_41 : decode cX8_pace 41 = .ok (.irem, 1) := by decide +kernel
theorem dX8_pace_42 : decode cX8_pace 42 = .ok (.ifCond .ne 7, 3) := by decide +kernel
theorem dX8_pace_45 : decode cX8_pace 45 = .ok (.iconst 1, 1) := by decide +kernel
theorem dX8_pace_46 : decode cX8_pace 46 = .ok (.goto 4, 3) := by decide +kernel
theorem dX8_pace_49 : decode cX8_pace 49 = .ok (.iconst 0, 1) := by decide +kernel
theorem dX8_pace_50 : decode cX8_pace 50 = .ok (.ireturn, 1) := by decide +kernel
theorem dX8_pace_51 : decode cX8_pace 51 = .ok (.iconst 1, 1) := by decide +kernel
theorem dX8_pace_52 : decode cX8_pace 52 = .ok (.ireturn, 1) := by decide +kernel
theorem dX8_of_0 : decode cX8_of 0 = .ok (.aload_n 0, 1) := by decide +kernel
theorem dX8_of_1 : decode cX8_of 1 = .ok (.iload_n 1, 1) := by decide +kernel
theorem dX8_of_2 : decode cX8_of 2 = .ok (.invokevirtual 89, 3) := by decide +kernel
theorem dX8_of_5 : decode cX8_of 5 = .ok (.ifCond .eq 15, 3) := by decide +kernel
theorem dX8_of_8 : decode cX8_of 8 = .ok (.iload_n 2, 1) := by decide +kernel
theorem dX8_of_9 : decode cX8_of 9 = .ok (.i2l, 1) := by decide +kernel
theorem dX8_of_10 : decode cX8_of 10 = .ok (.lconst 0, 1) := by decide +kernel
theorem dX8_of_11 : decode cX8_of 11 = .ok (.ldc2_w 92, 3) := by decide +kernel
theorem dX8_of_14 : decode cX8_of 14 = .ok (.invokestatic 49, 3) := by decide +kernel
theorem dX8_of_17 : decode cX8_of 17 = .ok (.ifCond .ne 10, 3) := by decide +kernel
theorem dX8_of_20 : decode cX8_of 20 = .ok (.aload_n 0, 1) := by decide +kernel
theorem dX8_of_21 : decode cX8_of 21 = .ok (.ldc 37, 2) := by decide +kernel
theorem dX8_of_23 : decode cX8_of 23 = .ok (.invokevirtual 39, 3) := by decide +kernel
theorem dX8_of_26 : decode cX8_of 26 = .ok (.ireturn, 1) := by decide +kernel
theorem dX8_of_27 : decode cX8_of 27 = .ok (.iload_n 2, 1) := by decide +kernel
theorem dX8_of_28 : decode cX8_of 28 = .ok (.tableswitch 46 8 10 #[28, 34, 40], 28) := by decide +kernel
theorem dX8_of_56 : decode cX8_of 56 = .ok (.aload_n 0, 1) := by decide +kernel
theorem dX8_of_57 : decode cX8_of 57 = .ok (.iload_n 1, 1) := by decide +kernel
theorem dX8_of_58 : decode cX8_of 58 = .ok (.invokevirtual 83, 3) := by decide +kernel
theorem dX8_of_61 : decode cX8_of 61 = .ok (.ireturn, 1) := by decide +kernel
theorem dX8_of_62 : decode cX8_of 62 = .ok (.aload_n 0, 1) := by decide +kernel
theorem dX8_of_63 : decode cX8_of 63 = .ok (.iload_n 1, 1) := by decide +kernel
theorem dX8_of_64 : decode cX8_of 64 = .ok (.invokevirtual 94, 3) := by decide +kernel
theorem dX8_of_67 : decode cX8_of 67 = .ok (.ireturn, 1) := by decide +kernel
theorem dX8_of_68 : decode cX8_of 68 = .ok (.aload_n 0, 1) := by decide +kernel
theorem dX8_of_69 : decode cX8_of 69 = .ok (.iload_n 1, 1) := by decide +kernel
theorem dX8_of_70 : decode cX8_of 70 = .ok (.invokevirtual 97, 3) := by decide +kernel
theorem dX8_of_73 : decode cX8_of 73 = .ok (.ireturn, 1) := by decide +kernel
theorem dX8_of_74 : decode cX8_of 74 = .ok (.aload_n 0, 1) := by decide +kernel
theorem dX8_of_75 : decode cX8_of 75 = .ok (.iload_n 1, 1) := by decide +kernel
theorem dX8_of_76 : decode cX8_of 76 = .ok (.iload_n 2, 1) := by decide +kernel
theorem dX8_of_77 : decode cX8_of 77 = .ok (.invokevirtual 59, 3) := by decide +kernel
theorem dX8_of_80 : decode cX8_of 80 = .ok (.ireturn, 1) := by decide +kernel
theorem dX8_greatestOf_0 : decode cX8_greatestOf 0 = .ok (.iload_n 0, 1) := by decide +kernel
theorem dX8_greatestOf_1 : decode cX8_greatestOf 1 = .ok (.tableswitch 60 0 6 #[43, 46, 49, 49, 51, 54, 56], 43) := by decide +kernel
theorem dX8_greatestOf_44 : decode cX8_greatestOf 44 = .ok (.bipush 6, 2) := by decide +kernel
theorem dX8_greatestOf_46 : decode cX8_greatestOf 46 = .ok (.ireturn, 1) := by decide +kernel
theorem dX8_greatestOf_47 : decode cX8_greatestOf 47 = .ok (.bipush 16, 2) := by decide +kernel
theorem dX8_greatestOf_49 : decode cX8_greatestOf 49 = .ok (.ireturn, 1) := by decide +kernel
theorem dX8_greatestOf_50 : decode cX8_greatestOf 50 = .ok (.iconst 3, 1) := by decide +kernel
theorem dX8_greatestOf_51 : decode cX8_greatestOf 51 = .ok (.ireturn, 1) := by decide +kernel
theorem dX8_greatestOf_52 : decode cX8_greatestOf 52 = .ok (.bipush 8, 2) := by decide +kernel
theorem dX8_greatestOf_54 : decode cX8_greatestOf 54 = .ok (.ireturn, 1) := by decide +kernel
theorem dX8_greatestOf_55 : decode cX8_greatestOf 55 = .ok (.iconst 1, 1) := by decide +kernel
theorem dX8_greatestOf_56 : decode cX8_greatestOf 56 = .ok (.ireturn, 1) := by decide +kernel
theorem dX8_greatestOf_57 : decode cX8_greatestOf 57 = .ok (.sipush 999, 3) := by decide +kernel
theorem dX8_greatestOf_60 : decode cX8_greatestOf 60 = .ok (.ireturn, 1) := by decide +kernel
theorem dX8_greatestOf_61 : decode cX8_greatestOf 61 = .ok (.ldc 100, 2) := by decide +kernel
theorem dX8_greatestOf_63 : decode cX8_greatestOf 63 = .ok (.ireturn, 1) := by decide +kernel
theorem dX8_change_0 : decode cX8_change 0 = .ok (.aload_n 0, 1) := by decide +kernel
theorem dX8_change_1 : decode cX8_change 1 = .ok (.iload_n 1, 1) := by decide +kernel
theorem dX8_change_2 : decode cX8_change 2 = .ok (.invokevirtual 89, 3) := by decide +kernel
theorem dX8_change_5 : decode cX8_change 5 = .ok (.ifCond .eq 33, 3) := by decide +kernel
theorem dX8_change_8 : decode cX8_change 8 = .ok (.iload_n 2, 1) := by decide +kernel
theorem dX8_change_9 : decode cX8_change 9 = .ok (.i2l, 1) := by decide +kernel
theorem dX8_change_10 : decode cX8_change 10 = .ok (.lconst 0, 1) := by decide +kernel
theorem dX8_change_11 : decode cX8_change 11 = .ok (.ldc2_w 101, 3) := by decide +kernel
theorem dX8_change_14 : decode cX8_change 14 = .ok (.invokestatic 49, 3) := by decide +kernel
theorem dX8_change_17 : decode cX8_change 17 = .ok (.ifCond .eq 21, 3) := by decide +kernel
theorem dX8_change_20 : decode cX8_change 20 = .ok (.iload_n 3, 1) := by decide +kernel
theorem dX8_change_21 : decode cX8_change 21 = .ok (.i2l, 1) := by decide +kernel
theorem dX8_change_22 : decode cX8_change 22 = .ok (.lconst 0, 1) := by decide +kernel
theorem dX8_change_23 : decode cX8_change 23 = .ok (.iload_n 2, 1) := by decide +kernel
theorem dX8_change_24 : decode cX8_change 24 = .ok (.invokestatic 103, 3) := by decide +kernel
theorem dX8_change_27 : decode cX8_change 27 = .ok (.i2l, 1) := by decide +kernel
theorem dX8_change_28 : decode cX8_change 28 = .ok (.invokestatic 49, 3) := by decide +kernel
theorem dX8_change_31 : decode cX8_change 31 = .ok (.ifCond .eq 7, 3) := by decide +kernel
theorem dX8_change_34 : decode cX8_change 34 = .ok (.iconst 1, 1) := by decide +kernel
theorem dX8_change_35 : decode cX8_change 35 = .ok (.goto 4, 3) := by decide +kernel
theorem dX8_change_38 : decode cX8_change 38 = .ok (.iconst 0, 1) := by decide +kernel
theorem dX8_change_39 : decode cX8_change 39 = .ok (.istore 4, 2) := by decide +kernel
theorem dX8_change_41 : decode cX8_change 41 = .ok (.iload 4, 2) := by decide +kernel
theorem dX8_change_43 : decode cX8_change 43 = .ok (.ifCond .eq 16, 3) := by decide +kernel
theorem dX8_change_46 : decode cX8_change 46 = .ok (.aload_n 0, 1) := by decide +kernel
theorem dX8_change_47 : decode cX8_change 47 = .ok (.iload_n 1, 1) := by decide +kernel
theorem dX8_change_48 : decode cX8_change 48 = .ok (.iload_n 2, 1) := by decide +kernel
theorem dX8_change_49 : decode cX8_change 49 = .ok (.invokestatic 70, 3) := by decide +kernel
theorem dX8_change_52 : decode cX8_change 52 = .ok (.iload_n 3, 1) := by decide +kernel
theorem dX8_change_53 : decode cX8_change 53 = .ok (.invokevirtual 55, 3) := by decide +kernel
theorem dX8_change_56 : decode cX8_change 56 = .ok (.goto 9, 3) := by decide +kernel
theorem dX8_change_59 : decode cX8_change 59 = .ok (.aload_n 0, 1) := by decide +kernel
theorem dX8_change_60 : decode cX8_change 60 = .ok (.ldc 37, 2) := by decide +kernel
theorem dX8_change_62 : decode cX8_change 62 = .ok (.invokevirtual 39, 3) := by decide +kernel
theorem dX8_change_65 : decode cX8_change 65 = .ok (.ireturn, 1) := by decide +kernel
theorem dX8_bears_0 : decode cX8_bears 0 = .ok (.aload_n 0, 1) := by decide +kernel
theorem dX8_bears_1 : decode cX8_bears 1 = .ok (.iload_n 1, 1) := by decide +kernel
theorem dX8_bears_2 : decode cX8_bears 2 = .ok (.invokevirtual 89, 3) := by decide +kernel
theorem dX8_bears_5 : decode cX8_bears 5 = .ok (.ifCond .eq 32, 3) := by decide +kernel
theorem dX8_bears_8 : decode cX8_bears 8 = .ok (.iload_n 2, 1) := by decide +kernel
theorem dX8_bears_9 : decode cX8_bears 9 = .ok (.invokestatic 43, 3) := by decide +kernel
theorem dX8_bears_12 : decode cX8_bears 12 = .ok (.ifCond .eq 25, 3) := by decide +kernel
theorem dX8_bears_15 : decode cX8_bears 15 = .ok (.iload_n 3, 1) := by decide +kernel
theorem dX8_bears_16 : decode cX8_bears 16 = .ok (.i2l, 1) := by decide +kernel
theorem dX8_bears_17 : decode cX8_bears 17 = .ok (.lconst 0, 1) := by decide +kernel
theorem dX8_bears_18 : decode cX8_bears 18 = .ok (.ldc2_w 47, 3) := by decide +kernel
theorem dX8_bears_21 : decode cX8_bears 21 = .ok (.invokestatic 49, 3) := by decide +kernel
theorem dX8_bears_24 : decode cX8_bears 24 = .ok (.ifCond .eq 13, 3) := by decide +kernel
theorem dX8_bears_27 : decode cX8_bears 27 = .ok (.aload_n 0, 1) := by decide +kernel
theorem dX8_bears_28 : decode cX8_bears 28 = .ok (.iload_n 1, 1) := by decide +kernel
theorem dX8_bears_29 : decode cX8_bears 29 = .ok (.iload_n 2, 1) := by decide +kernel
theorem dX8_bears_30 : decode cX8_bears 30 = .ok (.iload_n 3, 1) := by decide +kernel
theorem dX8_bears_31 : decode cX8_bears 31 = .ok (.invokevirtual 106, 3) := by decide +kernel
theorem dX8_bears_34 : decode cX8_bears 34 = .ok (.goto 9, 3) := by decide +kernel
theorem dX8_bears_37 : decode cX8_bears 37 = .ok (.aload_n 0, 1) := by decide +kernel
theorem dX8_bears_38 : decode cX8_bears 38 = .ok (.ldc 37, 2) := by decide +kernel
theorem dX8_bears_40 : decode cX8_bears 40 = .ok (.invokevirtual 39, 3) := by decide +kernel
theorem dX8_bears_43 : decode cX8_bears 43 = .ok (.ireturn, 1) := by decide +kernel
theorem dX8_isHome_0 : decode cX8_isHome 0 = .ok (.aload_n 0, 1) := by decide +kernel
theorem dX8_isHome_1 : decode cX8_isHome 1 = .ok (.iload_n 1, 1) := by decide +kernel
theorem dX8_isHome_2 : decode cX8_isHome 2 = .ok (.iconst 1, 1) := by decide +kernel
theorem dX8_isHome_3 : decode cX8_isHome 3 = .ok (.invokevirtual 59, 3) := by decide +kernel
theorem dX8_isHome_6 : decode cX8_isHome 6 = .ok (.bipush 16, 2) := by decide +kernel
theorem dX8_isHome_8 : decode cX8_isHome 8 = .ok (.if_icmp .ne 7, 3) := by decide +kernel
theorem dX8_isHome_11 : decode cX8_isHome 11 = .ok (.iconst 1, 1) := by decide +kernel
theorem dX8_isHome_12 : decode cX8_isHome 12 = .ok (.goto 4, 3) := by decide +kernel
theorem dX8_isHome_15 : decode cX8_isHome 15 = .ok (.iconst 0, 1) := by decide +kernel
theorem dX8_isHome_16 : decode cX8_isHome 16 = .ok (.ireturn, 1) := by decide +kernel
theorem dX8_heldBy_0 : decode cX8_heldBy 0 = .ok (.aload_n 0, 1) := by decide +kernel
theorem dX8_heldBy_1 : decode cX8_heldBy 1 = .ok (.iload_n 1, 1) := by decide +kernel
theorem dX8_heldBy_2 : decode cX8_heldBy 2 = .ok (.iconst 1, 1) := by decide +kernel
theorem dX8_heldBy_3 : decode cX8_heldBy 3 = .ok (.invokevirtual 59, 3) := by decide +kernel
theorem dX8_heldBy_6 : decode cX8_heldBy 6 = .ok (.istore_n 2, 1) := by decide +kernel
theorem dX8_heldBy_7 : decode cX8_heldBy 7 = .ok (.aload_n 0, 1) := by decide +kernel
theorem dX8_heldBy_8 : decode cX8_heldBy 8 = .ok (.iload_n 1, 1) := by decide +kernel
theorem dX8_heldBy_9 : decode cX8_heldBy 9 = .ok (.iconst 3, 1) := by decide +kernel
theorem dX8_heldBy_10 : decode cX8_heldBy 10 = .ok (.invokevirtual 59, 3) := by decide +kernel
theorem dX8_heldBy_13 : decode cX8_heldBy 13 = .ok (.tableswitch 87 1 3 #[27, 36, 52], 27) := by decide +kernel
theorem dX8_heldBy_40 : decode cX8_heldBy 40 = .ok (.aload_n 0, 1) := by decide +kernel
theorem dX8_heldBy_41 : decode cX8_heldBy 41 = .ok (.getfield 7, 3) := by decide +kernel
theorem dX8_heldBy_44 : decode cX8_heldBy 44 = .ok (.iconst 5, 1) := by decide +kernel
theorem dX8_heldBy_45 : decode cX8_heldBy 45 = .ok (.iload_n 2, 1) := by decide +kernel
theorem dX8_heldBy_46 : decode cX8_heldBy 46 = .ok (.iadd, 1) := by decide +kernel
theorem dX8_heldBy_47 : decode cX8_heldBy 47 = .ok (.iaload, 1) := by decide +kernel
theorem dX8_heldBy_48 : decode cX8_heldBy 48 = .ok (.ireturn, 1) := by decide +kernel
theorem dX8_heldBy_49 : decode cX8_heldBy 49 = .ok (.aload_n 0, 1) := by decide +kernel
theorem dX8_heldBy_50 : decode cX8_heldBy 50 = .ok (.getfield 7, 3) := by decide +kernel
theorem dX8_heldBy_53 : decode cX8_heldBy 53 = .ok (.iconst 5, 1) := by decide +kernel
theorem dX8_heldBy_54 : decode cX8_heldBy 54 = .ok (.iload_n 2, 1) := by decide +kernel
theorem dX8_heldBy_55 : decode cX8_heldBy 55 = .ok (.iconst 1, 1) := by decide +kernel
theorem dX8_heldBy_56 : decode cX8_heldBy 56 = .ok (.iadd, 1) := by decide +kernel
theorem dX8_heldBy_57 : decode cX8_heldBy 57 = .ok (.bipush 15, 2) := by decide +kernel
theorem dX8_heldBy_59 : decode cX8_heldBy 59 = .ok (.invokestatic 86, 3) := by decide +kernel
theorem dX8_heldBy_62 : decode cX8_heldBy 62 = .ok (.iadd, 1) := by decide +kernel
theorem dX8_heldBy_63 : decode cX8_heldBy 63 = .ok (.iaload, 1) := by decide +kernel
theorem dX8_heldBy_64 : decode cX8_heldBy 64 = .ok (.ireturn, 1) := by decide +kernel
theorem dX8_heldBy_65 : decode cX8_heldBy 65 = .ok (.aload_n 0, 1) := by decide +kernel
theorem dX8_heldBy_66 : decode cX8_heldBy 66 = .ok (.iload_n 2, 1) := by decide +kernel
theorem dX8_heldBy_67 : decode cX8_heldBy 67 = .ok (.invokevirtual 64, 3) := by decide +kernel
theorem dX8_heldBy_70 : decode cX8_heldBy 70 = .ok (.aload_n 0, 1) := by decide +kernel
theorem dX8_heldBy_71 : decode cX8_heldBy 71 = .ok (.iload_n 1, 1) := by decide +kernel
theorem dX8_heldBy_72 : decode cX8_heldBy 72 = .ok (.iload_n 2, 1) := by decide +kernel
theorem dX8_heldBy_73 : decode cX8_heldBy 73 = .ok (.aload_n 0, 1) := by decide +kernel
theorem dX8_heldBy_74 : decode cX8_heldBy 74 = .ok (.getfield 7, 3) := by decide +kernel
theorem dX8_heldBy_77 : decode cX8_heldBy 77 = .ok (.iconst 5, 1) := by decide +kernel
theorem dX8_heldBy_78 : decode cX8_heldBy 78 = .ok (.iload_n 2, 1) := by decide +kernel
theorem dX8_heldBy_79 : decode cX8_heldBy 79 = .ok (.iadd, 1) := by decide +kernel
theorem dX8_heldBy_80 : decode cX8_heldBy 80 = .ok (.iaload, 1) := by decide +kernel
theorem dX8_heldBy_81 : decode cX8_heldBy 81 = .ok (.invokevirtual 106, 3) := by decide +kernel
theorem dX8_heldBy_84 : decode cX8_heldBy 84 = .ok (.if_icmp .le 7, 3) := by decide +kernel
theorem dX8_heldBy_87 : decode cX8_heldBy 87 = .ok (.iconst 3, 1) := by decide +kernel
theorem dX8_heldBy_88 : decode cX8_heldBy 88 = .ok (.goto 11, 3) := by decide +kernel
theorem dX8_heldBy_91 : decode cX8_heldBy 91 = .ok (.aload_n 0, 1) := by decide +kernel
theorem dX8_heldBy_92 : decode cX8_heldBy 92 = .ok (.getfield 7, 3) := by decide +kernel
theorem dX8_heldBy_95 : decode cX8_heldBy 95 = .ok (.iconst 5, 1) := by decide +kernel
theorem dX8_heldBy_96 : decode cX8_heldBy 96 = .ok (.iload_n 2, 1) := by decide +kernel
theorem dX8_heldBy_97 : decode cX8_heldBy 97 = .ok (.iadd, 1) := by decide +kernel
theorem dX8_heldBy_98 : decode cX8_heldBy 98 = .ok (.iaload, 1) := by decide +kernel
theorem dX8_heldBy_99 : decode cX8_heldBy 99 = .ok (.ireturn, 1) := by decide +kernel
theorem dX8_heldBy_100 : decode cX8_heldBy 100 = .ok (.aload_n 0, 1) := by decide +kernel
theorem dX8_heldBy_101 : decode cX8_heldBy 101 = .ok (.iload_n 1, 1) := by decide +kernel
theorem dX8_heldBy_102 : decode cX8_heldBy 102 = .ok (.iconst 2, 1) := by decide +kernel
theorem dX8_heldBy_103 : decode cX8_heldBy 103 = .ok (.invokevirtual 59, 3) := by decide +kernel
theorem dX8_heldBy_106 : decode cX8_heldBy 106 = .ok (.ireturn, 1) := by decide +kernel
theorem dX8_goesOn_0 : decode cX8_goesOn 0 = .ok (.aload_n 0, 1) := by decide +kernel
theorem dX8_goesOn_1 : decode cX8_goesOn 1 = .ok (.iload_n 1, 1) := by decide +kernel
theorem dX8_goesOn_2 : decode cX8_goesOn 2 = .ok (.iconst 1, 1) := by decide +kernel
theorem dX8_goesOn_3 : decode cX8_goesOn 3 = .ok (.invokevirtual 59, 3) := by decide +kernel
theorem dX8_goesOn_6 : decode cX8_goesOn 6 = .ok (.istore_n 2, 1) := by decide +kernel
theorem dX8_goesOn_7 : decode cX8_goesOn 7 = .ok (.aload_n 0, 1) := by decide +kernel
theorem dX8_goesOn_8 : decode cX8_goesOn 8 = .ok (.iload_n 1, 1) := by decide +kernel
theorem dX8_goesOn_9 : decode cX8_goesOn 9 = .ok (.invokevirtual 110, 3) := by decide +kernel
theorem dX8_goesOn_12 : decode cX8_goesOn 12 = .ok (.istore_n 3, 1) := by decide +kernel
theorem dX8_goesOn_13 : decode cX8_goesOn 13 = .ok (.aload_n 0, 1) := by decide +kernel
theorem dX8_goesOn_14 : decode cX8_goesOn 14 = .ok (.getfield 7, 3) := by decide +kernel
theorem dX8_goesOn_17 : decode cX8_goesOn 17 = .ok (.iload_n 1, 1) := by decide +kernel
theorem dX8_goesOn_18 : decode cX8_goesOn 18 = .ok (.iconst 2, 1) := by decide +kernel
theorem dX8_goesOn_19 : decode cX8_goesOn 19 = .ok (.invokestatic 70, 3) := by decide +kernel
theorem dX8_goesOn_22 : decode cX8_goesOn 22 = .ok (.iload_n 3, 1) := by decide +kernel
theorem dX8_goesOn_23 : decode cX8_goesOn 23 = .ok (.iastore, 1) := by decide +kernel
theorem dX8_goesOn_24 : decode cX8_goesOn 24 = .ok (.aload_n 0, 1) := by decide +kernel
theorem dX8_goesOn_25 : decode cX8_goesOn 25 = .ok (.iload_n 1, 1) := by decide +kernel
theorem dX8_goesOn_26 : decode cX8_goesOn 26 = .ok (.iconst 5, 1) := by decide +kernel
theorem dX8_goesOn_27 : decode cX8_goesOn 27 = .ok (.invokevirtual 59, 3) := by decide +kernel
theorem dX8_goesOn_30 : decode cX8_goesOn 30 = .ok (.iconst 1, 1) := by decide +kernel
theorem dX8_goesOn_31 : decode cX8_goesOn 31 = .ok (.if_icmp .ne 7, 3) := by decide +kernel
theorem dX8_goesOn_34 : decode cX8_goesOn 34 = .ok (.iconst 1, 1) := by decide +kernel
theorem dX8_goesOn_35 : decode cX8_goesOn 35 = .ok (.goto 4, 3) := by decide +kernel
theorem dX8_goesOn_38 : decode cX8_goesOn 38 = .ok (.iconst 0, 1) := by decide +kernel
theorem dX8_goesOn_39 : decode cX8_goesOn 39 = .ok (.istore 4, 2) := by decide +kernel
theorem dX8_goesOn_41 : decode cX8_goesOn 41 = .ok (.iload 4, 2) := by decide +kernel
theorem dX8_goesOn_43 : decode cX8_goesOn 43 = .ok (.ifCond .ne 27, 3) := by decide +kernel
theorem dX8_goesOn_46 : decode cX8_goesOn 46 = .ok (.iload_n 3, 1) := by decide +kernel
theorem dX8_goesOn_47 : decode cX8_goesOn 47 = .ok (.iconst 3, 1) := by decide +kernel
theorem dX8_goesOn_48 : decode cX8_goesOn 48 = .ok (.if_icmp .eq 22, 3) := by decide +kernel
theorem dX8_goesOn_51 : decode cX8_goesOn 51 = .ok (.aload_n 0, 1) := by decide +kernel
theorem dX8_goesOn_52 : decode cX8_goesOn 52 = .ok (.iload_n 2, 1) := by decide +kernel
theorem dX8_goesOn_53 : decode cX8_goesOn 53 = .ok (.invokevirtual 64, 3) := by decide +kernel
theorem dX8_goesOn_56 : decode cX8_goesOn 56 = .ok (.aload_n 0, 1) := by decide +kernel
theorem dX8_goesOn_57 : decode cX8_goesOn 57 = .ok (.iload_n 1, 1) := by decide +kernel
theorem dX8_goesOn_58 : decode cX8_goesOn 58 = .ok (.iload_n 2, 1) := by decide +kernel
theorem dX8_goesOn_59 : decode cX8_goesOn 59 = .ok (.iload_n 3, 1) := by decide +kernel
theorem dX8_goesOn_60 : decode cX8_goesOn 60 = .ok (.invokevirtual 106, 3) := by decide +kernel
theorem dX8_goesOn_63 : decode cX8_goesOn 63 = .ok (.if_icmp .le 7, 3) := by decide +kernel
theorem dX8_goesOn_66 : decode cX8_goesOn 66 = .ok (.iconst 1, 1) := by decide +kernel
theorem dX8_goesOn_67 : decode cX8_goesOn 67 = .ok (.goto 4, 3) := by decide +kernel
theorem dX8_goesOn_70 : decode cX8_goesOn 70 = .ok (.iconst 0, 1) := by decide +kernel
theorem dX8_goesOn_71 : decode cX8_goesOn 71 = .ok (.istore 5, 2) := by decide +kernel
theorem dX8_goesOn_73 : decode cX8_goesOn 73 = .ok (.iload 4, 2) := by decide +kernel
theorem dX8_goesOn_75 : decode cX8_goesOn 75 = .ok (.ifCond .eq 15, 3) := by decide +kernel
theorem dX8_goesOn_78 : decode cX8_goesOn 78 = .ok (.iload_n 3, 1) := by decide +kernel
theorem dX8_goesOn_79 : decode cX8_goesOn 79 = .ok (.aload_n 0, 1) := by decide +kernel
theorem dX8_goesOn_80 : decode cX8_goesOn 80 = .ok (.getfield 7, 3) := by decide +kernel
theorem dX8_goesOn_83 : decode cX8_goesOn 83 = .ok (.iconst 5, 1) := by decide +kernel
theorem dX8_goesOn_84 : decode cX8_goesOn 84 = .ok (.iload_n 2, 1) := by decide +kernel
theorem dX8_goesOn_85 : decode cX8_goesOn 85 = .ok (.iadd, 1) := by decide +kernel
theorem dX8_goesOn_86 : decode cX8_goesOn 86 = .ok (.iaload, 1) := by decide +kernel
theorem dX8_goesOn_87 : decode cX8_goesOn 87 = .ok (.if_icmp .ne 8, 3) := by decide +kernel
theorem dX8_goesOn_90 : decode cX8_goesOn 90 = .ok (.iload 5, 2) := by decide +kernel
theorem dX8_goesOn_92 : decode cX8_goesOn 92 = .ok (.ifCond .eq 7, 3) := by decide +kernel
theorem dX8_goesOn_95 : decode cX8_goesOn 95 = .ok (.iconst 1, 1) := by decide +kernel
theorem dX8_goesOn_96 : decode cX8_goesOn 96 = .ok (.goto 4, 3) := by decide +kernel
theorem dX8_goesOn_99 : decode cX8_goesOn 99 = .ok (.iconst 0, 1) := by decide +kernel
theorem dX8_goesOn_100 : decode cX8_goesOn 100 = .ok (.istore 6, 2) := by decide +kernel
theorem dX8_goesOn_102 : decode cX8_goesOn 102 = .ok (.iload 5, 2) := by decide +kernel
theorem dX8_goesOn_104 : decode cX8_goesOn 104 = .ok (.ifCond .eq 51, 3) := by decide +kernel
theorem dX8_goesOn_107 : decode cX8_goesOn 107 = .ok (.aload_n 0, 1) := by decide +kernel
theorem dX8_goesOn_108 : decode cX8_goesOn 108 = .ok (.getfield 7, 3) := by decide +kernel
theorem dX8_goesOn_111 : decode cX8_goesOn 111 = .ok (.iload_n 1, 1) := by decide +kernel
theorem dX8_goesOn_112 : decode cX8_goesOn 112 = .ok (.bipush 6, 2) := by decide +kernel
theorem dX8_goesOn_114 : decode cX8_goesOn 114 = .ok (.invokestatic 70, 3) := by decide +kernel
theorem dX8_goesOn_117 : decode cX8_goesOn 117 = .ok (.sipush 999, 3) := by decide +kernel
theorem dX8_goesOn_120 : decode cX8_goesOn 120 = .ok (.aload_n 0, 1) := by decide +kernel
theorem dX8_goesOn_121 : decode cX8_goesOn 121 = .ok (.iload_n 1, 1) := by decide +kernel
theorem dX8_goesOn_122 : decode cX8_goesOn 122 = .ok (.bipush 6, 2) := by decide +kernel
theorem dX8_goesOn_124 : decode cX8_goesOn 124 = .ok (.invokevirtual 59, 3) := by decide +kernel
theorem dX8_goesOn_127 : decode cX8_goesOn 127 = .ok (.iconst 1, 1) := by decide +kernel
theorem dX8_goesOn_128 : decode cX8_goesOn 128 = .ok (.iadd, 1) := by decide +kernel
theorem dX8_goesOn_129 : decode cX8_goesOn 129 = .ok (.invokestatic 86, 3) := by decide +kernel
theorem dX8_goesOn_132 : decode cX8_goesOn 132 = .ok (.iastore, 1) := by decide +kernel
theorem dX8_goesOn_133 : decode cX8_goesOn 133 = .ok (.aload_n 0, 1) := by decide +kernel
theorem dX8_goesOn_134 : decode cX8_goesOn 134 = .ok (.getfield 7, 3) := by decide +kernel
theorem dX8_goesOn_137 : decode cX8_goesOn 137 = .ok (.iload_n 1, 1) := by decide +kernel
theorem dX8_goesOn_138 : decode cX8_goesOn 138 = .ok (.iconst 4, 1) := by decide +kernel
theorem dX8_goesOn_139 : decode cX8_goesOn 139 = .ok (.invokestatic 70, 3) := by decide +kernel
theorem dX8_goesOn_142 : decode cX8_goesOn 142 = .ok (.iconst 0, 1) := by decide +kernel
theorem dX8_goesOn_143 : decode cX8_goesOn 143 = .ok (.aload_n 0, 1) := by decide +kernel
theorem dX8_goesOn_144 : decode cX8_goesOn 144 = .ok (.iload_n 1, 1) := by decide +kernel
theorem dX8_goesOn_145 : decode cX8_goesOn 145 = .ok (.iconst 4, 1) := by decide +kernel
theorem dX8_goesOn_146 : decode cX8_goesOn 146 = .ok (.invokevirtual 59, 3) := by decide +kernel
theorem dX8_goesOn_149 : decode cX8_goesOn 149 = .ok (.iconst 1, 1) := by decide +kernel
theorem dX8_goesOn_150 : decode cX8_goesOn 150 = .ok (.isub, 1) := by decide +kernel
theorem dX8_goesOn_151 : decode cX8_goesOn 151 = .ok (.invokestatic 80, 3) := by decide +kernel
theorem dX8_goesOn_154 : decode cX8_goesOn 154 = .ok (.iastore, 1) := by decide +kernel
theorem dX8_goesOn_155 : decode cX8_goesOn 155 = .ok (.aload_n 0, 1) := by decide +kernel
theorem dX8_goesOn_156 : decode cX8_goesOn 156 = .ok (.getfield 7, 3) := by decide +kernel
theorem dX8_goesOn_159 : decode cX8_goesOn 159 = .ok (.iload_n 1, 1) := by decide +kernel
theorem dX8_goesOn_160 : decode cX8_goesOn 160 = .ok (.iconst 5, 1) := by decide +kernel
theorem dX8_goesOn_161 : decode cX8_goesOn 161 = .ok (.invokestatic 70, 3) := by decide +kernel
theorem dX8_goesOn_164 : decode cX8_goesOn 164 = .ok (.iload 6, 2) := by decide +kernel
theorem dX8_goesOn_166 : decode cX8_goesOn 166 = .ok (.ifCond .eq 7, 3) := by decide +kernel
theorem dX8_goesOn_169 : decode cX8_goesOn 169 = .ok (.iconst 1, 1) := by decide +kernel
theorem dX8_goesOn_170 : decode cX8_goesOn 170 = .ok (.goto 4, 3) := by decide +kernel
theorem dX8_goesOn_173 : decode cX8_goesOn 173 = .ok (.iconst 0, 1) := by decide +kernel
theorem dX8_goesOn_174 : decode cX8_goesOn 174 = .ok (.iastore, 1) := by decide +kernel
theorem dX8_goesOn_175 : decode cX8_goesOn 175 = .ok (.aload_n 0, 1) := by decide +kernel
theorem dX8_goesOn_176 : decode cX8_goesOn 176 = .ok (.getfield 7, 3) := by decide +kernel
theorem dX8_goesOn_179 : decode cX8_goesOn 179 = .ok (.iconst 3, 1) := by decide +kernel
theorem dX8_goesOn_180 : decode cX8_goesOn 180 = .ok (.iaload, 1) := by decide +kernel
theorem dX8_goesOn_181 : decode cX8_goesOn 181 = .ok (.iload 6, 2) := by decide +kernel
theorem dX8_goesOn_183 : decode cX8_goesOn 183 = .ok (.ifCond .ne 8, 3) := by decide +kernel
theorem dX8_goesOn_186 : decode cX8_goesOn 186 = .ok (.iload_n 3, 1) := by decide +kernel
theorem dX8_goesOn_187 : decode cX8_goesOn 187 = .ok (.iconst 3, 1) := by decide +kernel
theorem dX8_goesOn_188 : decode cX8_goesOn 188 = .ok (.if_icmp .ne 7, 3) := by decide +kernel
theorem dX8_goesOn_191 : decode cX8_goesOn 191 = .ok (.iconst 0, 1) := by decide +kernel
theorem dX8_goesOn_192 : decode cX8_goesOn 192 = .ok (.goto 8, 3) := by decide +kernel
theorem dX8_goesOn_195 : decode cX8_goesOn 195 = .ok (.aload_n 0, 1) := by decide +kernel
theorem dX8_goesOn_196 : decode cX8_goesOn 196 = .ok (.iload_n 1, 1) := by decide +kernel
theorem dX8_goesOn_197 : decode cX8_goesOn 197 = .ok (.invokevirtual 94, 3) := by decide +kernel
theorem dX8_goesOn_200 : decode cX8_goesOn 200 = .ok (.isub, 1) := by decide +kernel
theorem dX8_goesOn_201 : decode cX8_goesOn 201 = .ok (.istore 7, 2) := by decide +kernel
theorem dX8_goesOn_203 : decode cX8_goesOn 203 = .ok (.aload_n 0, 1) := by decide +kernel
theorem dX8_goesOn_204 : decode cX8_goesOn 204 = .ok (.getfield 7, 3) := by decide +kernel
theorem dX8_goesOn_207 : decode cX8_goesOn 207 = .ok (.iload_n 1, 1) := by decide +kernel
theorem dX8_goesOn_208 : decode cX8_goesOn 208 = .ok (.bipush 7, 2) := by decide +kernel
theorem dX8_goesOn_210 : decode cX8_goesOn 210 = .ok (.invokestatic 70, 3) := by decide +kernel
theorem dX8_goesOn_213 : decode cX8_goesOn 213 = .ok (.aload_n 0, 1) := by decide +kernel
theorem dX8_goesOn_214 : decode cX8_goesOn 214 = .ok (.getfield 7, 3) := by decide +kernel
theorem dX8_goesOn_217 : decode cX8_goesOn 217 = .ok (.bipush 37, 2) := by decide +kernel
theorem dX8_goesOn_219 : decode cX8_goesOn 219 = .ok (.iload_n 2, 1) := by decide +kernel
theorem dX8_goesOn_220 : decode cX8_goesOn 220 = .ok (.iadd, 1) := by decide +kernel
theorem dX8_goesOn_221 : decode cX8_goesOn 221 = .ok (.iaload, 1) := by decide +kernel
theorem dX8_goesOn_222 : decode cX8_goesOn 222 = .ok (.iconst 1, 1) := by decide +kernel
theorem dX8_goesOn_223 : decode cX8_goesOn 223 = .ok (.if_icmp .ne 13, 3) := by decide +kernel
theorem dX8_goesOn_226 : decode cX8_goesOn 226 = .ok (.aload_n 0, 1) := by decide +kernel
theorem dX8_goesOn_227 : decode cX8_goesOn 227 = .ok (.iload_n 1, 1) := by decide +kernel
theorem dX8_goesOn_228 : decode cX8_goesOn 228 = .ok (.bipush 7, 2) := by decide +kernel
theorem dX8_goesOn_230 : decode cX8_goesOn 230 = .ok (.invokevirtual 59, 3) := by decide +kernel
theorem dX8_goesOn_233 : decode cX8_goesOn 233 = .ok (.goto 18, 3) := by decide +kernel
theorem dX8_goesOn_236 : decode cX8_goesOn 236 = .ok (.ldc 100, 2) := by decide +kernel
theorem dX8_goesOn_238 : decode cX8_goesOn 238 = .ok (.aload_n 0, 1) := by decide +kernel
theorem dX8_goesOn_239 : decode cX8_goesOn 239 = .ok (.iload_n 1, 1) := by decide +kernel
theorem dX8_goesOn_240 : decode cX8_goesOn 240 = .ok (.bipush 7, 2) := by decide +kernel
theorem dX8_goesOn_242 : decode cX8_goesOn 242 = .ok (.invokevirtual 59, 3) := by decide +kernel
theorem dX8_goesOn_245 : decode cX8_goesOn 245 = .ok (.iload 7, 2) := by decide +kernel
theorem dX8_goesOn_247 : decode cX8_goesOn 247 = .ok (.iadd, 1) := by decide +kernel
theorem dX8_goesOn_248 : decode cX8_goesOn 248 = .ok (.invokestatic 86, 3) := by decide +kernel
theorem dX8_goesOn_251 : decode cX8_goesOn 251 = .ok (.iastore, 1) := by decide +kernel
theorem dX8_goesOn_252 : decode cX8_goesOn 252 = .ok (.aload_n 0, 1) := by decide +kernel
theorem dX8_goesOn_253 : decode cX8_goesOn 253 = .ok (.getfield 7, 3) := by decide +kernel
theorem dX8_goesOn_256 : decode cX8_goesOn 256 = .ok (.iload_n 1, 1) := by decide +kernel
theorem dX8_goesOn_257 : decode cX8_goesOn 257 = .ok (.iconst 1, 1) := by decide +kernel
theorem dX8_goesOn_258 : decode cX8_goesOn 258 = .ok (.invokestatic 70, 3) := by decide +kernel
theorem dX8_goesOn_261 : decode cX8_goesOn 261 = .ok (.iload 6, 2) := by decide +kernel
theorem dX8_goesOn_263 : decode cX8_goesOn 263 = .ok (.ifCond .eq 7, 3) := by decide +kernel
theorem dX8_goesOn_266 : decode cX8_goesOn 266 = .ok (.iload_n 2, 1) := by decide +kernel
theorem dX8_goesOn_267 : decode cX8_goesOn 267 = .ok (.goto 15, 3) := by decide +kernel
theorem dX8_goesOn_270 : decode cX8_goesOn 270 = .ok (.bipush 16, 2) := by decide +kernel
theorem dX8_goesOn_272 : decode cX8_goesOn 272 = .ok (.iload_n 2, 1) := by decide +kernel
theorem dX8_goesOn_273 : decode cX8_goesOn 273 = .ok (.aload_n 0, 1) := by decide +kernel
theorem dX8_goesOn_274 : decode cX8_goesOn 274 = .ok (.iload_n 1, 1) := by decide +kernel
theorem dX8_goesOn_275 : decode cX8_goesOn 275 = .ok (.invokevirtual 97, 3) := by decide +kernel
theorem dX8_goesOn_278 : decode cX8_goesOn 278 = .ok (.iadd, 1) := by decide +kernel
theorem dX8_goesOn_279 : decode cX8_goesOn 279 = .ok (.invokestatic 86, 3) := by decide +kernel
theorem dX8_goesOn_282 : decode cX8_goesOn 282 = .ok (.iastore, 1) := by decide +kernel
theorem dX8_goesOn_283 : decode cX8_goesOn 283 = .ok (.iload 5, 2) := by decide +kernel
theorem dX8_goesOn_285 : decode cX8_goesOn 285 = .ok (.ireturn, 1) := by decide +kernel
theorem dX8_tick_0 : decode cX8_tick 0 = .ok (.iconst 0, 1) := by decide +kernel
theorem dX8_tick_1 : decode cX8_tick 1 = .ok (.istore_n 1, 1) := by decide +kernel
theorem dX8_tick_2 : decode cX8_tick 2 = .ok (.iconst 0, 1) := by decide +kernel
theorem dX8_tick_3 : decode cX8_tick 3 = .ok (.istore_n 2, 1) := by decide +kernel
theorem dX8_tick_4 : decode cX8_tick 4 = .ok (.iload_n 2, 1) := by decide +kernel
theorem dX8_tick_5 : decode cX8_tick 5 = .ok (.aload_n 0, 1) := by decide +kernel
theorem dX8_tick_6 : decode cX8_tick 6 = .ok (.getfield 7, 3) := by decide +kernel
theorem dX8_tick_9 : decode cX8_tick 9 = .ok (.iconst 0, 1) := by decide +kernel
theorem dX8_tick_10 : decode cX8_tick 10 = .ok (.iaload, 1) := by decide +kernel
theorem dX8_tick_11 : decode cX8_tick 11 = .ok (.if_icmp .ge 33, 3) := by decide +kernel
theorem dX8_tick_14 : decode cX8_tick 14 = .ok (.iload_n 1, 1) := by decide +kernel
theorem dX8_tick_15 : decode cX8_tick 15 = .ok (.aload_n 0, 1) := by decide +kernel
theorem dX8_tick_16 : decode cX8_tick 16 = .ok (.iload_n 2, 1) := by decide +kernel
theorem dX8_tick_17 : decode cX8_tick 17 = .ok (.invokevirtual 113, 3) := by decide +kernel
theorem dX8_tick_20 : decode cX8_tick 20 = .ok (.ifCond .ne 15, 3) := by decide +kernel
theorem dX8_tick_23 : decode cX8_tick 23 = .ok (.aload_n 0, 1) := by decide +kernel
theorem dX8_tick_24 : decode cX8_tick 24 = .ok (.iload_n 2, 1) := by decide +kernel
theorem dX8_tick_25 : decode cX8_tick 25 = .ok (.invokevirtual 116, 3) := by decide +kernel
theorem dX8_tick_28 : decode cX8_tick 28 = .ok (.ifCond .eq 7, 3) := by decide +kernel
theorem dX8_tick_31 : decode cX8_tick 31 = .ok (.iconst 1, 1) := by decide +kernel
theorem dX8_tick_32 : decode cX8_tick 32 = .ok (.goto 4, 3) := by decide +kernel
theorem dX8_tick_35 : decode cX8_tick 35 = .ok (.iconst 0, 1) := by decide +kernel
theorem dX8_tick_36 : decode cX8_tick 36 = .ok (.iadd, 1) := by decide +kernel
theorem dX8_tick_37 : decode cX8_tick 37 = .ok (.istore_n 1, 1) := by decide +kernel
theorem dX8_tick_38 : decode cX8_tick 38 = .ok (.iinc 2 1, 3) := by decide +kernel
theorem dX8_tick_41 : decode cX8_tick 41 = .ok (.goto (-37), 3) := by decide +kernel
theorem dX8_tick_44 : decode cX8_tick 44 = .ok (.aload_n 0, 1) := by decide +kernel
theorem dX8_tick_45 : decode cX8_tick 45 = .ok (.getfield 7, 3) := by decide +kernel
theorem dX8_tick_48 : decode cX8_tick 48 = .ok (.iconst 1, 1) := by decide +kernel
theorem dX8_tick_49 : decode cX8_tick 49 = .ok (.dup2, 1) := by decide +kernel
theorem dX8_tick_50 : decode cX8_tick 50 = .ok (.iaload, 1) := by decide +kernel
theorem dX8_tick_51 : decode cX8_tick 51 = .ok (.iconst 1, 1) := by decide +kernel
theorem dX8_tick_52 : decode cX8_tick 52 = .ok (.iadd, 1) := by decide +kernel
theorem dX8_tick_53 : decode cX8_tick 53 = .ok (.iastore, 1) := by decide +kernel
theorem dX8_tick_54 : decode cX8_tick 54 = .ok (.iload_n 1, 1) := by decide +kernel
theorem dX8_tick_55 : decode cX8_tick 55 = .ok (.ireturn, 1) := by decide +kernel
theorem dX8_homes_0 : decode cX8_homes 0 = .ok (.iconst 0, 1) := by decide +kernel
theorem dX8_homes_1 : decode cX8_homes 1 = .ok (.istore_n 1, 1) := by decide +kernel
theorem dX8_homes_2 : decode cX8_homes 2 = .ok (.iconst 0, 1) := by decide +kernel
theorem dX8_homes_3 : decode cX8_homes 3 = .ok (.istore_n 2, 1) := by decide +kernel
theorem dX8_homes_4 : decode cX8_homes 4 = .ok (.iload_n 2, 1) := by decide +kernel
theorem dX8_homes_5 : decode cX8_homes 5 = .ok (.aload_n 0, 1) := by decide +kernel
theorem dX8_homes_6 : decode cX8_homes 6 = .ok (.getfield 7, 3) := by decide +kernel
theorem dX8_homes_9 : decode cX8_homes 9 = .ok (.iconst 0, 1) := by decide +kernel
theorem dX8_homes_10 : decode cX8_homes 10 = .ok (.iaload, 1) := by decide +kernel
theorem dX8_homes_11 : decode cX8_homes 11 = .ok (.if_icmp .ge 27, 3) := by decide +kernel
theorem dX8_homes_14 : decode cX8_homes 14 = .ok (.iload_n 1, 1) := by decide +kernel
theorem dX8_homes_15 : decode cX8_homes 15 = .ok (.aload_n 0, 1) := by decide +kernel
theorem dX8_homes_16 : decode cX8_homes 16 = .ok (.iload_n 2, 1) := by decide +kernel
theorem dX8_homes_17 : decode cX8_homes 17 = .ok (.invokevirtual 113, 3) := by decide +kernel
theorem dX8_homes_20 : decode cX8_homes 20 = .ok (.ifCond .eq 9, 3) := by decide +kernel
theorem dX8_homes_23 : decode cX8_homes 23 = .ok (.iconst 1, 1) := by decide +kernel
theorem dX8_homes_24 : decode cX8_homes 24 = .ok (.iload_n 2, 1) := by decide +kernel
theorem dX8_homes_25 : decode cX8_homes 25 = .ok (.ishl, 1) := by decide +kernel
theorem dX8_homes_26 : decode cX8_homes 26 = .ok (.goto 4, 3) := by decide +kernel
theorem dX8_homes_29 : decode cX8_homes 29 = .ok (.iconst 0, 1) := by decide +kernel
theorem dX8_homes_30 : decode cX8_homes 30 = .ok (.ior, 1) := by decide +kernel
theorem dX8_homes_31 : decode cX8_homes 31 = .ok (.istore_n 1, 1) := by decide +kernel
theorem dX8_homes_32 : decode cX8_homes 32 = .ok (.iinc 2 1, 3) := by decide +kernel
theorem dX8_homes_35 : decode cX8_homes 35 = .ok (.goto (-31), 3) := by decide +kernel
theorem dX8_homes_38 : decode cX8_homes 38 = .ok (.iload_n 1, 1) := by decide +kernel
theorem dX8_homes_39 : decode cX8_homes 39 = .ok (.ireturn, 1) := by decide +kernel
theorem dX8_go_0 : decode cX8_go 0 = .ok (.iload_n 1, 1) := by decide +kernel
theorem dX8_go_1 : decode cX8_go 1 = .ok (.i2l, 1) := by decide +kernel
theorem dX8_go_2 : decode cX8_go 2 = .ok (.lconst 1, 1) := by decide +kernel
theorem dX8_go_3 : decode cX8_go 3 = .ok (.ldc2_w 119, 3) := by decide +kernel
theorem dX8_go_6 : decode cX8_go 6 = .ok (.invokestatic 49, 3) := by decide +kernel
theorem dX8_go_9 : decode cX8_go 9 = .ok (.ifCond .ne 10, 3) := by decide +kernel
theorem dX8_go_12 : decode cX8_go 12 = .ok (.aload_n 0, 1) := by decide +kernel
theorem dX8_go_13 : decode cX8_go 13 = .ok (.ldc 37, 2) := by decide +kernel
theorem dX8_go_15 : decode cX8_go 15 = .ok (.invokevirtual 39, 3) := by decide +kernel
theorem dX8_go_18 : decode cX8_go 18 = .ok (.ireturn, 1) := by decide +kernel
theorem dX8_go_19 : decode cX8_go 19 = .ok (.aload_n 0, 1) := by decide +kernel
theorem dX8_go_20 : decode cX8_go 20 = .ok (.getfield 7, 3) := by decide +kernel
theorem dX8_go_23 : decode cX8_go 23 = .ok (.iconst 1, 1) := by decide +kernel
theorem dX8_go_24 : decode cX8_go 24 = .ok (.iaload, 1) := by decide +kernel
theorem dX8_go_25 : decode cX8_go 25 = .ok (.iload_n 1, 1) := by decide +kernel
theorem dX8_go_26 : decode cX8_go 26 = .ok (.iadd, 1) := by decide +kernel
theorem dX8_go_27 : decode cX8_go 27 = .ok (.ldc 100, 2) := by decide +kernel
theorem dX8_go_29 : decode cX8_go 29 = .ok (.if_icmp .le 10, 3) := by decide +kernel
theorem dX8_go_32 : decode cX8_go 32 = .ok (.aload_n 0, 1) := by decide +kernel
theorem dX8_go_33 : decode cX8_go 33 = .ok (.ldc 121, 2) := by decide +kernel
theorem dX8_go_35 : decode cX8_go 35 = .ok (.invokevirtual 39, 3) := by decide +kernel
theorem dX8_go_38 : decode cX8_go 38 = .ok (.ireturn, 1) := by decide +kernel
theorem dX8_go_39 : decode cX8_go 39 = .ok (.iconst 0, 1) := by decide +kernel
theorem dX8_go_40 : decode cX8_go 40 = .ok (.istore_n 2, 1) := by decide +kernel
theorem dX8_go_41 : decode cX8_go 41 = .ok (.iload_n 2, 1) := by decide +kernel
theorem dX8_go_42 : decode cX8_go 42 = .ok (.iload_n 1, 1) := by decide +kernel
theorem dX8_go_43 : decode cX8_go 43 = .ok (.if_icmp .ge 14, 3) := by decide +kernel
theorem dX8_go_46 : decode cX8_go 46 = .ok (.aload_n 0, 1) := by decide +kernel
theorem dX8_go_47 : decode cX8_go 47 = .ok (.invokevirtual 122, 3) := by decide +kernel
theorem dX8_go_50 : decode cX8_go 50 = .ok (.istore_n 3, 1) := by decide +kernel
theorem dX8_go_51 : decode cX8_go 51 = .ok (.iinc 2 1, 3) := by decide +kernel
theorem dX8_go_54 : decode cX8_go 54 = .ok (.goto (-13), 3) := by decide +kernel
theorem dX8_go_57 : decode cX8_go 57 = .ok (.aload_n 0, 1) := by decide +kernel
theorem dX8_go_58 : decode cX8_go 58 = .ok (.invokevirtual 126, 3) := by decide +kernel
theorem dX8_go_61 : decode cX8_go 61 = .ok (.ireturn, 1) := by decide +kernel
theorem dX8_sumOf_0 : decode cX8_sumOf 0 = .ok (.iconst 0, 1) := by decide +kernel
theorem dX8_sumOf_1 : decode cX8_sumOf 1 = .ok (.istore_n 2, 1) := by decide +kernel
theorem dX8_sumOf_2 : decode cX8_sumOf 2 = .ok (.iconst 0, 1) := by decide +kernel
theorem dX8_sumOf_3 : decode cX8_sumOf 3 = .ok (.istore_n 3, 1) := by decide +kernel
theorem dX8_sumOf_4 : decode cX8_sumOf 4 = .ok (.iload_n 3, 1) := by decide +kernel
theorem dX8_sumOf_5 : decode cX8_sumOf 5 = .ok (.aload_n 0, 1) := by decide +kernel
theorem dX8_sumOf_6 : decode cX8_sumOf 6 = .ok (.getfield 7, 3) := by decide +kernel
theorem dX8_sumOf_9 : decode cX8_sumOf 9 = .ok (.iconst 0, 1) := by decide +kernel
theorem dX8_sumOf_10 : decode cX8_sumOf 10 = .ok (.iaload, 1) := by decide +kernel
theorem dX8_sumOf_11 : decode cX8_sumOf 11 = .ok (.if_icmp .ge 18, 3) := by decide +kernel
theorem dX8_sumOf_14 : decode cX8_sumOf 14 = .ok (.iload_n 2, 1) := by decide +kernel
theorem dX8_sumOf_15 : decode cX8_sumOf 15 = .ok (.aload_n 0, 1) := by decide +kernel
theorem dX8_sumOf_16 : decode cX8_sumOf 16 = .ok (.iload_n 3, 1) := by decide +kernel
theorem dX8_sumOf_17 : decode cX8_sumOf 17 = .ok (.iload_n 1, 1) := by decide +kernel
theorem dX8_sumOf_18 : decode cX8_sumOf 18 = .ok (.invokevirtual 59, 3) := by decide +kernel
theorem dX8_sumOf_21 : decode cX8_sumOf 21 = .ok (.iadd, 1) := by decide +kernel
theorem dX8_sumOf_22 : decode cX8_sumOf 22 = .ok (.istore_n 2, 1) := by decide +kernel
theorem dX8_sumOf_23 : decode cX8_sumOf 23 = .ok (.iinc 3 1, 3) := by decide +kernel
theorem dX8_sumOf_26 : decode cX8_sumOf 26 = .ok (.goto (-22), 3) := by decide +kernel
theorem dX8_sumOf_29 : decode cX8_sumOf 29 = .ok (.iload_n 2, 1) := by decide +kernel
theorem dX8_sumOf_30 : decode cX8_sumOf 30 = .ok (.ireturn, 1) := by decide +kernel
theorem dX8_outs_0 : decode cX8_outs 0 = .ok (.iconst 0, 1) := by decide +kernel
theorem dX8_outs_1 : decode cX8_outs 1 = .ok (.istore_n 1, 1) := by decide +kernel
theorem dX8_outs_2 : decode cX8_outs 2 = .ok (.iconst 0, 1) := by decide +kernel
theorem dX8_outs_3 : decode cX8_outs 3 = .ok (.istore_n 2, 1) := by decide +kernel
theorem dX8_outs_4 : decode cX8_outs 4 = .ok (.iload_n 2, 1) := by decide +kernel
theorem dX8_outs_5 : decode cX8_outs 5 = .ok (.aload_n 0, 1) := by decide +kernel
theorem dX8_outs_6 : decode cX8_outs 6 = .ok (.getfield 7, 3) := by decide +kernel
theorem dX8_outs_9 : decode cX8_outs 9 = .ok (.iconst 0, 1) := by decide +kernel
theorem dX8_outs_10 : decode cX8_outs 10 = .ok (.iaload, 1) := by decide +kernel
theorem dX8_outs_11 : decode cX8_outs 11 = .ok (.if_icmp .ge 20, 3) := by decide +kernel
theorem dX8_outs_14 : decode cX8_outs 14 = .ok (.iload_n 1, 1) := by decide +kernel
theorem dX8_outs_15 : decode cX8_outs 15 = .ok (.aload_n 0, 1) := by decide +kernel
theorem dX8_outs_16 : decode cX8_outs 16 = .ok (.iload_n 2, 1) := by decide +kernel
theorem dX8_outs_17 : decode cX8_outs 17 = .ok (.iconst 5, 1) := by decide +kernel
theorem dX8_outs_18 : decode cX8_outs 18 = .ok (.invokevirtual 59, 3) := by decide +kernel
theorem dX8_outs_21 : decode cX8_outs 21 = .ok (.iload_n 2, 1) := by decide +kernel
theorem dX8_outs_22 : decode cX8_outs 22 = .ok (.ishl, 1) := by decide +kernel
theorem dX8_outs_23 : decode cX8_outs 23 = .ok (.ior, 1) := by decide +kernel
theorem dX8_outs_24 : decode cX8_outs 24 = .ok (.istore_n 1, 1) := by decide +kernel
theorem dX8_outs_25 : decode cX8_outs 25 = .ok (.iinc 2 1, 3) := by decide +kernel
theorem dX8_outs_28 : decode cX8_outs 28 = .ok (.goto (-24), 3) := by decide +kernel
theorem dX8_outs_31 : decode cX8_outs 31 = .ok (.iload_n 1, 1) := by decide +kernel
theorem dX8_outs_32 : decode cX8_outs 32 = .ok (.ireturn, 1) := by decide +kernel
theorem dX8_roofs_0 : decode cX8_roofs 0 = .ok (.iconst 0, 1) := by decide +kernel
theorem dX8_roofs_1 : decode cX8_roofs 1 = .ok (.istore_n 1, 1) := by decide +kernel
theorem dX8_roofs_2 : decode cX8_roofs 2 = .ok (.iconst 0, 1) := by decide +kernel
theorem dX8_roofs_3 : decode cX8_roofs 3 = .ok (.istore_n 2, 1) := by decide +kernel
theorem dX8_roofs_4 : decode cX8_roofs 4 = .ok (.iload_n 2, 1) := by decide +kernel
theorem dX8_roofs_5 : decode cX8_roofs 5 = .ok (.bipush 16, 2) := by decide +kernel
theorem dX8_roofs_7 : decode cX8_roofs 7 = .ok (.if_icmp .ge 23, 3) := by decide +kernel
theorem dX8_roofs_10 : decode cX8_roofs 10 = .ok (.iload_n 1, 1) := by decide +kernel
theorem dX8_roofs_11 : decode cX8_roofs 11 = .ok (.aload_n 0, 1) := by decide +kernel
theorem dX8_roofs_12 : decode cX8_roofs 12 = .ok (.getfield 7, 3) := by decide +kernel
theorem dX8_roofs_15 : decode cX8_roofs 15 = .ok (.bipush 37, 2) := by decide +kernel
theorem dX8_roofs_17 : decode cX8_roofs 17 = .ok (.iload_n 2, 1) := by decide +kernel
theorem dX8_roofs_18 : decode cX8_roofs 18 = .ok (.iadd, 1) := by decide +kernel
theorem dX8_roofs_19 : decode cX8_roofs 19 = .ok (.iaload, 1) := by decide +kernel
theorem dX8_roofs_20 : decode cX8_roofs 20 = .ok (.iload_n 2, 1) := by decide +kernel
theorem dX8_roofs_21 : decode cX8_roofs 21 = .ok (.ishl, 1) := by decide +kernel
theorem dX8_roofs_22 : decode cX8_roofs 22 = .ok (.ior, 1) := by decide +kernel
theorem dX8_roofs_23 : decode cX8_roofs 23 = .ok (.istore_n 1, 1) := by decide +kernel
theorem dX8_roofs_24 : decode cX8_roofs 24 = .ok (.iinc 2 1, 3) := by decide +kernel
theorem dX8_roofs_27 : decode cX8_roofs 27 = .ok (.goto (-23), 3) := by decide +kernel
theorem dX8_roofs_30 : decode cX8_roofs 30 = .ok (.iload_n 1, 1) := by decide +kernel
theorem dX8_roofs_31 : decode cX8_roofs 31 = .ok (.ireturn, 1) := by decide +kernel
theorem dX8_now_0 : decode cX8_now 0 = .ok (.iload_n 1, 1) := by decide +kernel
theorem dX8_now_1 : decode cX8_now 1 = .ok (.tableswitch 85 0 6 #[43, 50, 57, 62, 67, 73, 78], 43) := by decide +kernel
theorem dX8_now_44 : decode cX8_now 44 = .ok (.aload_n 0, 1) := by decide +kernel
theorem dX8_now_45 : decode cX8_now 45 = .ok (.getfield 7, 3) := by decide +kernel
theorem dX8_now_48 : decode cX8_now 48 = .ok (.iconst 1, 1) := by decide +kernel
theorem dX8_now_49 : decode cX8_now 49 = .ok (.iaload, 1) := by decide +kernel
theorem dX8_now_50 : decode cX8_now 50 = .ok (.ireturn, 1) := by decide +kernel
theorem dX8_now_51 : decode cX8_now 51 = .ok (.aload_n 0, 1) := by decide +kernel
theorem dX8_now_52 : decode cX8_now 52 = .ok (.bipush 7, 2) := by decide +kernel
theorem dX8_now_54 : decode cX8_now 54 = .ok (.invokevirtual 129, 3) := by decide +kernel
theorem dX8_now_57 : decode cX8_now 57 = .ok (.ireturn, 1) := by decide +kernel
theorem dX8_now_58 : decode cX8_now 58 = .ok (.aload_n 0, 1) := by decide +kernel
theorem dX8_now_59 : decode cX8_now 59 = .ok (.invokevirtual 126, 3) := by decide +kernel
theorem dX8_now_62 : decode cX8_now 62 = .ok (.ireturn, 1) := by decide +kernel
theorem dX8_now_63 : decode cX8_now 63 = .ok (.aload_n 0, 1) := by decide +kernel
theorem dX8_now_64 : decode cX8_now 64 = .ok (.invokevirtual 132, 3) := by decide +kernel
theorem dX8_now_67 : decode cX8_now 67 = .ok (.ireturn, 1) := by decide +kernel
theorem dX8_now_68 : decode cX8_now 68 = .ok (.aload_n 0, 1) := by decide +kernel
theorem dX8_now_69 : decode cX8_now 69 = .ok (.iconst 4, 1) := by decide +kernel
theorem dX8_now_70 : decode cX8_now 70 = .ok (.invokevirtual 129, 3) := by decide +kernel
theorem dX8_now_73 : decode cX8_now 73 = .ok (.ireturn, 1) := by decide +kernel
theorem dX8_now_74 : decode cX8_now 74 = .ok (.aload_n 0, 1) := by decide +kernel
theorem dX8_now_75 : decode cX8_now 75 = .ok (.invokevirtual 135, 3) := by decide +kernel
theorem dX8_now_78 : decode cX8_now 78 = .ok (.ireturn, 1) := by decide +kernel
theorem dX8_now_79 : decode cX8_now 79 = .ok (.aload_n 0, 1) := by decide +kernel
theorem dX8_now_80 : decode cX8_now 80 = .ok (.bipush 6, 2) := by decide +kernel
theorem dX8_now_82 : decode cX8_now 82 = .ok (.invokevirtual 129, 3) := by decide +kernel
theorem dX8_now_85 : decode cX8_now 85 = .ok (.ireturn, 1) := by decide +kernel
theorem dX8_now_86 : decode cX8_now 86 = .ok (.aload_n 0, 1) := by decide +kernel
theorem dX8_now_87 : decode cX8_now 87 = .ok (.ldc 37, 2) := by decide +kernel
theorem dX8_now_89 : decode cX8_now 89 = .ok (.invokevirtual 39, 3) := by decide +kernel
theorem dX8_now_92 : decode cX8_now 92 = .ok (.ireturn, 1) := by decide +kernel
theorem dX8_goesAlone_0 : decode cX8_goesAlone 0 = .ok (.aload_n 0, 1) := by decide +kernel
theorem dX8_goesAlone_1 : decode cX8_goesAlone 1 = .ok (.iload_n 1, 1) := by decide +kernel
theorem dX8_goesAlone_2 : decode cX8_goesAlone 2 = .ok (.invokevirtual 113, 3) := by decide +kernel
theorem dX8_goesAlone_5 : decode cX8_goesAlone 5 = .ok (.ifCond .ne 15, 3) := by decide +kernel
theorem dX8_goesAlone_8 : decode cX8_goesAlone 8 = .ok (.aload_n 0, 1) := by decide +kernel
theorem dX8_goesAlone_9 : decode cX8_goesAlone 9 = .ok (.iload_n 1, 1) := by decide +kernel
theorem dX8_goesAlone_10 : decode cX8_goesAlone 10 = .ok (.invokevirtual 116, 3) := by decide +kernel
theorem dX8_goesAlone_13 : decode cX8_goesAlone 13 = .ok (.ifCond .eq 7, 3) := by decide +kernel
theorem dX8_goesAlone_16 : decode cX8_goesAlone 16 = .ok (.iconst 1, 1) := by decide +kernel
theorem dX8_goesAlone_17 : decode cX8_goesAlone 17 = .ok (.goto 4, 3) := by decide +kernel
theorem dX8_goesAlone_20 : decode cX8_goesAlone 20 = .ok (.iconst 0, 1) := by decide +kernel
theorem dX8_goesAlone_21 : decode cX8_goesAlone 21 = .ok (.istore_n 2, 1) := by decide +kernel
theorem dX8_goesAlone_22 : decode cX8_goesAlone 22 = .ok (.aload_n 0, 1) := by decide +kernel
theorem dX8_goesAlone_23 : decode cX8_goesAlone 23 = .ok (.getfield 7, 3) := by decide +kernel
theorem dX8_goesAlone_26 : decode cX8_goesAlone 26 = .ok (.iconst 1, 1) := by decide +kernel
theorem dX8_goesAlone_27 : decode cX8_goesAlone 27 = .ok (.dup2, 1) := by decide +kernel
theorem dX8_goesAlone_28 : decode cX8_goesAlone 28 = .ok (.iaload, 1) := by decide +kernel
theorem dX8_goesAlone_29 : decode cX8_goesAlone 29 = .ok (.iconst 1, 1) := by decide +kernel
theorem dX8_goesAlone_30 : decode cX8_goesAlone 30 = .ok (.iadd, 1) := by decide +kernel
theorem dX8_goesAlone_31 : decode cX8_goesAlone 31 = .ok (.iastore, 1) := by decide +kernel
theorem dX8_goesAlone_32 : decode cX8_goesAlone 32 = .ok (.return_, 1) := by decide +kernel
theorem dX8_ahead_0 : decode cX8_ahead 0 = .ok (.aload_n 0, 1) := by decide +kernel
theorem dX8_ahead_1 : decode cX8_ahead 1 = .ok (.iload_n 1, 1) := by decide +kernel
theorem dX8_ahead_2 : decode cX8_ahead 2 = .ok (.invokevirtual 89, 3) := by decide +kernel
theorem dX8_ahead_5 : decode cX8_ahead 5 = .ok (.ifCond .eq 27, 3) := by decide +kernel
theorem dX8_ahead_8 : decode cX8_ahead 8 = .ok (.iload_n 2, 1) := by decide +kernel
theorem dX8_ahead_9 : decode cX8_ahead 9 = .ok (.i2l, 1) := by decide +kernel
theorem dX8_ahead_10 : decode cX8_ahead 10 = .ok (.lconst 1, 1) := by decide +kernel
theorem dX8_ahead_11 : decode cX8_ahead 11 = .ok (.ldc2_w 101, 3) := by decide +kernel
theorem dX8_ahead_14 : decode cX8_ahead 14 = .ok (.invokestatic 49, 3) := by decide +kernel
theorem dX8_ahead_17 : decode cX8_ahead 17 = .ok (.ifCond .eq 15, 3) := by decide +kernel
theorem dX8_ahead_20 : decode cX8_ahead 20 = .ok (.iload_n 3, 1) := by decide +kernel
theorem dX8_ahead_21 : decode cX8_ahead 21 = .ok (.i2l, 1) := by decide +kernel
theorem dX8_ahead_22 : decode cX8_ahead 22 = .ok (.lconst 0, 1) := by decide +kernel
theorem dX8_ahead_23 : decode cX8_ahead 23 = .ok (.ldc2_w 138, 3) := by decide +kernel
theorem dX8_ahead_26 : decode cX8_ahead 26 = .ok (.invokestatic 49, 3) := by decide +kernel
theorem dX8_ahead_29 : decode cX8_ahead 29 = .ok (.ifCond .ne 10, 3) := by decide +kernel
theorem dX8_ahead_32 : decode cX8_ahead 32 = .ok (.aload_n 0, 1) := by decide +kernel
theorem dX8_ahead_33 : decode cX8_ahead 33 = .ok (.ldc 37, 2) := by decide +kernel
theorem dX8_ahead_35 : decode cX8_ahead 35 = .ok (.invokevirtual 39, 3) := by decide +kernel
theorem dX8_ahead_38 : decode cX8_ahead 38 = .ok (.ireturn, 1) := by decide +kernel
theorem dX8_ahead_39 : decode cX8_ahead 39 = .ok (.aload_n 0, 1) := by decide +kernel
theorem dX8_ahead_40 : decode cX8_ahead 40 = .ok (.getfield 7, 3) := by decide +kernel
theorem dX8_ahead_43 : decode cX8_ahead 43 = .ok (.aload_n 0, 1) := by decide +kernel
theorem dX8_ahead_44 : decode cX8_ahead 44 = .ok (.getfield 19, 3) := by decide +kernel
theorem dX8_ahead_47 : decode cX8_ahead 47 = .ok (.invokestatic 140, 3) := by decide +kernel
theorem dX8_ahead_50 : decode cX8_ahead 50 = .ok (.iconst 0, 1) := by decide +kernel
theorem dX8_ahead_51 : decode cX8_ahead 51 = .ok (.istore 4, 2) := by decide +kernel
theorem dX8_ahead_53 : decode cX8_ahead 53 = .ok (.iload 4, 2) := by decide +kernel
theorem dX8_ahead_55 : decode cX8_ahead 55 = .ok (.iload_n 3, 1) := by decide +kernel
theorem dX8_ahead_56 : decode cX8_ahead 56 = .ok (.if_icmp .ge 14, 3) := by decide +kernel
theorem dX8_ahead_59 : decode cX8_ahead 59 = .ok (.aload_n 0, 1) := by decide +kernel
theorem dX8_ahead_60 : decode cX8_ahead 60 = .ok (.iload_n 1, 1) := by decide +kernel
theorem dX8_ahead_61 : decode cX8_ahead 61 = .ok (.invokevirtual 144, 3) := by decide +kernel
theorem dX8_ahead_64 : decode cX8_ahead 64 = .ok (.iinc 4 1, 3) := by decide +kernel
theorem dX8_ahead_67 : decode cX8_ahead 67 = .ok (.goto (-14), 3) := by decide +kernel
theorem dX8_ahead_70 : decode cX8_ahead 70 = .ok (.aload_n 0, 1) := by decide +kernel
theorem dX8_ahead_71 : decode cX8_ahead 71 = .ok (.iload_n 1, 1) := by decide +kernel
theorem dX8_ahead_72 : decode cX8_ahead 72 = .ok (.iload_n 2, 1) := by decide +kernel
theorem dX8_ahead_73 : decode cX8_ahead 73 = .ok (.invokevirtual 59, 3) := by decide +kernel
theorem dX8_ahead_76 : decode cX8_ahead 76 = .ok (.istore 4, 2) := by decide +kernel
theorem dX8_ahead_78 : decode cX8_ahead 78 = .ok (.aload_n 0, 1) := by decide +kernel
theorem dX8_ahead_79 : decode cX8_ahead 79 = .ok (.getfield 19, 3) := by decide +kernel
theorem dX8_ahead_82 : decode cX8_ahead 82 = .ok (.aload_n 0, 1) := by decide +kernel
theorem dX8_ahead_83 : decode cX8_ahead 83 = .ok (.getfield 7, 3) := by decide +kernel
theorem dX8_ahead_86 : decode cX8_ahead 86 = .ok (.invokestatic 140, 3) := by decide +kernel
theorem dX8_ahead_89 : decode cX8_ahead 89 = .ok (.iload 4, 2) := by decide +kernel
theorem dX8_ahead_91 : decode cX8_ahead 91 = .ok (.ireturn, 1) := by decide +kernel
theorem dX8_follows_0 : decode cX8_follows 0 = .ok (.aload_n 0, 1) := by decide +kernel
theorem dX8_follows_1 : decode cX8_follows 1 = .ok (.getfield 7, 3) := by decide +kernel
theorem dX8_follows_4 : decode cX8_follows 4 = .ok (.aload_n 0, 1) := by decide +kernel
theorem dX8_follows_5 : decode cX8_follows 5 = .ok (.getfield 19, 3) := by decide +kernel
theorem dX8_follows_8 : decode cX8_follows 8 = .ok (.invokestatic 140, 3) := by decide +kernel
theorem dX8_follows_11 : decode cX8_follows 11 = .ok (.iconst 0, 1) := by decide +kernel
theorem dX8_follows_12 : decode cX8_follows 12 = .ok (.istore_n 2, 1) := by decide +kernel
theorem dX8_follows_13 : decode cX8_follows 13 = .ok (.iload_n 2, 1) := by decide +kernel
theorem dX8_follows_14 : decode cX8_follows 14 = .ok (.sipush 200, 3) := by decide +kernel
theorem dX8_follows_17 : decode cX8_follows 17 = .ok (.if_icmp .ge 22, 3) := by decide +kernel
theorem dX8_follows_20 : decode cX8_follows 20 = .ok (.aload_n 0, 1) := by decide +kernel
theorem dX8_follows_21 : decode cX8_follows 21 = .ok (.iload_n 1, 1) := by decide +kernel
theorem dX8_follows_22 : decode cX8_follows 22 = .ok (.invokevirtual 113, 3) := by decide +kernel
theorem dX8_follows_25 : decode cX8_follows 25 = .ok (.ifCond .ne 14, 3) := by decide +kernel
theorem dX8_follows_28 : decode cX8_follows 28 = .ok (.aload_n 0, 1) := by decide +kernel
theorem dX8_follows_29 : decode cX8_follows 29 = .ok (.iload_n 1, 1) := by decide +kernel
theorem dX8_follows_30 : decode cX8_follows 30 = .ok (.invokevirtual 144, 3) := by decide +kernel
theorem dX8_follows_33 : decode cX8_follows 33 = .ok (.iinc 2 1, 3) := by decide +kernel
theorem dX8_follows_36 : decode cX8_follows 36 = .ok (.goto (-23), 3) := by decide +kernel
theorem dX8_follows_39 : decode cX8_follows 39 = .ok (.aload_n 0, 1) := by decide +kernel
theorem dX8_follows_40 : decode cX8_follows 40 = .ok (.iload_n 1, 1) := by decide +kernel
theorem dX8_follows_41 : decode cX8_follows 41 = .ok (.invokevirtual 113, 3) := by decide +kernel
theorem dX8_follows_44 : decode cX8_follows 44 = .ok (.istore_n 3, 1) := by decide +kernel
theorem dX8_follows_45 : decode cX8_follows 45 = .ok (.aload_n 0, 1) := by decide +kernel
theorem dX8_follows_46 : decode cX8_follows 46 = .ok (.aload_n 0, 1) := by decide +kernel
theorem dX8_follows_47 : decode cX8_follows 47 = .ok (.iload_n 1, 1) := by decide +kernel
theorem dX8_follows_48 : decode cX8_follows 48 = .ok (.bipush 7, 2) := by decide +kernel
theorem dX8_follows_50 : decode cX8_follows 50 = .ok (.invokevirtual 59, 3) := by decide +kernel
theorem dX8_follows_53 : decode cX8_follows 53 = .ok (.putfield 147, 3) := by decide +kernel
theorem dX8_follows_56 : decode cX8_follows 56 = .ok (.aload_n 0, 1) := by decide +kernel
theorem dX8_follows_57 : decode cX8_follows 57 = .ok (.aload_n 0, 1) := by decide +kernel
theorem dX8_follows_58 : decode cX8_follows 58 = .ok (.iload_n 1, 1) := by decide +kernel
theorem dX8_follows_59 : decode cX8_follows 59 = .ok (.bipush 6, 2) := by decide +kernel
theorem dX8_follows_61 : decode cX8_follows 61 = .ok (.invokevirtual 59, 3) := by decide +kernel
theorem dX8_follows_64 : decode cX8_follows 64 = .ok (.putfield 151, 3) := by decide +kernel
theorem dX8_follows_67 : decode cX8_follows 67 = .ok (.aload_n 0, 1) := by decide +kernel
theorem dX8_follows_68 : decode cX8_follows 68 = .ok (.aload_n 0, 1) := by decide +kernel
theorem dX8_follows_69 : decode cX8_follows 69 = .ok (.iload_n 1, 1) := by decide +kernel
theorem dX8_follows_70 : decode cX8_follows 70 = .ok (.iconst 4, 1) := by decide +kernel
theorem dX8_follows_71 : decode cX8_follows 71 = .ok (.invokevirtual 59, 3) := by decide +kernel
theorem dX8_follows_74 : decode cX8_follows 74 = .ok (.putfield 154, 3) := by decide +kernel
theorem dX8_follows_77 : decode cX8_follows 77 = .ok (.aload_n 0, 1) := by decide +kernel
theorem dX8_follows_78 : decode cX8_follows 78 = .ok (.getfield 19, 3) := by decide +kernel
theorem dX8_follows_81 : decode cX8_follows 81 = .ok (.aload_n 0, 1) := by decide +kernel
theorem dX8_follows_82 : decode cX8_follows 82 = .ok (.getfield 7, 3) := by decide +kernel
theorem dX8_follows_85 : decode cX8_follows 85 = .ok (.invokestatic 140, 3) := by decide +kernel
theorem dX8_follows_88 : decode cX8_follows 88 = .ok (.iload_n 3, 1) := by decide +kernel
theorem dX8_follows_89 : decode cX8_follows 89 = .ok (.ifCond .eq 7, 3) := by decide +kernel
theorem dX8_follows_92 : decode cX8_follows 92 = .ok (.iload_n 2, 1) := by decide +kernel
theorem dX8_follows_93 : decode cX8_follows 93 = .ok (.goto 4, 3) := by decide +kernel
theorem dX8_follows_96 : decode cX8_follows 96 = .ok (.iconst (-1), 1) := by decide +kernel
theorem dX8_follows_97 : decode cX8_follows 97 = .ok (.ireturn, 1) := by decide +kernel
theorem dX8_home_0 : decode cX8_home 0 = .ok (.aload_n 0, 1) := by decide +kernel
theorem dX8_home_1 : decode cX8_home 1 = .ok (.iload_n 1, 1) := by decide +kernel
theorem dX8_home_2 : decode cX8_home 2 = .ok (.invokevirtual 89, 3) := by decide +kernel
theorem dX8_home_5 : decode cX8_home 5 = .ok (.ifCond .eq 15, 3) := by decide +kernel
theorem dX8_home_8 : decode cX8_home 8 = .ok (.aload_n 0, 1) := by decide +kernel
theorem dX8_home_9 : decode cX8_home 9 = .ok (.aload_n 0, 1) := by decide +kernel
theorem dX8_home_10 : decode cX8_home 10 = .ok (.iload_n 1, 1) := by decide +kernel
theorem dX8_home_11 : decode cX8_home 11 = .ok (.invokevirtual 157, 3) := by decide +kernel
theorem dX8_home_14 : decode cX8_home 14 = .ok (.invokevirtual 160, 3) := by decide +kernel
theorem dX8_home_17 : decode cX8_home 17 = .ok (.goto 9, 3) := by decide +kernel
theorem dX8_home_20 : decode cX8_home 20 = .ok (.aload_n 0, 1) := by decide +kernel
theorem dX8_home_21 : decode cX8_home 21 = .ok (.ldc 37, 2) := by decide +kernel
theorem dX8_home_23 : decode cX8_home 23 = .ok (.invokevirtual 39, 3) := by decide +kernel
theorem dX8_home_26 : decode cX8_home 26 = .ok (.ireturn, 1) := by decide +kernel
theorem dX8_homeWith_0 : decode cX8_homeWith 0 = .ok (.aload_n 0, 1) := by decide +kernel
theorem dX8_homeWith_1 : decode cX8_homeWith 1 = .ok (.iload_n 1, 1) := by decide +kernel
theorem dX8_homeWith_2 : decode cX8_homeWith 2 = .ok (.invokevirtual 89, 3) := by decide +kernel
theorem dX8_homeWith_5 : decode cX8_homeWith 5 = .ok (.ifCond .eq 22, 3) := by decide +kernel
theorem dX8_homeWith_8 : decode cX8_homeWith 8 = .ok (.iload_n 2, 1) := by decide +kernel
theorem dX8_homeWith_9 : decode cX8_homeWith 9 = .ok (.iconst 4, 1) := by decide +kernel
theorem dX8_homeWith_10 : decode cX8_homeWith 10 = .ok (.if_icmp .eq 24, 3) := by decide +kernel
theorem dX8_homeWith_13 : decode cX8_homeWith 13 = .ok (.iload_n 2, 1) := by decide +kernel
theorem dX8_homeWith_14 : decode cX8_homeWith 14 = .ok (.i2l, 1) := by decide +kernel
theorem dX8_homeWith_15 : decode cX8_homeWith 15 = .ok (.ldc2_w 73, 3) := by decide +kernel
theorem dX8_homeWith_18 : decode cX8_homeWith 18 = .ok (.ldc2_w 101, 3) := by decide +kernel
theorem dX8_homeWith_21 : decode cX8_homeWith 21 = .ok (.invokestatic 49, 3) := by decide +kernel
theorem dX8_homeWith_24 : decode cX8_homeWith 24 = .ok (.ifCond .ne 10, 3) := by decide +kernel
theorem dX8_homeWith_27 : decode cX8_homeWith 27 = .ok (.aload_n 0, 1) := by decide +kernel
theorem dX8_homeWith_28 : decode cX8_homeWith 28 = .ok (.ldc 37, 2) := by decide +kernel
theorem dX8_homeWith_30 : decode cX8_homeWith 30 = .ok (.invokevirtual 39, 3) := by decide +kernel
theorem dX8_homeWith_33 : decode cX8_homeWith 33 = .ok (.ireturn, 1) := by decide +kernel
theorem dX8_homeWith_34 : decode cX8_homeWith 34 = .ok (.aload_n 0, 1) := by decide +kernel
theorem dX8_homeWith_35 : decode cX8_homeWith 35 = .ok (.iload_n 1, 1) := by decide +kernel
theorem dX8_homeWith_36 : decode cX8_homeWith 36 = .ok (.invokevirtual 157, 3) := by decide +kernel
theorem dX8_homeWith_39 : decode cX8_homeWith 39 = .ok (.ifCond .ge 10, 3) := by decide +kernel
theorem dX8_homeWith_42 : decode cX8_homeWith 42 = .ok (.aload_n 0, 1) := by decide +kernel
theorem dX8_homeWith_43 : decode cX8_homeWith 43 = .ok (.ldc 38, 2) := by decide +kernel
theorem dX8_homeWith_45 : decode cX8_homeWith 45 = .ok (.invokevirtual 39, 3) := by decide +kernel
theorem dX8_homeWith_48 : decode cX8_homeWith 48 = .ok (.ireturn, 1) := by decide +kernel
theorem dX8_homeWith_49 : decode cX8_homeWith 49 = .ok (.iload_n 2, 1) := by decide +kernel
theorem dX8_homeWith_50 : decode cX8_homeWith 50 = .ok (.bipush 7, 2) := by decide +kernel
theorem dX8_homeWith_52 : decode cX8_homeWith 52 = .ok (.if_icmp .ne 10, 3) := by decide +kernel
theorem dX8_homeWith_55 : decode cX8_homeWith 55 = .ok (.aload_n 0, 1) := by decide +kernel
theorem dX8_homeWith_56 : decode cX8_homeWith 56 = .ok (.getfield 147, 3) := by decide +kernel
theorem dX8_homeWith_59 : decode cX8_homeWith 59 = .ok (.goto 20, 3) := by decide +kernel
theorem dX8_homeWith_62 : decode cX8_homeWith 62 = .ok (.iload_n 2, 1) := by decide +kernel
theorem dX8_homeWith_63 : decode cX8_homeWith 63 = .ok (.bipush 6, 2) := by decide +kernel
theorem dX8_homeWith_65 : decode cX8_homeWith 65 = .ok (.if_icmp .ne 10, 3) := by decide +kernel
theorem dX8_homeWith_68 : decode cX8_homeWith 68 = .ok (.aload_n 0, 1) := by decide +kernel
theorem dX8_homeWith_69 : decode cX8_homeWith 69 = .ok (.getfield 151, 3) := by decide +kernel
theorem dX8_homeWith_72 : decode cX8_homeWith 72 = .ok (.goto 7, 3) := by decide +kernel
theorem dX8_homeWith_75 : decode cX8_homeWith 75 = .ok (.aload_n 0, 1) := by decide +kernel
theorem dX8_homeWith_76 : decode cX8_homeWith 76 = .ok (.getfield 154, 3) := by decide +kernel
theorem dX8_homeWith_79 : decode cX8_homeWith 79 = .ok (.ireturn, 1) := by decide +kernel
theorem dX8_whup_0 : decode cX8_whup 0 = .ok (.aload_n 0, 1) := by decide +kernel
theorem dX8_whup_1 : decode cX8_whup 1 = .ok (.iload_n 1, 1) := by decide +kernel
theorem dX8_whup_2 : decode cX8_whup 2 = .ok (.invokevirtual 89, 3) := by decide +kernel
theorem dX8_whup_5 : decode cX8_whup 5 = .ok (.ifCond .ne 10, 3) := by decide +kernel
theorem dX8_whup_8 : decode cX8_whup 8 = .ok (.aload_n 0, 1) := by decide +kernel
theorem dX8_whup_9 : decode cX8_whup 9 = .ok (.ldc 37, 2) := by decide +kernel
theorem dX8_whup_11 : decode cX8_whup 11 = .ok (.invokevirtual 39, 3) := by decide +kernel
theorem dX8_whup_14 : decode cX8_whup 14 = .ok (.ireturn, 1) := by decide +kernel
theorem dX8_whup_15 : decode cX8_whup 15 = .ok (.aload_n 0, 1) := by decide +kernel
theorem dX8_whup_16 : decode cX8_whup 16 = .ok (.getfield 7, 3) := by decide +kernel
theorem dX8_whup_19 : decode cX8_whup 19 = .ok (.aload_n 0, 1) := by decide +kernel
theorem dX8_whup_20 : decode cX8_whup 20 = .ok (.getfield 19, 3) := by decide +kernel
theorem dX8_whup_23 : decode cX8_whup 23 = .ok (.invokestatic 140, 3) := by decide +kernel
theorem dX8_whup_26 : decode cX8_whup 26 = .ok (.aload_n 0, 1) := by decide +kernel
theorem dX8_whup_27 : decode cX8_whup 27 = .ok (.iload_n 1, 1) := by decide +kernel
theorem dX8_whup_28 : decode cX8_whup 28 = .ok (.bipush 6, 2) := by decide +kernel
theorem dX8_whup_30 : decode cX8_whup 30 = .ok (.invokevirtual 59, 3) := by decide +kernel
theorem dX8_whup_33 : decode cX8_whup 33 = .ok (.istore_n 2, 1) := by decide +kernel
theorem dX8_whup_34 : decode cX8_whup 34 = .ok (.iconst 0, 1) := by decide +kernel
theorem dX8_whup_35 : decode cX8_whup 35 = .ok (.istore_n 3, 1) := by decide +kernel
theorem dX8_whup_36 : decode cX8_whup 36 = .ok (.iload_n 3, 1) := by decide +kernel
theorem dX8_whup_37 : decode cX8_whup 37 = .ok (.sipush 200, 3) := by decide +kernel
theorem dX8_whup_40 : decode cX8_whup 40 = .ok (.if_icmp .ge 25, 3) := by decide +kernel
theorem dX8_whup_43 : decode cX8_whup 43 = .ok (.aload_n 0, 1) := by decide +kernel
theorem dX8_whup_44 : decode cX8_whup 44 = .ok (.iload_n 1, 1) := by decide +kernel
theorem dX8_whup_45 : decode cX8_whup 45 = .ok (.bipush 6, 2) := by decide +kernel
theorem dX8_whup_47 : decode cX8_whup 47 = .ok (.invokevirtual 59, 3) := by decide +kernel
theorem dX8_whup_50 : decode cX8_whup 50 = .ok (.iload_n 2, 1) := by decide +kernel
theorem dX8_whup_51 : decode cX8_whup 51 = .ok (.if_icmp .ne 14, 3) := by decide +kernel
theorem dX8_whup_54 : decode cX8_whup 54 = .ok (.aload_n 0, 1) := by decide +kernel
theorem dX8_whup_55 : decode cX8_whup 55 = .ok (.iload_n 1, 1) := by decide +kernel
theorem dX8_whup_56 : decode cX8_whup 56 = .ok (.invokevirtual 144, 3) := by decide +kernel
theorem dX8_whup_59 : decode cX8_whup 59 = .ok (.iinc 3 1, 3) := by decide +kernel
theorem dX8_whup_62 : decode cX8_whup 62 = .ok (.goto (-26), 3) := by decide +kernel
theorem dX8_whup_65 : decode cX8_whup 65 = .ok (.aload_n 0, 1) := by decide +kernel
theorem dX8_whup_66 : decode cX8_whup 66 = .ok (.iload_n 1, 1) := by decide +kernel
theorem dX8_whup_67 : decode cX8_whup 67 = .ok (.bipush 6, 2) := by decide +kernel
theorem dX8_whup_69 : decode cX8_whup 69 = .ok (.invokevirtual 59, 3) := by decide +kernel
theorem dX8_whup_72 : decode cX8_whup 72 = .ok (.iload_n 2, 1) := by decide +kernel
theorem dX8_whup_73 : decode cX8_whup 73 = .ok (.if_icmp .le 7, 3) := by decide +kernel
theorem dX8_whup_76 : decode cX8_whup 76 = .ok (.iconst 1, 1) := by decide +kernel
theorem dX8_whup_77 : decode cX8_whup 77 = .ok (.goto 4, 3) := by decide +kernel
theorem dX8_whup_80 : decode cX8_whup 80 = .ok (.iconst 0, 1) := by decide +kernel
theorem dX8_whup_81 : decode cX8_whup 81 = .ok (.istore 4, 2) := by decide +kernel
theorem dX8_whup_83 : decode cX8_whup 83 = .ok (.aload_n 0, 1) := by decide +kernel
theorem dX8_whup_84 : decode cX8_whup 84 = .ok (.getfield 19, 3) := by decide +kernel
theorem dX8_whup_87 : decode cX8_whup 87 = .ok (.aload_n 0, 1) := by decide +kernel
theorem dX8_whup_88 : decode cX8_whup 88 = .ok (.getfield 7, 3) := by decide +kernel
theorem dX8_whup_91 : decode cX8_whup 91 = .ok (.invokestatic 140, 3) := by decide +kernel
theorem dX8_whup_94 : decode cX8_whup 94 = .ok (.iload 4, 2) := by decide +kernel
theorem dX8_whup_96 : decode cX8_whup 96 = .ok (.ifCond .eq 7, 3) := by decide +kernel
theorem dX8_whup_99 : decode cX8_whup 99 = .ok (.iload_n 3, 1) := by decide +kernel
theorem dX8_whup_100 : decode cX8_whup 100 = .ok (.goto 9, 3) := by decide +kernel
theorem dX8_whup_103 : decode cX8_whup 103 = .ok (.aload_n 0, 1) := by decide +kernel
theorem dX8_whup_104 : decode cX8_whup 104 = .ok (.ldc 38, 2) := by decide +kernel
theorem dX8_whup_106 : decode cX8_whup 106 = .ok (.invokevirtual 39, 3) := by decide +kernel
theorem dX8_whup_109 : decode cX8_whup 109 = .ok (.ireturn, 1) := by decide +kernel
theorem dX8_first_0 : decode cX8_first 0 = .ok (.iconst (-1), 1) := by decide +kernel
theorem dX8_first_1 : decode cX8_first 1 = .ok (.istore_n 1, 1) := by decide +kernel
theorem dX8_first_2 : decode cX8_first 2 = .ok (.sipush 201, 3) := by decide +kernel
theorem dX8_first_5 : decode cX8_first 5 = .ok (.istore_n 2, 1) := by decide +kernel
theorem dX8_first_6 : decode cX8_first 6 = .ok (.iconst 0, 1) := by decide +kernel
theorem dX8_first_7 : decode cX8_first 7 = .ok (.istore_n 3, 1) := by decide +kernel
theorem dX8_first_8 : decode cX8_first 8 = .ok (.iload_n 3, 1) := by decide +kernel
theorem dX8_first_9 : decode cX8_first 9 = .ok (.aload_n 0, 1) := by decide +kernel
theorem dX8_first_10 : decode cX8_first 10 = .ok (.getfield 7, 3) := by decide +kernel
theorem dX8_first_13 : decode cX8_first 13 = .ok (.iconst 0, 1) := by decide +kernel
theorem dX8_first_14 : decode cX8_first 14 = .ok (.iaload, 1) := by decide +kernel
theorem dX8_first_15 : decode cX8_first 15 = .ok (.if_icmp .ge 57, 3) := by decide +kernel
theorem dX8_first_18 : decode cX8_first 18 = .ok (.aload_n 0, 1) := by decide +kernel
theorem dX8_first_19 : decode cX8_first 19 = .ok (.iload_n 3, 1) := by decide +kernel
theorem dX8_first_20 : decode cX8_first 20 = .ok (.invokevirtual 157, 3) := by decide +kernel
theorem dX8_first_23 : decode cX8_first 23 = .ok (.istore 4, 2) := by decide +kernel
theorem dX8_first_25 : decode cX8_first 25 = .ok (.iload 4, 2) := by decide +kernel
theorem dX8_first_27 : decode cX8_first 27 = .ok (.ifCond .lt 13, 3) := by decide +kernel
theorem dX8_first_30 : decode cX8_first 30 = .ok (.iload 4, 2) := by decide +kernel
theorem dX8_first_32 : decode cX8_first 32 = .ok (.iload_n 2, 1) := by decide +kernel
theorem dX8_first_33 : decode cX8_first 33 = .ok (.if_icmp .ge 7, 3) := by decide +kernel
theorem dX8_first_36 : decode cX8_first 36 = .ok (.iconst 1, 1) := by decide +kernel
theorem dX8_first_37 : decode cX8_first 37 = .ok (.goto 4, 3) := by decide +kernel
theorem dX8_first_40 : decode cX8_first 40 = .ok (.iconst 0, 1) := by decide +kernel
theorem dX8_first_41 : decode cX8_first 41 = .ok (.istore 5, 2) := by decide +kernel
theorem dX8_first_43 : decode cX8_first 43 = .ok (.iload 5, 2) := by decide +kernel
theorem dX8_first_45 : decode cX8_first 45 = .ok (.ifCond .eq 7, 3) := by decide +kernel
theorem dX8_first_48 : decode cX8_first 48 = .ok (.iload_n 3, 1) := by decide +kernel
theorem dX8_first_49 : decode cX8_first 49 = .ok (.goto 4, 3) := by decide +kernel
theorem dX8_first_52 : decode cX8_first 52 = .ok (.iload_n 1, 1) := by decide +kernel
theorem dX8_first_53 : decode cX8_first 53 = .ok (.istore_n 1, 1) := by decide +kernel
theorem dX8_first_54 : decode cX8_first 54 = .ok (.iload 5, 2) := by decide +kernel
theorem dX8_first_56 : decode cX8_first 56 = .ok (.ifCond .eq 8, 3) := by decide +kernel
theorem dX8_first_59 : decode cX8_first 59 = .ok (.iload 4, 2) := by decide +kernel
theorem dX8_first_61 : decode cX8_first 61 = .ok (.goto 4, 3) := by decide +kernel
theorem dX8_first_64 : decode cX8_first 64 = .ok (.iload_n 2, 1) := by decide +kernel
theorem dX8_first_65 : decode cX8_first 65 = .ok (.istore_n 2, 1) := by decide +kernel
theorem dX8_first_66 : decode cX8_first 66 = .ok (.iinc 3 1, 3) := by decide +kernel
theorem dX8_first_69 : decode cX8_first 69 = .ok (.goto (-61), 3) := by decide +kernel
theorem dX8_first_72 : decode cX8_first 72 = .ok (.aload_n 0, 1) := by decide +kernel
theorem dX8_first_73 : decode cX8_first 73 = .ok (.iload_n 1, 1) := by decide +kernel
theorem dX8_first_74 : decode cX8_first 74 = .ok (.invokevirtual 160, 3) := by decide +kernel
theorem dX8_first_77 : decode cX8_first 77 = .ok (.ireturn, 1) := by decide +kernel
theorem dX8_begins_0 : decode cX8_begins 0 = .ok (.aload_n 0, 1) := by decide +kernel
theorem dX8_begins_1 : decode cX8_begins 1 = .ok (.iconst (-1), 1) := by decide +kernel
theorem dX8_begins_2 : decode cX8_begins 2 = .ok (.putfield 163, 3) := by decide +kernel
theorem dX8_begins_5 : decode cX8_begins 5 = .ok (.aload_n 0, 1) := by decide +kernel
theorem dX8_begins_6 : decode cX8_begins 6 = .ok (.ldc 166, 2) := by decide +kernel
theorem dX8_begins_8 : decode cX8_begins 8 = .ok (.putfield 167, 3) := by decide +kernel
theorem dX8_begins_11 : decode cX8_begins 11 = .ok (.return_, 1) := by decide +kernel
theorem dX8_looksAt_0 : decode cX8_looksAt 0 = .ok (.aload_n 0, 1) := by decide +kernel
theorem dX8_looksAt_1 : decode cX8_looksAt 1 = .ok (.iload_n 1, 1) := by decide +kernel
theorem dX8_looksAt_2 : decode cX8_looksAt 2 = .ok (.invokevirtual 157, 3) := by decide +kernel
theorem dX8_looksAt_5 : decode cX8_looksAt 5 = .ok (.ifCond .lt 27, 3) := by decide +kernel
theorem dX8_looksAt_8 : decode cX8_looksAt 8 = .ok (.aload_n 0, 1) := by decide +kernel
theorem dX8_looksAt_9 : decode cX8_looksAt 9 = .ok (.getfield 147, 3) := by decide +kernel
theorem dX8_looksAt_12 : decode cX8_looksAt 12 = .ok (.aload_n 0, 1) := by decide +kernel
theorem dX8_looksAt_13 : decode cX8_looksAt 13 = .ok (.getfield 167, 3) := by decide +kernel
theorem dX8_looksAt_16 : decode cX8_looksAt 16 = .ok (.if_icmp .ge 16, 3) := by decide +kernel
theorem dX8_looksAt_19 : decode cX8_looksAt 19 = .ok (.aload_n 0, 1) := by decide +kernel
theorem dX8_looksAt_20 : decode cX8_looksAt 20 = .ok (.iload_n 2, 1) := by decide +kernel
theorem dX8_looksAt_21 : decode cX8_looksAt 21 = .ok (.putfield 163, 3) := by decide +kernel
theorem dX8_looksAt_24 : decode cX8_looksAt 24 = .ok (.aload_n 0, 1) := by decide +kernel
theorem dX8_looksAt_25 : decode cX8_looksAt 25 = .ok (.aload_n 0, 1) := by decide +kernel
theorem dX8_looksAt_26 : decode cX8_looksAt 26 = .ok (.getfield 147, 3) := by decide +kernel
theorem dX8_looksAt_29 : decode cX8_looksAt 29 = .ok (.putfield 167, 3) := by decide +kernel
theorem dX8_looksAt_32 : decode cX8_looksAt 32 = .ok (.return_, 1) := by decide +kernel
theorem dX8_bestOf_0 : decode cX8_bestOf 0 = .ok (.aload_n 0, 1) := by decide +kernel
theorem dX8_bestOf_1 : decode cX8_bestOf 1 = .ok (.invokevirtual 170, 3) := by decide +kernel
theorem dX8_bestOf_4 : decode cX8_bestOf 4 = .ok (.aload_n 0, 1) := by decide +kernel
theorem dX8_bestOf_5 : decode cX8_bestOf 5 = .ok (.iload_n 1, 1) := by decide +kernel
theorem dX8_bestOf_6 : decode cX8_bestOf 6 = .ok (.iload_n 2, 1) := by decide +kernel
theorem dX8_bestOf_7 : decode cX8_bestOf 7 = .ok (.invokevirtual 59, 3) := by decide +kernel
theorem dX8_bestOf_10 : decode cX8_bestOf 10 = .ok (.istore 4, 2) := by decide +kernel
theorem dX8_bestOf_12 : decode cX8_bestOf 12 = .ok (.iconst 0, 1) := by decide +kernel
theorem dX8_bestOf_13 : decode cX8_bestOf 13 = .ok (.istore 5, 2) := by decide +kernel
theorem dX8_bestOf_15 : decode cX8_bestOf 15 = .ok (.iload 5, 2) := by decide +kernel
theorem dX8_bestOf_17 : decode cX8_bestOf 17 = .ok (.iload_n 3, 1) := by decide +kernel
theorem dX8_bestOf_18 : decode cX8_bestOf 18 = .ok (.if_icmp .gt 28, 3) := by decide +kernel
theorem dX8_bestOf_21 : decode cX8_bestOf 21 = .ok (.aload_n 0, 1) := by decide +kernel
theorem dX8_bestOf_22 : decode cX8_bestOf 22 = .ok (.getfield 7, 3) := by decide +kernel
theorem dX8_bestOf_25 : decode cX8_bestOf 25 = .ok (.iload_n 1, 1) := by decide +kernel
theorem dX8_bestOf_26 : decode cX8_bestOf 26 = .ok (.iload_n 2, 1) := by decide +kernel
theorem dX8_bestOf_27 : decode cX8_bestOf 27 = .ok (.invokestatic 70, 3) := by decide +kernel
theorem dX8_bestOf_30 : decode cX8_bestOf 30 = .ok (.iload 5, 2) := by decide +kernel
theorem dX8_bestOf_32 : decode cX8_bestOf 32 = .ok (.iastore, 1) := by decide +kernel
theorem dX8_bestOf_33 : decode cX8_bestOf 33 = .ok (.aload_n 0, 1) := by decide +kernel
theorem dX8_bestOf_34 : decode cX8_bestOf 34 = .ok (.iload_n 1, 1) := by decide +kernel
theorem dX8_bestOf_35 : decode cX8_bestOf 35 = .ok (.iload 5, 2) := by decide +kernel
theorem dX8_bestOf_37 : decode cX8_bestOf 37 = .ok (.invokevirtual 173, 3) := by decide +kernel
theorem dX8_bestOf_40 : decode cX8_bestOf 40 = .ok (.iinc 5 1, 3) := by decide +kernel
theorem dX8_bestOf_43 : decode cX8_bestOf 43 = .ok (.goto (-28), 3) := by decide +kernel
theorem dX8_bestOf_46 : decode cX8_bestOf 46 = .ok (.aload_n 0, 1) := by decide +kernel
theorem dX8_bestOf_47 : decode cX8_bestOf 47 = .ok (.getfield 7, 3) := by decide +kernel
theorem dX8_bestOf_50 : decode cX8_bestOf 50 = .ok (.iload_n 1, 1) := by decide +kernel
theorem dX8_bestOf_51 : decode cX8_bestOf 51 = .ok (.iload_n 2, 1) := by decide +kernel
theorem dX8_bestOf_52 : decode cX8_bestOf 52 = .ok (.invokestatic 70, 3) := by decide +kernel
theorem dX8_bestOf_55 : decode cX8_bestOf 55 = .ok (.iload 4, 2) := by decide +kernel
theorem dX8_bestOf_57 : decode cX8_bestOf 57 = .ok (.iastore, 1) := by decide +kernel
theorem dX8_bestOf_58 : decode cX8_bestOf 58 = .ok (.aload_n 0, 1) := by decide +kernel
theorem dX8_bestOf_59 : decode cX8_bestOf 59 = .ok (.aload_n 0, 1) := by decide +kernel
theorem dX8_bestOf_60 : decode cX8_bestOf 60 = .ok (.getfield 163, 3) := by decide +kernel
theorem dX8_bestOf_63 : decode cX8_bestOf 63 = .ok (.invokevirtual 160, 3) := by decide +kernel
theorem dX8_bestOf_66 : decode cX8_bestOf 66 = .ok (.ireturn, 1) := by decide +kernel
theorem dX8_habitFor_0 : decode cX8_habitFor 0 = .ok (.aload_n 0, 1) := by decide +kernel
theorem dX8_habitFor_1 : decode cX8_habitFor 1 = .ok (.iload_n 1, 1) := by decide +kernel
theorem dX8_habitFor_2 : decode cX8_habitFor 2 = .ok (.invokevirtual 89, 3) := by decide +kernel
theorem dX8_habitFor_5 : decode cX8_habitFor 5 = .ok (.ifCond .eq 13, 3) := by decide +kernel
theorem dX8_habitFor_8 : decode cX8_habitFor 8 = .ok (.aload_n 0, 1) := by decide +kernel
theorem dX8_habitFor_9 : decode cX8_habitFor 9 = .ok (.iload_n 1, 1) := by decide +kernel
theorem dX8_habitFor_10 : decode cX8_habitFor 10 = .ok (.iconst 3, 1) := by decide +kernel
theorem dX8_habitFor_11 : decode cX8_habitFor 11 = .ok (.iconst 3, 1) := by decide +kernel
theorem dX8_habitFor_12 : decode cX8_habitFor 12 = .ok (.invokevirtual 177, 3) := by decide +kernel
theorem dX8_habitFor_15 : decode cX8_habitFor 15 = .ok (.goto 9, 3) := by decide +kernel
theorem dX8_habitFor_18 : decode cX8_habitFor 18 = .ok (.aload_n 0, 1) := by decide +kernel
theorem dX8_habitFor_19 : decode cX8_habitFor 19 = .ok (.ldc 37, 2) := by decide +kernel
theorem dX8_habitFor_21 : decode cX8_habitFor 21 = .ok (.invokevirtual 39, 3) := by decide +kernel
theorem dX8_habitFor_24 : decode cX8_habitFor 24 = .ok (.ireturn, 1) := by decide +kernel
theorem dX8_heldFor_0 : decode cX8_heldFor 0 = .ok (.aload_n 0, 1) := by decide +kernel
theorem dX8_heldFor_1 : decode cX8_heldFor 1 = .ok (.iload_n 1, 1) := by decide +kernel
theorem dX8_heldFor_2 : decode cX8_heldFor 2 = .ok (.invokevirtual 89, 3) := by decide +kernel
theorem dX8_heldFor_5 : decode cX8_heldFor 5 = .ok (.ifCond .eq 13, 3) := by decide +kernel
theorem dX8_heldFor_8 : decode cX8_heldFor 8 = .ok (.aload_n 0, 1) := by decide +kernel
theorem dX8_heldFor_9 : decode cX8_heldFor 9 = .ok (.iload_n 1, 1) := by decide +kernel
theorem dX8_heldFor_10 : decode cX8_heldFor 10 = .ok (.iconst 2, 1) := by decide +kernel
theorem dX8_heldFor_11 : decode cX8_heldFor 11 = .ok (.iconst 3, 1) := by decide +kernel
theorem dX8_heldFor_12 : decode cX8_heldFor 12 = .ok (.invokevirtual 177, 3) := by decide +kernel
theorem dX8_heldFor_15 : decode cX8_heldFor 15 = .ok (.goto 9, 3) := by decide +kernel
theorem dX8_heldFor_18 : decode cX8_heldFor 18 = .ok (.aload_n 0, 1) := by decide +kernel
theorem dX8_heldFor_19 : decode cX8_heldFor 19 = .ok (.ldc 37, 2) := by decide +kernel
theorem dX8_heldFor_21 : decode cX8_heldFor 21 = .ok (.invokevirtual 39, 3) := by decide +kernel
theorem dX8_heldFor_24 : decode cX8_heldFor 24 = .ok (.ireturn, 1) := by decide +kernel
theorem dX8_kindFor_0 : decode cX8_kindFor 0 = .ok (.aload_n 0, 1) := by decide +kernel
theorem dX8_kindFor_1 : decode cX8_kindFor 1 = .ok (.iload_n 1, 1) := by decide +kernel
theorem dX8_kindFor_2 : decode cX8_kindFor 2 = .ok (.invokevirtual 89, 3) := by decide +kernel
theorem dX8_kindFor_5 : decode cX8_kindFor 5 = .ok (.ifCond .eq 14, 3) := by decide +kernel
theorem dX8_kindFor_8 : decode cX8_kindFor 8 = .ok (.aload_n 0, 1) := by decide +kernel
theorem dX8_kindFor_9 : decode cX8_kindFor 9 = .ok (.iload_n 1, 1) := by decide +kernel
theorem dX8_kindFor_10 : decode cX8_kindFor 10 = .ok (.iconst 0, 1) := by decide +kernel
theorem dX8_kindFor_11 : decode cX8_kindFor 11 = .ok (.bipush 6, 2) := by decide +kernel
theorem dX8_kindFor_13 : decode cX8_kindFor 13 = .ok (.invokevirtual 177, 3) := by decide +kernel
theorem dX8_kindFor_16 : decode cX8_kindFor 16 = .ok (.goto 9, 3) := by decide +kernel
theorem dX8_kindFor_19 : decode cX8_kindFor 19 = .ok (.aload_n 0, 1) := by decide +kernel
theorem dX8_kindFor_20 : decode cX8_kindFor 20 = .ok (.ldc 37, 2) := by decide +kernel
theorem dX8_kindFor_22 : decode cX8_kindFor 22 = .ok (.invokevirtual 39, 3) := by decide +kernel
theorem dX8_kindFor_25 : decode cX8_kindFor 25 = .ok (.ireturn, 1) := by decide +kernel
theorem dX8_roofFor_0 : decode cX8_roofFor 0 = .ok (.aload_n 0, 1) := by decide +kernel
theorem dX8_roofFor_1 : decode cX8_roofFor 1 = .ok (.iload_n 1, 1) := by decide +kernel
theorem dX8_roofFor_2 : decode cX8_roofFor 2 = .ok (.invokevirtual 89, 3) := by decide +kernel
theorem dX8_roofFor_5 : decode cX8_roofFor 5 = .ok (.ifCond .ne 10, 3) := by decide +kernel
theorem dX8_roofFor_8 : decode cX8_roofFor 8 = .ok (.aload_n 0, 1) := by decide +kernel
theorem dX8_roofFor_9 : decode cX8_roofFor 9 = .ok (.ldc 37, 2) := by decide +kernel
theorem dX8_roofFor_11 : decode cX8_roofFor 11 = .ok (.invokevirtual 39, 3) := by decide +kernel
theorem dX8_roofFor_14 : decode cX8_roofFor 14 = .ok (.ireturn, 1) := by decide +kernel
theorem dX8_roofFor_15 : decode cX8_roofFor 15 = .ok (.aload_n 0, 1) := by decide +kernel
theorem dX8_roofFor_16 : decode cX8_roofFor 16 = .ok (.invokevirtual 170, 3) := by decide +kernel
theorem dX8_roofFor_19 : decode cX8_roofFor 19 = .ok (.iconst 0, 1) := by decide +kernel
theorem dX8_roofFor_20 : decode cX8_roofFor 20 = .ok (.istore_n 2, 1) := by decide +kernel
theorem dX8_roofFor_21 : decode cX8_roofFor 21 = .ok (.iload_n 2, 1) := by decide +kernel
theorem dX8_roofFor_22 : decode cX8_roofFor 22 = .ok (.bipush 16, 2) := by decide +kernel
theorem dX8_roofFor_24 : decode cX8_roofFor 24 = .ok (.if_icmp .ge 47, 3) := by decide +kernel
theorem dX8_roofFor_27 : decode cX8_roofFor 27 = .ok (.aload_n 0, 1) := by decide +kernel
theorem dX8_roofFor_28 : decode cX8_roofFor 28 = .ok (.getfield 7, 3) := by decide +kernel
theorem dX8_roofFor_31 : decode cX8_roofFor 31 = .ok (.bipush 37, 2) := by decide +kernel
theorem dX8_roofFor_33 : decode cX8_roofFor 33 = .ok (.iload_n 2, 1) := by decide +kernel
theorem dX8_roofFor_34 : decode cX8_roofFor 34 = .ok (.iadd, 1) := by decide +kernel
theorem dX8_roofFor_35 : decode cX8_roofFor 35 = .ok (.iaload, 1) := by decide +kernel
theorem dX8_roofFor_36 : decode cX8_roofFor 36 = .ok (.ifCond .ne 29, 3) := by decide +kernel
theorem dX8_roofFor_39 : decode cX8_roofFor 39 = .ok (.aload_n 0, 1) := by decide +kernel
theorem dX8_roofFor_40 : decode cX8_roofFor 40 = .ok (.getfield 7, 3) := by decide +kernel
theorem dX8_roofFor_43 : decode cX8_roofFor 43 = .ok (.bipush 37, 2) := by decide +kernel
theorem dX8_roofFor_45 : decode cX8_roofFor 45 = .ok (.iload_n 2, 1) := by decide +kernel
theorem dX8_roofFor_46 : decode cX8_roofFor 46 = .ok (.iadd, 1) := by decide +kernel
theorem dX8_roofFor_47 : decode cX8_roofFor 47 = .ok (.iconst 1, 1) := by decide +kernel
theorem dX8_roofFor_48 : decode cX8_roofFor 48 = .ok (.iastore, 1) := by decide +kernel
theorem dX8_roofFor_49 : decode cX8_roofFor 49 = .ok (.aload_n 0, 1) := by decide +kernel
theorem dX8_roofFor_50 : decode cX8_roofFor 50 = .ok (.iload_n 1, 1) := by decide +kernel
theorem dX8_roofFor_51 : decode cX8_roofFor 51 = .ok (.iload_n 2, 1) := by decide +kernel
theorem dX8_roofFor_52 : decode cX8_roofFor 52 = .ok (.invokevirtual 173, 3) := by decide +kernel
theorem dX8_roofFor_55 : decode cX8_roofFor 55 = .ok (.aload_n 0, 1) := by decide +kernel
theorem dX8_roofFor_56 : decode cX8_roofFor 56 = .ok (.getfield 7, 3) := by decide +kernel
theorem dX8_roofFor_59 : decode cX8_roofFor 59 = .ok (.bipush 37, 2) := by decide +kernel
theorem dX8_roofFor_61 : decode cX8_roofFor 61 = .ok (.iload_n 2, 1) := by decide +kernel
theorem dX8_roofFor_62 : decode cX8_roofFor 62 = .ok (.iadd, 1) := by decide +kernel
theorem dX8_roofFor_63 : decode cX8_roofFor 63 = .ok (.iconst 0, 1) := by decide +kernel
theorem dX8_roofFor_64 : decode cX8_roofFor 64 = .ok (.iastore, 1) := by decide +kernel
theorem dX8_roofFor_65 : decode cX8_roofFor 65 = .ok (.iinc 2 1, 3) := by decide +kernel
theorem dX8_roofFor_68 : decode cX8_roofFor 68 = .ok (.goto (-47), 3) := by decide +kernel
theorem dX8_roofFor_71 : decode cX8_roofFor 71 = .ok (.aload_n 0, 1) := by decide +kernel
theorem dX8_roofFor_72 : decode cX8_roofFor 72 = .ok (.aload_n 0, 1) := by decide +kernel
theorem dX8_roofFor_73 : decode cX8_roofFor 73 = .ok (.getfield 163, 3) := by decide +kernel
theorem dX8_roofFor_76 : decode cX8_roofFor 76 = .ok (.invokevirtual 160, 3) := by decide +kernel
theorem dX8_roofFor_79 : decode cX8_roofFor 79 = .ok (.ireturn, 1) := by decide +kernel
theorem dX8_waitFor_0 : decode cX8_waitFor 0 = .ok (.aload_n 0, 1) := by decide +kernel
theorem dX8_waitFor_1 : decode cX8_waitFor 1 = .ok (.iload_n 1, 1) := by decide +kernel
theorem dX8_waitFor_2 : decode cX8_waitFor 2 = .ok (.invokevirtual 89, 3) := by decide +kernel
theorem dX8_waitFor_5 : decode cX8_waitFor 5 = .ok (.ifCond .ne 10, 3) := by decide +kernel
theorem dX8_waitFor_8 : decode cX8_waitFor 8 = .ok (.aload_n 0, 1) := by decide +kernel
theorem dX8_waitFor_9 : decode cX8_waitFor 9 = .ok (.ldc 37, 2) := by decide +kernel
theorem dX8_waitFor_11 : decode cX8_waitFor 11 = .ok (.invokevirtual 39, 3) := by decide +kernel
theorem dX8_waitFor_14 : decode cX8_waitFor 14 = .ok (.ireturn, 1) := by decide +kernel
theorem dX8_waitFor_15 : decode cX8_waitFor 15 = .ok (.aload_n 0, 1) := by decide +kernel
theorem dX8_waitFor_16 : decode cX8_waitFor 16 = .ok (.invokevirtual 170, 3) := by decide +kernel
theorem dX8_waitFor_19 : decode cX8_waitFor 19 = .ok (.aload_n 0, 1) := by decide +kernel
theorem dX8_waitFor_20 : decode cX8_waitFor 20 = .ok (.getfield 7, 3) := by decide +kernel
theorem dX8_waitFor_23 : decode cX8_waitFor 23 = .ok (.iconst 1, 1) := by decide +kernel
theorem dX8_waitFor_24 : decode cX8_waitFor 24 = .ok (.iaload, 1) := by decide +kernel
theorem dX8_waitFor_25 : decode cX8_waitFor 25 = .ok (.istore_n 2, 1) := by decide +kernel
theorem dX8_waitFor_26 : decode cX8_waitFor 26 = .ok (.iconst 0, 1) := by decide +kernel
theorem dX8_waitFor_27 : decode cX8_waitFor 27 = .ok (.istore_n 3, 1) := by decide +kernel
theorem dX8_waitFor_28 : decode cX8_waitFor 28 = .ok (.iload_n 3, 1) := by decide +kernel
theorem dX8_waitFor_29 : decode cX8_waitFor 29 = .ok (.bipush 12, 2) := by decide +kernel
theorem dX8_waitFor_31 : decode cX8_waitFor 31 = .ok (.if_icmp .ge 24, 3) := by decide +kernel
theorem dX8_waitFor_34 : decode cX8_waitFor 34 = .ok (.aload_n 0, 1) := by decide +kernel
theorem dX8_waitFor_35 : decode cX8_waitFor 35 = .ok (.getfield 7, 3) := by decide +kernel
theorem dX8_waitFor_38 : decode cX8_waitFor 38 = .ok (.iconst 1, 1) := by decide +kernel
theorem dX8_waitFor_39 : decode cX8_waitFor 39 = .ok (.iload_n 2, 1) := by decide +kernel
theorem dX8_waitFor_40 : decode cX8_waitFor 40 = .ok (.iload_n 3, 1) := by decide +kernel
theorem dX8_waitFor_41 : decode cX8_waitFor 41 = .ok (.iadd, 1) := by decide +kernel
theorem dX8_waitFor_42 : decode cX8_waitFor 42 = .ok (.iastore, 1) := by decide +kernel
theorem dX8_waitFor_43 : decode cX8_waitFor 43 = .ok (.aload_n 0, 1) := by decide +kernel
theorem dX8_waitFor_44 : decode cX8_waitFor 44 = .ok (.iload_n 1, 1) := by decide +kernel
theorem dX8_waitFor_45 : decode cX8_waitFor 45 = .ok (.iload_n 3, 1) := by decide +kernel
theorem dX8_waitFor_46 : decode cX8_waitFor 46 = .ok (.invokevirtual 173, 3) := by decide +kernel
theorem dX8_waitFor_49 : decode cX8_waitFor 49 = .ok (.iinc 3 1, 3) := by decide +kernel
theorem dX8_waitFor_52 : decode cX8_waitFor 52 = .ok (.goto (-24), 3) := by decide +kernel
theorem dX8_waitFor_55 : decode cX8_waitFor 55 = .ok (.aload_n 0, 1) := by decide +kernel
theorem dX8_waitFor_56 : decode cX8_waitFor 56 = .ok (.getfield 7, 3) := by decide +kernel
theorem dX8_waitFor_59 : decode cX8_waitFor 59 = .ok (.iconst 1, 1) := by decide +kernel
theorem dX8_waitFor_60 : decode cX8_waitFor 60 = .ok (.iload_n 2, 1) := by decide +kernel
theorem dX8_waitFor_61 : decode cX8_waitFor 61 = .ok (.iastore, 1) := by decide +kernel
theorem dX8_waitFor_62 : decode cX8_waitFor 62 = .ok (.aload_n 0, 1) := by decide +kernel
theorem dX8_waitFor_63 : decode cX8_waitFor 63 = .ok (.aload_n 0, 1) := by decide +kernel
theorem dX8_waitFor_64 : decode cX8_waitFor 64 = .ok (.getfield 163, 3) := by decide +kernel
theorem dX8_waitFor_67 : decode cX8_waitFor 67 = .ok (.invokevirtual 160, 3) := by decide +kernel
theorem dX8_waitFor_70 : decode cX8_waitFor 70 = .ok (.ireturn, 1) := by decide +kernel
theorem dX8_isWhole_0 : decode cX8_isWhole 0 = .ok (.aload_n 0, 1) := by decide +kernel
theorem dX8_isWhole_1 : decode cX8_isWhole 1 = .ok (.iload_n 1, 1) := by decide +kernel
theorem dX8_isWhole_2 : decode cX8_isWhole 2 = .ok (.invokevirtual 157, 3) := by decide +kernel
theorem dX8_isWhole_5 : decode cX8_isWhole 5 = .ok (.ifCond .lt 21, 3) := by decide +kernel
theorem dX8_isWhole_8 : decode cX8_isWhole 8 = .ok (.aload_n 0, 1) := by decide +kernel
theorem dX8_isWhole_9 : decode cX8_isWhole 9 = .ok (.getfield 151, 3) := by decide +kernel
theorem dX8_isWhole_12 : decode cX8_isWhole 12 = .ok (.aload_n 0, 1) := by decide +kernel
theorem dX8_isWhole_13 : decode cX8_isWhole 13 = .ok (.iload_n 1, 1) := by decide +kernel
theorem dX8_isWhole_14 : decode cX8_isWhole 14 = .ok (.bipush 6, 2) := by decide +kernel
theorem dX8_isWhole_16 : decode cX8_isWhole 16 = .ok (.invokevirtual 59, 3) := by decide +kernel
theorem dX8_isWhole_19 : decode cX8_isWhole 19 = .ok (.if_icmp .ne 7, 3) := by decide +kernel
theorem dX8_isWhole_22 : decode cX8_isWhole 22 = .ok (.iconst 1, 1) := by decide +kernel
theorem dX8_isWhole_23 : decode cX8_isWhole 23 = .ok (.goto 4, 3) := by decide +kernel
theorem dX8_isWhole_26 : decode cX8_isWhole 26 = .ok (.iconst 0, 1) := by decide +kernel
theorem dX8_isWhole_27 : decode cX8_isWhole 27 = .ok (.ireturn, 1) := by decide +kernel
theorem dX8_gustFor_0 : decode cX8_gustFor 0 = .ok (.aload_n 0, 1) := by decide +kernel
theorem dX8_gustFor_1 : decode cX8_gustFor 1 = .ok (.iload_n 1, 1) := by decide +kernel
theorem dX8_gustFor_2 : decode cX8_gustFor 2 = .ok (.invokevirtual 89, 3) := by decide +kernel
theorem dX8_gustFor_5 : decode cX8_gustFor 5 = .ok (.ifCond .ne 10, 3) := by decide +kernel
theorem dX8_gustFor_8 : decode cX8_gustFor 8 = .ok (.aload_n 0, 1) := by decide +kernel
theorem dX8_gustFor_9 : decode cX8_gustFor 9 = .ok (.ldc 37, 2) := by decide +kernel
theorem dX8_gustFor_11 : decode cX8_gustFor 11 = .ok (.invokevirtual 39, 3) := by decide +kernel
theorem dX8_gustFor_14 : decode cX8_gustFor 14 = .ok (.ireturn, 1) := by decide +kernel
theorem dX8_gustFor_15 : decode cX8_gustFor 15 = .ok (.aload_n 0, 1) := by decide +kernel
theorem dX8_gustFor_16 : decode cX8_gustFor 16 = .ok (.getfield 7, 3) := by decide +kernel
theorem dX8_gustFor_19 : decode cX8_gustFor 19 = .ok (.iconst 4, 1) := by decide +kernel
theorem dX8_gustFor_20 : decode cX8_gustFor 20 = .ok (.iaload, 1) := by decide +kernel
theorem dX8_gustFor_21 : decode cX8_gustFor 21 = .ok (.istore_n 2, 1) := by decide +kernel
theorem dX8_gustFor_22 : decode cX8_gustFor 22 = .ok (.aload_n 0, 1) := by decide +kernel
theorem dX8_gustFor_23 : decode cX8_gustFor 23 = .ok (.getfield 7, 3) := by decide +kernel
theorem dX8_gustFor_26 : decode cX8_gustFor 26 = .ok (.iconst 4, 1) := by decide +kernel
theorem dX8_gustFor_27 : decode cX8_gustFor 27 = .ok (.bipush 99, 2) := by decide +kernel
theorem dX8_gustFor_29 : decode cX8_gustFor 29 = .ok (.iastore, 1) := by decide +kernel
theorem dX8_gustFor_30 : decode cX8_gustFor 30 = .ok (.aload_n 0, 1) := by decide +kernel
theorem dX8_gustFor_31 : decode cX8_gustFor 31 = .ok (.getfield 7, 3) := by decide +kernel
theorem dX8_gustFor_34 : decode cX8_gustFor 34 = .ok (.iconst 4, 1) := by decide +kernel
theorem dX8_gustFor_35 : decode cX8_gustFor 35 = .ok (.iaload, 1) := by decide +kernel
theorem dX8_gustFor_36 : decode cX8_gustFor 36 = .ok (.ifCond .lt 24, 3) := by decide +kernel
theorem dX8_gustFor_39 : decode cX8_gustFor 39 = .ok (.aload_n 0, 1) := by decide +kernel
theorem dX8_gustFor_40 : decode cX8_gustFor 40 = .ok (.iload_n 1, 1) := by decide +kernel
theorem dX8_gustFor_41 : decode cX8_gustFor 41 = .ok (.invokevirtual 180, 3) := by decide +kernel
theorem dX8_gustFor_44 : decode cX8_gustFor 44 = .ok (.ifCond .ne 16, 3) := by decide +kernel
theorem dX8_gustFor_47 : decode cX8_gustFor 47 = .ok (.aload_n 0, 1) := by decide +kernel
theorem dX8_gustFor_48 : decode cX8_gustFor 48 = .ok (.getfield 7, 3) := by decide +kernel
theorem dX8_gustFor_51 : decode cX8_gustFor 51 = .ok (.iconst 4, 1) := by decide +kernel
theorem dX8_gustFor_52 : decode cX8_gustFor 52 = .ok (.dup2, 1) := by decide +kernel
theorem dX8_gustFor_53 : decode cX8_gustFor 53 = .ok (.iaload, 1) := by decide +kernel
theorem dX8_gustFor_54 : decode cX8_gustFor 54 = .ok (.iconst 1, 1) := by decide +kernel
theorem dX8_gustFor_55 : decode cX8_gustFor 55 = .ok (.isub, 1) := by decide +kernel
theorem dX8_gustFor_56 : decode cX8_gustFor 56 = .ok (.iastore, 1) := by decide +kernel
theorem dX8_gustFor_57 : decode cX8_gustFor 57 = .ok (.goto (-27), 3) := by decide +kernel
theorem dX8_gustFor_60 : decode cX8_gustFor 60 = .ok (.aload_n 0, 1) := by decide +kernel
theorem dX8_gustFor_61 : decode cX8_gustFor 61 = .ok (.getfield 7, 3) := by decide +kernel
theorem dX8_gustFor_64 : decode cX8_gustFor 64 = .ok (.iconst 4, 1) := by decide +kernel
theorem dX8_gustFor_65 : decode cX8_gustFor 65 = .ok (.iaload, 1) := by decide +kernel
theorem dX8_gustFor_66 : decode cX8_gustFor 66 = .ok (.istore_n 3, 1) := by decide +kernel
theorem dX8_gustFor_67 : decode cX8_gustFor 67 = .ok (.aload_n 0, 1) := by decide +kernel
theorem dX8_gustFor_68 : decode cX8_gustFor 68 = .ok (.getfield 7, 3) := by decide +kernel
theorem dX8_gustFor_71 : decode cX8_gustFor 71 = .ok (.iconst 4, 1) := by decide +kernel
theorem dX8_gustFor_72 : decode cX8_gustFor 72 = .ok (.iload_n 2, 1) := by decide +kernel
theorem dX8_gustFor_73 : decode cX8_gustFor 73 = .ok (.iastore, 1) := by decide +kernel
theorem dX8_gustFor_74 : decode cX8_gustFor 74 = .ok (.aload_n 0, 1) := by decide +kernel
theorem dX8_gustFor_75 : decode cX8_gustFor 75 = .ok (.iload_n 3, 1) := by decide +kernel
theorem dX8_gustFor_76 : decode cX8_gustFor 76 = .ok (.invokevirtual 160, 3) := by decide +kernel
theorem dX8_gustFor_79 : decode cX8_gustFor 79 = .ok (.ireturn, 1) := by decide +kernel
theorem dX8_ribsFor_0 : decode cX8_ribsFor 0 = .ok (.aload_n 0, 1) := by decide +kernel
theorem dX8_ribsFor_1 : decode cX8_ribsFor 1 = .ok (.iload_n 1, 1) := by decide +kernel
theorem dX8_ribsFor_2 : decode cX8_ribsFor 2 = .ok (.invokevirtual 89, 3) := by decide +kernel
theorem dX8_ribsFor_5 : decode cX8_ribsFor 5 = .ok (.ifCond .ne 10, 3) := by decide +kernel
theorem dX8_ribsFor_8 : decode cX8_ribsFor 8 = .ok (.aload_n 0, 1) := by decide +kernel
theorem dX8_ribsFor_9 : decode cX8_ribsFor 9 = .ok (.ldc 37, 2) := by decide +kernel
theorem dX8_ribsFor_11 : decode cX8_ribsFor 11 = .ok (.invokevirtual 39, 3) := by decide +kernel
theorem dX8_ribsFor_14 : decode cX8_ribsFor 14 = .ok (.ireturn, 1) := by decide +kernel
theorem dX8_ribsFor_15 : decode cX8_ribsFor 15 = .ok (.aload_n 0, 1) := by decide +kernel
theorem dX8_ribsFor_16 : decode cX8_ribsFor 16 = .ok (.iload_n 1, 1) := by decide +kernel
theorem dX8_ribsFor_17 : decode cX8_ribsFor 17 = .ok (.iconst 4, 1) := by decide +kernel
theorem dX8_ribsFor_18 : decode cX8_ribsFor 18 = .ok (.invokevirtual 59, 3) := by decide +kernel
theorem dX8_ribsFor_21 : decode cX8_ribsFor 21 = .ok (.istore_n 2, 1) := by decide +kernel
theorem dX8_ribsFor_22 : decode cX8_ribsFor 22 = .ok (.iconst (-1), 1) := by decide +kernel
theorem dX8_ribsFor_23 : decode cX8_ribsFor 23 = .ok (.istore_n 3, 1) := by decide +kernel
theorem dX8_ribsFor_24 : decode cX8_ribsFor 24 = .ok (.iconst 0, 1) := by decide +kernel
theorem dX8_ribsFor_25 : decode cX8_ribsFor 25 = .ok (.istore 4, 2) := by decide +kernel
theorem dX8_ribsFor_27 : decode cX8_ribsFor 27 = .ok (.iload 4, 2) := by decide +kernel
theorem dX8_ribsFor_29 : decode cX8_ribsFor 29 = .ok (.bipush 8, 2) := by decide +kernel
theorem dX8_ribsFor_31 : decode cX8_ribsFor 31 = .ok (.if_icmp .gt 40, 3) := by decide +kernel
theorem dX8_ribsFor_34 : decode cX8_ribsFor 34 = .ok (.iload_n 3, 1) := by decide +kernel
theorem dX8_ribsFor_35 : decode cX8_ribsFor 35 = .ok (.ifCond .ge 36, 3) := by decide +kernel
theorem dX8_ribsFor_38 : decode cX8_ribsFor 38 = .ok (.aload_n 0, 1) := by decide +kernel
theorem dX8_ribsFor_39 : decode cX8_ribsFor 39 = .ok (.getfield 7, 3) := by decide +kernel
theorem dX8_ribsFor_42 : decode cX8_ribsFor 42 = .ok (.iload_n 1, 1) := by decide +kernel
theorem dX8_ribsFor_43 : decode cX8_ribsFor 43 = .ok (.iconst 4, 1) := by decide +kernel
theorem dX8_ribsFor_44 : decode cX8_ribsFor 44 = .ok (.invokestatic 70, 3) := by decide +kernel
theorem dX8_ribsFor_47 : decode cX8_ribsFor 47 = .ok (.iload 4, 2) := by decide +kernel
theorem dX8_ribsFor_49 : decode cX8_ribsFor 49 = .ok (.iastore, 1) := by decide +kernel
theorem dX8_ribsFor_50 : decode cX8_ribsFor 50 = .ok (.aload_n 0, 1) := by decide +kernel
theorem dX8_ribsFor_51 : decode cX8_ribsFor 51 = .ok (.iload_n 1, 1) := by decide +kernel
theorem dX8_ribsFor_52 : decode cX8_ribsFor 52 = .ok (.invokevirtual 180, 3) := by decide +kernel
theorem dX8_ribsFor_55 : decode cX8_ribsFor 55 = .ok (.ifCond .eq 8, 3) := by decide +kernel
theorem dX8_ribsFor_58 : decode cX8_ribsFor 58 = .ok (.iload 4, 2) := by decide +kernel
theorem dX8_ribsFor_60 : decode cX8_ribsFor 60 = .ok (.goto 4, 3) := by decide +kernel
theorem dX8_ribsFor_63 : decode cX8_ribsFor 63 = .ok (.iconst (-1), 1) := by decide +kernel
theorem dX8_ribsFor_64 : decode cX8_ribsFor 64 = .ok (.istore_n 3, 1) := by decide +kernel
theorem dX8_ribsFor_65 : decode cX8_ribsFor 65 = .ok (.iinc 4 1, 3) := by decide +kernel
theorem dX8_ribsFor_68 : decode cX8_ribsFor 68 = .ok (.goto (-41), 3) := by decide +kernel
theorem dX8_ribsFor_71 : decode cX8_ribsFor 71 = .ok (.aload_n 0, 1) := by decide +kernel
theorem dX8_ribsFor_72 : decode cX8_ribsFor 72 = .ok (.getfield 7, 3) := by decide +kernel
theorem dX8_ribsFor_75 : decode cX8_ribsFor 75 = .ok (.iload_n 1, 1) := by decide +kernel
theorem dX8_ribsFor_76 : decode cX8_ribsFor 76 = .ok (.iconst 4, 1) := by decide +kernel
theorem dX8_ribsFor_77 : decode cX8_ribsFor 77 = .ok (.invokestatic 70, 3) := by decide +kernel
theorem dX8_ribsFor_80 : decode cX8_ribsFor 80 = .ok (.iload_n 2, 1) := by decide +kernel
theorem dX8_ribsFor_81 : decode cX8_ribsFor 81 = .ok (.iastore, 1) := by decide +kernel
theorem dX8_ribsFor_82 : decode cX8_ribsFor 82 = .ok (.aload_n 0, 1) := by decide +kernel
theorem dX8_ribsFor_83 : decode cX8_ribsFor 83 = .ok (.iload_n 3, 1) := by decide +kernel
theorem dX8_ribsFor_84 : decode cX8_ribsFor 84 = .ok (.invokevirtual 160, 3) := by decide +kernel
theorem dX8_ribsFor_87 : decode cX8_ribsFor 87 = .ok (.ireturn, 1) := by decide +kernel
theorem dX8_isTold_0 : decode cX8_isTold 0 = .ok (.aload_n 0, 1) := by decide +kernel
theorem dX8_isTold_1 : decode cX8_isTold 1 = .ok (.getfield 7, 3) := by decide +kernel
theorem dX8_isTold_4 : decode cX8_isTold 4 = .ok (.aload_n 0, 1) := by decide +kernel
theorem dX8_isTold_5 : decode cX8_isTold 5 = .ok (.getfield 19, 3) := by decide +kernel
theorem dX8_isTold_8 : decode cX8_isTold 8 = .ok (.invokestatic 140, 3) := by decide +kernel
theorem dX8_isTold_11 : decode cX8_isTold 11 = .ok (.iconst 1, 1) := by decide +kernel
theorem dX8_isTold_12 : decode cX8_isTold 12 = .ok (.istore_n 3, 1) := by decide +kernel
theorem dX8_isTold_13 : decode cX8_isTold 13 = .ok (.iconst 0, 1) := by decide +kernel
theorem dX8_isTold_14 : decode cX8_isTold 14 = .ok (.istore 4, 2) := by decide +kernel
theorem dX8_isTold_16 : decode cX8_isTold 16 = .ok (.iload 4, 2) := by decide +kernel
theorem dX8_isTold_18 : decode cX8_isTold 18 = .ok (.aload_n 0, 1) := by decide +kernel
theorem dX8_isTold_19 : decode cX8_isTold 19 = .ok (.getfield 31, 3) := by decide +kernel
theorem dX8_isTold_22 : decode cX8_isTold 22 = .ok (.iload_n 1, 1) := by decide +kernel
theorem dX8_isTold_23 : decode cX8_isTold 23 = .ok (.iaload, 1) := by decide +kernel
theorem dX8_isTold_24 : decode cX8_isTold 24 = .ok (.if_icmp .ge 55, 3) := by decide +kernel
theorem dX8_isTold_27 : decode cX8_isTold 27 = .ok (.iload_n 3, 1) := by decide +kernel
theorem dX8_isTold_28 : decode cX8_isTold 28 = .ok (.ifCond .eq 51, 3) := by decide +kernel
theorem dX8_isTold_31 : decode cX8_isTold 31 = .ok (.aload_n 0, 1) := by decide +kernel
theorem dX8_isTold_32 : decode cX8_isTold 32 = .ok (.getfield 34, 3) := by decide +kernel
theorem dX8_isTold_35 : decode cX8_isTold 35 = .ok (.bipush 40, 2) := by decide +kernel
theorem dX8_isTold_37 : decode cX8_isTold 37 = .ok (.iload_n 1, 1) := by decide +kernel
theorem dX8_isTold_38 : decode cX8_isTold 38 = .ok (.imul, 1) := by decide +kernel
theorem dX8_isTold_39 : decode cX8_isTold 39 = .ok (.iload 4, 2) := by decide +kernel
theorem dX8_isTold_41 : decode cX8_isTold 41 = .ok (.iadd, 1) := by decide +kernel
theorem dX8_isTold_42 : decode cX8_isTold 42 = .ok (.iaload, 1) := by decide +kernel
theorem dX8_isTold_43 : decode cX8_isTold 43 = .ok (.istore 5, 2) := by decide +kernel
theorem dX8_isTold_45 : decode cX8_isTold 45 = .ok (.iload 5, 2) := by decide +kernel
theorem dX8_isTold_47 : decode cX8_isTold 47 = .ok (.iconst (-1), 1) := by decide +kernel
theorem dX8_isTold_48 : decode cX8_isTold 48 = .ok (.if_icmp .eq 14, 3) := by decide +kernel
theorem dX8_isTold_51 : decode cX8_isTold 51 = .ok (.iload 5, 2) := by decide +kernel
theorem dX8_isTold_53 : decode cX8_isTold 53 = .ok (.aload_n 0, 1) := by decide +kernel
theorem dX8_isTold_54 : decode cX8_isTold 54 = .ok (.iload_n 2, 1) := by decide +kernel
theorem dX8_isTold_55 : decode cX8_isTold 55 = .ok (.iconst 1, 1) := by decide +kernel
theorem dX8_isTold_56 : decode cX8_isTold 56 = .ok (.invokevirtual 59, 3) := by decide +kernel
theorem dX8_isTold_59 : decode cX8_isTold 59 = .ok (.if_icmp .ne 7, 3) := by decide +kernel
theorem dX8_isTold_62 : decode cX8_isTold 62 = .ok (.iconst 1, 1) := by decide +kernel
theorem dX8_isTold_63 : decode cX8_isTold 63 = .ok (.goto 4, 3) := by decide +kernel
theorem dX8_isTold_66 : decode cX8_isTold 66 = .ok (.iconst 0, 1) := by decide +kernel
theorem dX8_isTold_67 : decode cX8_isTold 67 = .ok (.istore_n 3, 1) := by decide +kernel
theorem dX8_isTold_68 : decode cX8_isTold 68 = .ok (.aload_n 0, 1) := by decide +kernel
theorem dX8_isTold_69 : decode cX8_isTold 69 = .ok (.iload_n 2, 1) := by decide +kernel
theorem dX8_isTold_70 : decode cX8_isTold 70 = .ok (.invokevirtual 144, 3) := by decide +kernel
theorem dX8_isTold_73 : decode cX8_isTold 73 = .ok (.iinc 4 1, 3) := by decide +kernel
theorem dX8_isTold_76 : decode cX8_isTold 76 = .ok (.goto (-60), 3) := by decide +kernel
theorem dX8_isTold_79 : decode cX8_isTold 79 = .ok (.aload_n 0, 1) := by decide +kernel
theorem dX8_isTold_80 : decode cX8_isTold 80 = .ok (.getfield 19, 3) := by decide +kernel
theorem dX8_isTold_83 : decode cX8_isTold 83 = .ok (.aload_n 0, 1) := by decide +kernel
theorem dX8_isTold_84 : decode cX8_isTold 84 = .ok (.getfield 7, 3) := by decide +kernel
theorem dX8_isTold_87 : decode cX8_isTold 87 = .ok (.invokestatic 140, 3) := by decide +kernel
theorem dX8_isTold_90 : decode cX8_isTold 90 = .ok (.iload_n 3, 1) := by decide +kernel
theorem dX8_isTold_91 : decode cX8_isTold 91 = .ok (.ireturn, 1) := by decide +kernel
theorem dX8_couldBe_0 : decode cX8_couldBe 0 = .ok (.aload_n 0, 1) := by decide +kernel
theorem dX8_couldBe_1 : decode cX8_couldBe 1 = .ok (.iload_n 2, 1) := by decide +kernel
theorem dX8_couldBe_2 : decode cX8_couldBe 2 = .ok (.iload_n 3, 1) := by decide +kernel
theorem dX8_couldBe_3 : decode cX8_couldBe 3 = .ok (.invokevirtual 59, 3) := by decide +kernel
theorem dX8_couldBe_6 : decode cX8_couldBe 6 = .ok (.istore 4, 2) := by decide +kernel
theorem dX8_couldBe_8 : decode cX8_couldBe 8 = .ok (.iconst 0, 1) := by decide +kernel
theorem dX8_couldBe_9 : decode cX8_couldBe 9 = .ok (.istore 5, 2) := by decide +kernel
theorem dX8_couldBe_11 : decode cX8_couldBe 11 = .ok (.iconst 0, 1) := by decide +kernel
theorem dX8_couldBe_12 : decode cX8_couldBe 12 = .ok (.istore 6, 2) := by decide +kernel
theorem dX8_couldBe_14 : decode cX8_couldBe 14 = .ok (.iload 6, 2) := by decide +kernel
theorem dX8_couldBe_16 : decode cX8_couldBe 16 = .ok (.iload_n 3, 1) := by decide +kernel
theorem dX8_couldBe_17 : decode cX8_couldBe 17 = .ok (.invokestatic 103, 3) := by decide +kernel
theorem dX8_couldBe_20 : decode cX8_couldBe 20 = .ok (.if_icmp .gt 43, 3) := by decide +kernel
theorem dX8_couldBe_23 : decode cX8_couldBe 23 = .ok (.aload_n 0, 1) := by decide +kernel
theorem dX8_couldBe_24 : decode cX8_couldBe 24 = .ok (.getfield 7, 3) := by decide +kernel
theorem dX8_couldBe_27 : decode cX8_couldBe 27 = .ok (.iload_n 2, 1) := by decide +kernel
theorem dX8_couldBe_28 : decode cX8_couldBe 28 = .ok (.iload_n 3, 1) := by decide +kernel
theorem dX8_couldBe_29 : decode cX8_couldBe 29 = .ok (.invokestatic 70, 3) := by decide +kernel
theorem dX8_couldBe_32 : decode cX8_couldBe 32 = .ok (.iload 6, 2) := by decide +kernel
theorem dX8_couldBe_34 : decode cX8_couldBe 34 = .ok (.iastore, 1) := by decide +kernel
theorem dX8_couldBe_35 : decode cX8_couldBe 35 = .ok (.iload 5, 2) := by decide +kernel
theorem dX8_couldBe_37 : decode cX8_couldBe 37 = .ok (.aload_n 0, 1) := by decide +kernel
theorem dX8_couldBe_38 : decode cX8_couldBe 38 = .ok (.iload_n 1, 1) := by decide +kernel
theorem dX8_couldBe_39 : decode cX8_couldBe 39 = .ok (.iload_n 2, 1) := by decide +kernel
theorem dX8_couldBe_40 : decode cX8_couldBe 40 = .ok (.invokevirtual 183, 3) := by decide +kernel
theorem dX8_couldBe_43 : decode cX8_couldBe 43 = .ok (.ifCond .eq 10, 3) := by decide +kernel
theorem dX8_couldBe_46 : decode cX8_couldBe 46 = .ok (.iconst 1, 1) := by decide +kernel
theorem dX8_couldBe_47 : decode cX8_couldBe 47 = .ok (.iload 6, 2) := by decide +kernel
theorem dX8_couldBe_49 : decode cX8_couldBe 49 = .ok (.ishl, 1) := by decide +kernel
theorem dX8_couldBe_50 : decode cX8_couldBe 50 = .ok (.goto 4, 3) := by decide +kernel
theorem dX8_couldBe_53 : decode cX8_couldBe 53 = .ok (.iconst 0, 1) := by decide +kernel
theorem dX8_couldBe_54 : decode cX8_couldBe 54 = .ok (.ior, 1) := by decide +kernel
theorem dX8_couldBe_55 : decode cX8_couldBe 55 = .ok (.istore 5, 2) := by decide +kernel
theorem dX8_couldBe_57 : decode cX8_couldBe 57 = .ok (.iinc 6 1, 3) := by decide +kernel
theorem dX8_couldBe_60 : decode cX8_couldBe 60 = .ok (.goto (-46), 3) := by decide +kernel
theorem dX8_couldBe_63 : decode cX8_couldBe 63 = .ok (.aload_n 0, 1) := by decide +kernel
theorem dX8_couldBe_64 : decode cX8_couldBe 64 = .ok (.getfield 7, 3) := by decide +kernel
theorem dX8_couldBe_67 : decode cX8_couldBe 67 = .ok (.iload_n 2, 1) := by decide +kernel
theorem dX8_couldBe_68 : decode cX8_couldBe 68 = .ok (.iload_n 3, 1) := by decide +kernel
theorem dX8_couldBe_69 : decode cX8_couldBe 69 = .ok (.invokestatic 70, 3) := by decide +kernel
theorem dX8_couldBe_72 : decode cX8_couldBe 72 = .ok (.iload 4, 2) := by decide +kernel
theorem dX8_couldBe_74 : decode cX8_couldBe 74 = .ok (.iastore, 1) := by decide +kernel
theorem dX8_couldBe_75 : decode cX8_couldBe 75 = .ok (.iload 5, 2) := by decide +kernel
theorem dX8_couldBe_77 : decode cX8_couldBe 77 = .ok (.ireturn, 1) := by decide +kernel
theorem dX8_wantsFor_0 : decode cX8_wantsFor 0 = .ok (.aload_n 0, 1) := by decide +kernel
theorem dX8_wantsFor_1 : decode cX8_wantsFor 1 = .ok (.iload_n 1, 1) := by decide +kernel
theorem dX8_wantsFor_2 : decode cX8_wantsFor 2 = .ok (.invokevirtual 187, 3) := by decide +kernel
theorem dX8_wantsFor_5 : decode cX8_wantsFor 5 = .ok (.ifCond .eq 11, 3) := by decide +kernel
theorem dX8_wantsFor_8 : decode cX8_wantsFor 8 = .ok (.aload_n 0, 1) := by decide +kernel
theorem dX8_wantsFor_9 : decode cX8_wantsFor 9 = .ok (.iload_n 1, 1) := by decide +kernel
theorem dX8_wantsFor_10 : decode cX8_wantsFor 10 = .ok (.invokevirtual 187, 3) := by decide +kernel
theorem dX8_wantsFor_13 : decode cX8_wantsFor 13 = .ok (.goto 17, 3) := by decide +kernel
theorem dX8_wantsFor_16 : decode cX8_wantsFor 16 = .ok (.aload_n 0, 1) := by decide +kernel
theorem dX8_wantsFor_17 : decode cX8_wantsFor 17 = .ok (.iload_n 2, 1) := by decide +kernel
theorem dX8_wantsFor_18 : decode cX8_wantsFor 18 = .ok (.invokevirtual 89, 3) := by decide +kernel
theorem dX8_wantsFor_21 : decode cX8_wantsFor 21 = .ok (.ifCond .eq 7, 3) := by decide +kernel
theorem dX8_wantsFor_24 : decode cX8_wantsFor 24 = .ok (.iconst 0, 1) := by decide +kernel
theorem dX8_wantsFor_25 : decode cX8_wantsFor 25 = .ok (.goto 5, 3) := by decide +kernel
theorem dX8_wantsFor_28 : decode cX8_wantsFor 28 = .ok (.ldc 37, 2) := by decide +kernel
theorem dX8_wantsFor_30 : decode cX8_wantsFor 30 = .ok (.ireturn, 1) := by decide +kernel
theorem dX8_fits_0 : decode cX8_fits 0 = .ok (.aload_n 0, 1) := by decide +kernel
theorem dX8_fits_1 : decode cX8_fits 1 = .ok (.iload_n 1, 1) := by decide +kernel
theorem dX8_fits_2 : decode cX8_fits 2 = .ok (.iload_n 2, 1) := by decide +kernel
theorem dX8_fits_3 : decode cX8_fits 3 = .ok (.invokevirtual 190, 3) := by decide +kernel
theorem dX8_fits_6 : decode cX8_fits 6 = .ok (.istore_n 3, 1) := by decide +kernel
theorem dX8_fits_7 : decode cX8_fits 7 = .ok (.iload_n 3, 1) := by decide +kernel
theorem dX8_fits_8 : decode cX8_fits 8 = .ok (.ifCond .eq 11, 3) := by decide +kernel
theorem dX8_fits_11 : decode cX8_fits 11 = .ok (.aload_n 0, 1) := by decide +kernel
theorem dX8_fits_12 : decode cX8_fits 12 = .ok (.iload_n 3, 1) := by decide +kernel
theorem dX8_fits_13 : decode cX8_fits 13 = .ok (.invokevirtual 39, 3) := by decide +kernel
theorem dX8_fits_16 : decode cX8_fits 16 = .ok (.goto 10, 3) := by decide +kernel
theorem dX8_fits_19 : decode cX8_fits 19 = .ok (.aload_n 0, 1) := by decide +kernel
theorem dX8_fits_20 : decode cX8_fits 20 = .ok (.iload_n 1, 1) := by decide +kernel
theorem dX8_fits_21 : decode cX8_fits 21 = .ok (.iload_n 2, 1) := by decide +kernel
theorem dX8_fits_22 : decode cX8_fits 22 = .ok (.iconst 3, 1) := by decide +kernel
theorem dX8_fits_23 : decode cX8_fits 23 = .ok (.invokevirtual 193, 3) := by decide +kernel
theorem dX8_fits_26 : decode cX8_fits 26 = .ok (.ireturn, 1) := by decide +kernel
theorem dX8_kinds_0 : decode cX8_kinds 0 = .ok (.aload_n 0, 1) := by decide +kernel
theorem dX8_kinds_1 : decode cX8_kinds 1 = .ok (.iload_n 1, 1) := by decide +kernel
theorem dX8_kinds_2 : decode cX8_kinds 2 = .ok (.iload_n 2, 1) := by decide +kernel
theorem dX8_kinds_3 : decode cX8_kinds 3 = .ok (.invokevirtual 190, 3) := by decide +kernel
theorem dX8_kinds_6 : decode cX8_kinds 6 = .ok (.istore_n 3, 1) := by decide +kernel
theorem dX8_kinds_7 : decode cX8_kinds 7 = .ok (.iload_n 3, 1) := by decide +kernel
theorem dX8_kinds_8 : decode cX8_kinds 8 = .ok (.ifCond .eq 11, 3) := by decide +kernel
theorem dX8_kinds_11 : decode cX8_kinds 11 = .ok (.aload_n 0, 1) := by decide +kernel
theorem dX8_kinds_12 : decode cX8_kinds 12 = .ok (.iload_n 3, 1) := by decide +kernel
theorem dX8_kinds_13 : decode cX8_kinds 13 = .ok (.invokevirtual 39, 3) := by decide +kernel
theorem dX8_kinds_16 : decode cX8_kinds 16 = .ok (.goto 10, 3) := by decide +kernel
theorem dX8_kinds_19 : decode cX8_kinds 19 = .ok (.aload_n 0, 1) := by decide +kernel
theorem dX8_kinds_20 : decode cX8_kinds 20 = .ok (.iload_n 1, 1) := by decide +kernel
theorem dX8_kinds_21 : decode cX8_kinds 21 = .ok (.iload_n 2, 1) := by decide +kernel
theorem dX8_kinds_22 : decode cX8_kinds 22 = .ok (.iconst 0, 1) := by decide +kernel
theorem dX8_kinds_23 : decode cX8_kinds 23 = .ok (.invokevirtual 193, 3) := by decide +kernel
theorem dX8_kinds_26 : decode cX8_kinds 26 = .ok (.ireturn, 1) := by decide +kernel
theorem dX8_draw_0 : decode cX8_draw 0 = .ok (.aload_n 0, 1) := by decide +kernel
theorem dX8_draw_1 : decode cX8_draw 1 = .ok (.getfield 7, 3) := by decide +kernel
theorem dX8_draw_4 : decode cX8_draw 4 = .ok (.iconst 2, 1) := by decide +kernel
theorem dX8_draw_5 : decode cX8_draw 5 = .ok (.aload_n 0, 1) := by decide +kernel
theorem dX8_draw_6 : decode cX8_draw 6 = .ok (.getfield 7, 3) := by decide +kernel
theorem dX8_draw_9 : decode cX8_draw 9 = .ok (.iconst 2, 1) := by decide +kernel
theorem dX8_draw_10 : decode cX8_draw 10 = .ok (.iaload, 1) := by decide +kernel
theorem dX8_draw_11 : decode cX8_draw 11 = .ok (.ldc 196, 2) := by decide +kernel
theorem dX8_draw_13 : decode cX8_draw 13 = .ok (.imul, 1) := by decide +kernel
theorem dX8_draw_14 : decode cX8_draw 14 = .ok (.sipush 12345, 3) := by decide +kernel
theorem dX8_draw_17 : decode cX8_draw 17 = .ok (.iadd, 1) := by decide +kernel
theorem dX8_draw_18 : decode cX8_draw 18 = .ok (.iastore, 1) := by decide +kernel
theorem dX8_draw_19 : decode cX8_draw 19 = .ok (.aload_n 0, 1) := by decide +kernel
theorem dX8_draw_20 : decode cX8_draw 20 = .ok (.getfield 7, 3) := by decide +kernel
theorem dX8_draw_23 : decode cX8_draw 23 = .ok (.iconst 2, 1) := by decide +kernel
theorem dX8_draw_24 : decode cX8_draw 24 = .ok (.iaload, 1) := by decide +kernel
theorem dX8_draw_25 : decode cX8_draw 25 = .ok (.bipush 8, 2) := by decide +kernel
theorem dX8_draw_27 : decode cX8_draw 27 = .ok (.iushr, 1) := by decide +kernel
theorem dX8_draw_28 : decode cX8_draw 28 = .ok (.ireturn, 1) := by decide +kernel
theorem dX8_gusts_0 : decode cX8_gusts 0 = .ok (.iload_n 1, 1) := by decide +kernel
theorem dX8_gusts_1 : decode cX8_gusts 1 = .ok (.i2l, 1) := by decide +kernel
theorem dX8_gusts_2 : decode cX8_gusts 2 = .ok (.lconst 1, 1) := by decide +kernel
theorem dX8_gusts_3 : decode cX8_gusts 3 = .ok (.ldc2_w 197, 3) := by decide +kernel
theorem dX8_gusts_6 : decode cX8_gusts 6 = .ok (.invokestatic 49, 3) := by decide +kernel
theorem dX8_gusts_9 : decode cX8_gusts 9 = .ok (.ifCond .ne 10, 3) := by decide +kernel
theorem dX8_gusts_12 : decode cX8_gusts 12 = .ok (.aload_n 0, 1) := by decide +kernel
theorem dX8_gusts_13 : decode cX8_gusts 13 = .ok (.ldc 37, 2) := by decide +kernel
theorem dX8_gusts_15 : decode cX8_gusts 15 = .ok (.invokevirtual 39, 3) := by decide +kernel
theorem dX8_gusts_18 : decode cX8_gusts 18 = .ok (.ireturn, 1) := by decide +kernel
theorem dX8_gusts_19 : decode cX8_gusts 19 = .ok (.aload_n 0, 1) := by decide +kernel
theorem dX8_gusts_20 : decode cX8_gusts 20 = .ok (.getfield 7, 3) := by decide +kernel
theorem dX8_gusts_23 : decode cX8_gusts 23 = .ok (.iconst 1, 1) := by decide +kernel
theorem dX8_gusts_24 : decode cX8_gusts 24 = .ok (.iaload, 1) := by decide +kernel
theorem dX8_gusts_25 : decode cX8_gusts 25 = .ok (.iload_n 1, 1) := by decide +kernel
theorem dX8_gusts_26 : decode cX8_gusts 26 = .ok (.iadd, 1) := by decide +kernel
theorem dX8_gusts_27 : decode cX8_gusts 27 = .ok (.ldc 100, 2) := by decide +kernel
theorem dX8_gusts_29 : decode cX8_gusts 29 = .ok (.if_icmp .le 10, 3) := by decide +kernel
theorem dX8_gusts_32 : decode cX8_gusts 32 = .ok (.aload_n 0, 1) := by decide +kernel
theorem dX8_gusts_33 : decode cX8_gusts 33 = .ok (.ldc 121, 2) := by decide +kernel
theorem dX8_gusts_35 : decode cX8_gusts 35 = .ok (.invokevirtual 39, 3) := by decide +kernel
theorem dX8_gusts_38 : decode cX8_gusts 38 = .ok (.ireturn, 1) := by decide +kernel
theorem dX8_gusts_39 : decode cX8_gusts 39 = .ok (.iconst 0, 1) := by decide +kernel
theorem dX8_gusts_40 : decode cX8_gusts 40 = .ok (.istore_n 2, 1) := by decide +kernel
theorem dX8_gusts_41 : decode cX8_gusts 41 = .ok (.iconst 0, 1) := by decide +kernel
theorem dX8_gusts_42 : decode cX8_gusts 42 = .ok (.istore_n 3, 1) := by decide +kernel
theorem dX8_gusts_43 : decode cX8_gusts 43 = .ok (.iload_n 3, 1) := by decide +kernel
theorem dX8_gusts_44 : decode cX8_gusts 44 = .ok (.iload_n 1, 1) := by decide +kernel
theorem dX8_gusts_45 : decode cX8_gusts 45 = .ok (.if_icmp .ge 42, 3) := by decide +kernel
theorem dX8_gusts_48 : decode cX8_gusts 48 = .ok (.aload_n 0, 1) := by decide +kernel
theorem dX8_gusts_49 : decode cX8_gusts 49 = .ok (.invokevirtual 199, 3) := by decide +kernel
theorem dX8_gusts_52 : decode cX8_gusts 52 = .ok (.bipush 16, 2) := by decide +kernel
theorem dX8_gusts_54 : decode cX8_gusts 54 = .ok (.irem, 1) := by decide +kernel
theorem dX8_gusts_55 : decode cX8_gusts 55 = .ok (.istore 4, 2) := by decide +kernel
theorem dX8_gusts_57 : decode cX8_gusts 57 = .ok (.aload_n 0, 1) := by decide +kernel
theorem dX8_gusts_58 : decode cX8_gusts 58 = .ok (.getfield 7, 3) := by decide +kernel
theorem dX8_gusts_61 : decode cX8_gusts 61 = .ok (.bipush 21, 2) := by decide +kernel
theorem dX8_gusts_63 : decode cX8_gusts 63 = .ok (.iload 4, 2) := by decide +kernel
theorem dX8_gusts_65 : decode cX8_gusts 65 = .ok (.iadd, 1) := by decide +kernel
theorem dX8_gusts_66 : decode cX8_gusts 66 = .ok (.aload_n 0, 1) := by decide +kernel
theorem dX8_gusts_67 : decode cX8_gusts 67 = .ok (.invokevirtual 199, 3) := by decide +kernel
theorem dX8_gusts_70 : decode cX8_gusts 70 = .ok (.bipush 60, 2) := by decide +kernel
theorem dX8_gusts_72 : decode cX8_gusts 72 = .ok (.irem, 1) := by decide +kernel
theorem dX8_gusts_73 : decode cX8_gusts 73 = .ok (.iastore, 1) := by decide +kernel
theorem dX8_gusts_74 : decode cX8_gusts 74 = .ok (.iload_n 2, 1) := by decide +kernel
theorem dX8_gusts_75 : decode cX8_gusts 75 = .ok (.aload_n 0, 1) := by decide +kernel
theorem dX8_gusts_76 : decode cX8_gusts 76 = .ok (.invokevirtual 122, 3) := by decide +kernel
theorem dX8_gusts_79 : decode cX8_gusts 79 = .ok (.iadd, 1) := by decide +kernel
theorem dX8_gusts_80 : decode cX8_gusts 80 = .ok (.istore_n 2, 1) := by decide +kernel
theorem dX8_gusts_81 : decode cX8_gusts 81 = .ok (.iinc 3 1, 3) := by decide +kernel
theorem dX8_gusts_84 : decode cX8_gusts 84 = .ok (.goto (-41), 3) := by decide +kernel
theorem dX8_gusts_87 : decode cX8_gusts 87 = .ok (.iload_n 2, 1) := by decide +kernel
theorem dX8_gusts_88 : decode cX8_gusts 88 = .ok (.ireturn, 1) := by decide +kernel
theorem dX8_odds_0 : decode cX8_odds 0 = .ok (.iload_n 1, 1) := by decide +kernel
theorem dX8_odds_1 : decode cX8_odds 1 = .ok (.i2l, 1) := by decide +kernel
theorem dX8_odds_2 : decode cX8_odds 2 = .ok (.lconst 0, 1) := by decide +kernel
theorem dX8_odds_3 : decode cX8_odds 3 = .ok (.ldc2_w 202, 3) := by decide +kernel
theorem dX8_odds_6 : decode cX8_odds 6 = .ok (.invokestatic 49, 3) := by decide +kernel
theorem dX8_odds_9 : decode cX8_odds 9 = .ok (.ifCond .eq 13, 3) := by decide +kernel
theorem dX8_odds_12 : decode cX8_odds 12 = .ok (.iload_n 2, 1) := by decide +kernel
theorem dX8_odds_13 : decode cX8_odds 13 = .ok (.i2l, 1) := by decide +kernel
theorem dX8_odds_14 : decode cX8_odds 14 = .ok (.lconst 0, 1) := by decide +kernel
theorem dX8_odds_15 : decode cX8_odds 15 = .ok (.lconst 1, 1) := by decide +kernel
theorem dX8_odds_16 : decode cX8_odds 16 = .ok (.invokestatic 49, 3) := by decide +kernel
theorem dX8_odds_19 : decode cX8_odds 19 = .ok (.ifCond .ne 11, 3) := by decide +kernel
theorem dX8_odds_22 : decode cX8_odds 22 = .ok (.aload_n 0, 1) := by decide +kernel
theorem dX8_odds_23 : decode cX8_odds 23 = .ok (.ldc 37, 2) := by decide +kernel
theorem dX8_odds_25 : decode cX8_odds 25 = .ok (.invokevirtual 39, 3) := by decide +kernel
theorem dX8_odds_28 : decode cX8_odds 28 = .ok (.i2l, 1) := by decide +kernel
theorem dX8_odds_29 : decode cX8_odds 29 = .ok (.lreturn, 1) := by decide +kernel
theorem dX8_odds_30 : decode cX8_odds 30 = .ok (.lconst 1, 1) := by decide +kernel
theorem dX8_odds_31 : decode cX8_odds 31 = .ok (.lstore_n 3, 1) := by decide +kernel
theorem dX8_odds_32 : decode cX8_odds 32 = .ok (.lconst 1, 1) := by decide +kernel
theorem dX8_odds_33 : decode cX8_odds 33 = .ok (.lstore 5, 2) := by decide +kernel
theorem dX8_odds_35 : decode cX8_odds 35 = .ok (.aload_n 0, 1) := by decide +kernel
theorem dX8_odds_36 : decode cX8_odds 36 = .ok (.invokevirtual 135, 3) := by decide +kernel
theorem dX8_odds_39 : decode cX8_odds 39 = .ok (.invokestatic 204, 3) := by decide +kernel
theorem dX8_odds_42 : decode cX8_odds 42 = .ok (.istore 7, 2) := by decide +kernel
theorem dX8_odds_44 : decode cX8_odds 44 = .ok (.iconst 0, 1) := by decide +kernel
theorem dX8_odds_45 : decode cX8_odds 45 = .ok (.istore 8, 2) := by decide +kernel
theorem dX8_odds_47 : decode cX8_odds 47 = .ok (.iload 8, 2) := by decide +kernel
theorem dX8_odds_49 : decode cX8_odds 49 = .ok (.iload_n 1, 1) := by decide +kernel
theorem dX8_odds_50 : decode cX8_odds 50 = .ok (.if_icmp .ge 23, 3) := by decide +kernel
theorem dX8_odds_53 : decode cX8_odds 53 = .ok (.lload_n 3, 1) := by decide +kernel
theorem dX8_odds_54 : decode cX8_odds 54 = .ok (.iload 7, 2) := by decide +kernel
theorem dX8_odds_56 : decode cX8_odds 56 = .ok (.i2l, 1) := by decide +kernel
theorem dX8_odds_57 : decode cX8_odds 57 = .ok (.lmul, 1) := by decide +kernel
theorem dX8_odds_58 : decode cX8_odds 58 = .ok (.lstore_n 3, 1) := by decide +kernel
theorem dX8_odds_59 : decode cX8_odds 59 = .ok (.lload 5, 2) := by decide +kernel
theorem dX8_odds_61 : decode cX8_odds 61 = .ok (.ldc2_w 207, 3) := by decide +kernel
theorem dX8_odds_64 : decode cX8_odds 64 = .ok (.lmul, 1) := by decide +kernel
theorem dX8_odds_65 : decode cX8_odds 65 = .ok (.lstore 5, 2) := by decide +kernel
theorem dX8_odds_67 : decode cX8_odds 67 = .ok (.iinc 8 1, 3) := by decide +kernel
theorem dX8_odds_70 : decode cX8_odds 70 = .ok (.goto (-23), 3) := by decide +kernel
theorem dX8_odds_73 : decode cX8_odds 73 = .ok (.lload_n 3, 1) := by decide +kernel
theorem dX8_odds_74 : decode cX8_odds 74 = .ok (.lconst 0, 1) := by decide +kernel
theorem dX8_odds_75 : decode cX8_odds 75 = .ok (.lcmp, 1) := by decide +kernel
theorem dX8_odds_76 : decode cX8_odds 76 = .ok (.ifCond .ne 7, 3) := by decide +kernel
theorem dX8_odds_79 : decode cX8_odds 79 = .ok (.lconst 1, 1) := by decide +kernel
theorem dX8_odds_80 : decode cX8_odds 80 = .ok (.goto 5, 3) := by decide +kernel
theorem dX8_odds_83 : decode cX8_odds 83 = .ok (.lload 5, 2) := by decide +kernel
theorem dX8_odds_85 : decode cX8_odds 85 = .ok (.lstore 5, 2) := by decide +kernel
theorem dX8_odds_87 : decode cX8_odds 87 = .ok (.lload_n 3, 1) := by decide +kernel
theorem dX8_odds_88 : decode cX8_odds 88 = .ok (.ldc2_w 47, 3) := by decide +kernel
theorem dX8_odds_91 : decode cX8_odds 91 = .ok (.lrem, 1) := by decide +kernel
theorem dX8_odds_92 : decode cX8_odds 92 = .ok (.lconst 0, 1) := by decide +kernel
theorem dX8_odds_93 : decode cX8_odds 93 = .ok (.lcmp, 1) := by decide +kernel
theorem dX8_odds_94 : decode cX8_odds 94 = .ok (.ifCond .ne 31, 3) := by decide +kernel
theorem dX8_odds_97 : decode cX8_odds 97 = .ok (.lload 5, 2) := by decide +kernel
theorem dX8_odds_99 : decode cX8_odds 99 = .ok (.ldc2_w 47, 3) := by decide +kernel
theorem dX8_odds_102 : decode cX8_odds 102 = .ok (.lrem, 1) := by decide +kernel
theorem dX8_odds_103 : decode cX8_odds 103 = .ok (.lconst 0, 1) := by decide +kernel
theorem dX8_odds_104 : decode cX8_odds 104 = .ok (.lcmp, 1) := by decide +kernel
theorem dX8_odds_105 : decode cX8_odds 105 = .ok (.ifCond .ne 20, 3) := by decide +kernel
theorem dX8_odds_108 : decode cX8_odds 108 = .ok (.lload_n 3, 1) := by decide +kernel
theorem dX8_odds_109 : decode cX8_odds 109 = .ok (.ldc2_w 47, 3) := by decide +kernel
theorem dX8_odds_112 : decode cX8_odds 112 = .ok (.ldiv, 1) := by decide +kernel
theorem dX8_odds_113 : decode cX8_odds 113 = .ok (.lstore_n 3, 1) := by decide +kernel
theorem dX8_odds_114 : decode cX8_odds 114 = .ok (.lload 5, 2) := by decide +kernel
theorem dX8_odds_116 : decode cX8_odds 116 = .ok (.ldc2_w 47, 3) := by decide +kernel
theorem dX8_odds_119 : decode cX8_odds 119 = .ok (.ldiv, 1) := by decide +kernel
theorem dX8_odds_120 : decode cX8_odds 120 = .ok (.lstore 5, 2) := by decide +kernel
theorem dX8_odds_122 : decode cX8_odds 122 = .ok (.goto (-35), 3) := by decide +kernel
theorem dX8_odds_125 : decode cX8_odds 125 = .ok (.iload_n 2, 1) := by decide +kernel
theorem dX8_odds_126 : decode cX8_odds 126 = .ok (.ifCond .ne 7, 3) := by decide +kernel
theorem dX8_odds_129 : decode cX8_odds 129 = .ok (.lload_n 3, 1) := by decide +kernel
theorem dX8_odds_130 : decode cX8_odds 130 = .ok (.goto 5, 3) := by decide +kernel
theorem dX8_odds_133 : decode cX8_odds 133 = .ok (.lload 5, 2) := by decide +kernel
theorem dX8_odds_135 : decode cX8_odds 135 = .ok (.lreturn, 1) := by decide +kernel
theorem dX8_seed_0 : decode cX8_seed 0 = .ok (.aload_n 0, 1) := by decide +kernel
theorem dX8_seed_1 : decode cX8_seed 1 = .ok (.iconst 2, 1) := by decide +kernel
theorem dX8_seed_2 : decode cX8_seed 2 = .ok (.iload_n 1, 1) := by decide +kernel
theorem dX8_seed_3 : decode cX8_seed 3 = .ok (.invokevirtual 55, 3) := by decide +kernel
theorem dX8_seed_6 : decode cX8_seed 6 = .ok (.ireturn, 1) := by decide +kernel
theorem dX8_feed_0 : decode cX8_feed 0 = .ok (.iload_n 2, 1) := by decide +kernel
theorem dX8_feed_1 : decode cX8_feed 1 = .ok (.i2l, 1) := by decide +kernel
theorem dX8_feed_2 : decode cX8_feed 2 = .ok (.lconst 1, 1) := by decide +kernel
theorem dX8_feed_3 : decode cX8_feed 3 = .ok (.ldc2_w 62, 3) := by decide +kernel
theorem dX8_feed_6 : decode cX8_feed 6 = .ok (.invokestatic 49, 3) := by decide +kernel
theorem dX8_feed_9 : decode cX8_feed 9 = .ok (.ifCond .ne 10, 3) := by decide +kernel
theorem dX8_feed_12 : decode cX8_feed 12 = .ok (.aload_n 0, 1) := by decide +kernel
theorem dX8_feed_13 : decode cX8_feed 13 = .ok (.ldc 37, 2) := by decide +kernel
theorem dX8_feed_15 : decode cX8_feed 15 = .ok (.invokevirtual 39, 3) := by decide +kernel
theorem dX8_feed_18 : decode cX8_feed 18 = .ok (.ireturn, 1) := by decide +kernel
theorem dX8_feed_19 : decode cX8_feed 19 = .ok (.aload_n 0, 1) := by decide +kernel
theorem dX8_feed_20 : decode cX8_feed 20 = .ok (.getfield 209, 3) := by decide +kernel
theorem dX8_feed_23 : decode cX8_feed 23 = .ok (.iload_n 2, 1) := by decide +kernel
theorem dX8_feed_24 : decode cX8_feed 24 = .ok (.iadd, 1) := by decide +kernel
theorem dX8_feed_25 : decode cX8_feed 25 = .ok (.bipush 120, 2) := by decide +kernel
theorem dX8_feed_27 : decode cX8_feed 27 = .ok (.if_icmp .le 10, 3) := by decide +kernel
theorem dX8_feed_30 : decode cX8_feed 30 = .ok (.aload_n 0, 1) := by decide +kernel
theorem dX8_feed_31 : decode cX8_feed 31 = .ok (.ldc 75, 2) := by decide +kernel
theorem dX8_feed_33 : decode cX8_feed 33 = .ok (.invokevirtual 39, 3) := by decide +kernel
theorem dX8_feed_36 : decode cX8_feed 36 = .ok (.ireturn, 1) := by decide +kernel
theorem dX8_feed_37 : decode cX8_feed 37 = .ok (.iload_n 2, 1) := by decide +kernel
theorem dX8_feed_38 : decode cX8_feed 38 = .ok (.iconst 1, 1) := by decide +kernel
theorem dX8_feed_39 : decode cX8_feed 39 = .ok (.isub, 1) := by decide +kernel
theorem dX8_feed_40 : decode cX8_feed 40 = .ok (.istore_n 3, 1) := by decide +kernel
theorem dX8_feed_41 : decode cX8_feed 41 = .ok (.iload_n 3, 1) := by decide +kernel
theorem dX8_feed_42 : decode cX8_feed 42 = .ok (.ifCond .lt 38, 3) := by decide +kernel
theorem dX8_feed_45 : decode cX8_feed 45 = .ok (.aload_n 0, 1) := by decide +kernel
theorem dX8_feed_46 : decode cX8_feed 46 = .ok (.getfield 25, 3) := by decide +kernel
theorem dX8_feed_49 : decode cX8_feed 49 = .ok (.aload_n 0, 1) := by decide +kernel
theorem dX8_feed_50 : decode cX8_feed 50 = .ok (.getfield 209, 3) := by decide +kernel
theorem dX8_feed_53 : decode cX8_feed 53 = .ok (.iload_n 1, 1) := by decide +kernel
theorem dX8_feed_54 : decode cX8_feed 54 = .ok (.bipush 8, 2) := by decide +kernel
theorem dX8_feed_56 : decode cX8_feed 56 = .ok (.iload_n 3, 1) := by decide +kernel
theorem dX8_feed_57 : decode cX8_feed 57 = .ok (.imul, 1) := by decide +kernel
theorem dX8_feed_58 : decode cX8_feed 58 = .ok (.ishr, 1) := by decide +kernel
theorem dX8_feed_59 : decode cX8_feed 59 = .ok (.sipush 255, 3) := by decide +kernel
theorem dX8_feed_62 : decode cX8_feed 62 = .ok (.iand, 1) := by decide +kernel
theorem dX8_feed_63 : decode cX8_feed 63 = .ok (.iastore, 1) := by decide +kernel
theorem dX8_feed_64 : decode cX8_feed 64 = .ok (.aload_n 0, 1) := by decide +kernel
theorem dX8_feed_65 : decode cX8_feed 65 = .ok (.dup, 1) := by decide +kernel
theorem dX8_feed_66 : decode cX8_feed 66 = .ok (.getfield 209, 3) := by decide +kernel
theorem dX8_feed_69 : decode cX8_feed 69 = .ok (.iconst 1, 1) := by decide +kernel
theorem dX8_feed_70 : decode cX8_feed 70 = .ok (.iadd, 1) := by decide +kernel
theorem dX8_feed_71 : decode cX8_feed 71 = .ok (.putfield 209, 3) := by decide +kernel
theorem dX8_feed_74 : decode cX8_feed 74 = .ok (.iinc 3 (-1), 3) := by decide +kernel
theorem dX8_feed_77 : decode cX8_feed 77 = .ok (.goto (-36), 3) := by decide +kernel
theorem dX8_feed_80 : decode cX8_feed 80 = .ok (.aload_n 0, 1) := by decide +kernel
theorem dX8_feed_81 : decode cX8_feed 81 = .ok (.getfield 209, 3) := by decide +kernel
theorem dX8_feed_84 : decode cX8_feed 84 = .ok (.ireturn, 1) := by decide +kernel
theorem dX8_wipe_0 : decode cX8_wipe 0 = .ok (.aload_n 0, 1) := by decide +kernel
theorem dX8_wipe_1 : decode cX8_wipe 1 = .ok (.getfield 209, 3) := by decide +kernel
theorem dX8_wipe_4 : decode cX8_wipe 4 = .ok (.istore_n 1, 1) := by decide +kernel
theorem dX8_wipe_5 : decode cX8_wipe 5 = .ok (.aload_n 0, 1) := by decide +kernel
theorem dX8_wipe_6 : decode cX8_wipe 6 = .ok (.iconst 0, 1) := by decide +kernel
theorem dX8_wipe_7 : decode cX8_wipe 7 = .ok (.putfield 209, 3) := by decide +kernel
theorem dX8_wipe_10 : decode cX8_wipe 10 = .ok (.iload_n 1, 1) := by decide +kernel
theorem dX8_wipe_11 : decode cX8_wipe 11 = .ok (.ireturn, 1) := by decide +kernel
theorem dX8_isLetter_0 : decode cX8_isLetter 0 = .ok (.iload_n 0, 1) := by decide +kernel
theorem dX8_isLetter_1 : decode cX8_isLetter 1 = .ok (.bipush 97, 2) := by decide +kernel
theorem dX8_isLetter_3 : decode cX8_isLetter 3 = .ok (.if_icmp .lt 13, 3) := by decide +kernel
theorem dX8_isLetter_6 : decode cX8_isLetter 6 = .ok (.iload_n 0, 1) := by decide +kernel
theorem dX8_isLetter_7 : decode cX8_isLetter 7 = .ok (.bipush 122, 2) := by decide +kernel
theorem dX8_isLetter_9 : decode cX8_isLetter 9 = .ok (.if_icmp .gt 7, 3) := by decide +kernel
theorem dX8_isLetter_12 : decode cX8_isLetter 12 = .ok (.iconst 1, 1) := by decide +kernel
theorem dX8_isLetter_13 : decode cX8_isLetter 13 = .ok (.goto 4, 3) := by decide +kernel
theorem dX8_isLetter_16 : decode cX8_isLetter 16 = .ok (.iconst 0, 1) := by decide +kernel
theorem dX8_isLetter_17 : decode cX8_isLetter 17 = .ok (.ireturn, 1) := by decide +kernel
theorem dX8_isDigit_0 : decode cX8_isDigit 0 = .ok (.iload_n 0, 1) := by decide +kernel
theorem dX8_isDigit_1 : decode cX8_isDigit 1 = .ok (.bipush 48, 2) := by decide +kernel
theorem dX8_isDigit_3 : decode cX8_isDigit 3 = .ok (.if_icmp .lt 13, 3) := by decide +kernel
theorem dX8_isDigit_6 : decode cX8_isDigit 6 = .ok (.iload_n 0, 1) := by decide +kernel
theorem dX8_isDigit_7 : decode cX8_isDigit 7 = .ok (.bipush 57, 2) := by decide +kernel
theorem dX8_isDigit_9 : decode cX8_isDigit 9 = .ok (.if_icmp .gt 7, 3) := by decide +kernel
theorem dX8_isDigit_12 : decode cX8_isDigit 12 = .ok (.iconst 1, 1) := by decide +kernel
theorem dX8_isDigit_13 : decode cX8_isDigit 13 = .ok (.goto 4, 3) := by decide +kernel
theorem dX8_isDigit_16 : decode cX8_isDigit 16 = .ok (.iconst 0, 1) := by decide +kernel
theorem dX8_isDigit_17 : decode cX8_isDigit 17 = .ok (.ireturn, 1) := by decide +kernel
theorem dX8_byteAt_0 : decode cX8_byteAt 0 = .ok (.iload_n 1, 1) := by decide +kernel
theorem dX8_byteAt_1 : decode cX8_byteAt 1 = .ok (.aload_n 0, 1) := by decide +kernel
theorem dX8_byteAt_2 : decode cX8_byteAt 2 = .ok (.getfield 209, 3) := by decide +kernel
theorem dX8_byteAt_5 : decode cX8_byteAt 5 = .ok (.if_icmp .ge 12, 3) := by decide +kernel
theorem dX8_byteAt_8 : decode cX8_byteAt 8 = .ok (.aload_n 0, 1) := by decide +kernel
theorem dX8_byteAt_9 : decode cX8_byteAt 9 = .ok (.getfield 25, 3) := by decide +kernel
theorem dX8_byteAt_12 : decode cX8_byteAt 12 = .ok (.iload_n 1, 1) := by decide +kernel
theorem dX8_byteAt_13 : decode cX8_byteAt 13 = .ok (.iaload, 1) := by decide +kernel
theorem dX8_byteAt_14 : decode cX8_byteAt 14 = .ok (.goto 4, 3) := by decide +kernel
theorem dX8_byteAt_17 : decode cX8_byteAt 17 = .ok (.iconst (-1), 1) := by decide +kernel
theorem dX8_byteAt_18 : decode cX8_byteAt 18 = .ok (.ireturn, 1) := by decide +kernel
theorem dX8_nextToken_0 : decode cX8_nextToken 0 = .ok (.aload_n 0, 1) := by decide +kernel
theorem dX8_nextToken_1 : decode cX8_nextToken 1 = .ok (.aload_n 0, 1) := by decide +kernel
theorem dX8_nextToken_2 : decode cX8_nextToken 2 = .ok (.getfield 212, 3) := by decide +kernel
theorem dX8_nextToken_5 : decode cX8_nextToken 5 = .ok (.putfield 215, 3) := by decide +kernel
theorem dX8_nextToken_8 : decode cX8_nextToken 8 = .ok (.aload_n 0, 1) := by decide +kernel
theorem dX8_nextToken_9 : decode cX8_nextToken 9 = .ok (.aload_n 0, 1) := by decide +kernel
theorem dX8_nextToken_10 : decode cX8_nextToken 10 = .ok (.getfield 215, 3) := by decide +kernel
theorem dX8_nextToken_13 : decode cX8_nextToken 13 = .ok (.invokevirtual 218, 3) := by decide +kernel
theorem dX8_nextToken_16 : decode cX8_nextToken 16 = .ok (.bipush 32, 2) := by decide +kernel
theorem dX8_nextToken_18 : decode cX8_nextToken 18 = .ok (.if_icmp .ne 16, 3) := by decide +kernel
theorem dX8_nextToken_21 : decode cX8_nextToken 21 = .ok (.aload_n 0, 1) := by decide +kernel
theorem dX8_nextToken_22 : decode cX8_nextToken 22 = .ok (.dup, 1) := by decide +kernel
theorem dX8_nextToken_23 : decode cX8_nextToken 23 = .ok (.getfield 215, 3) := by decide +kernel
theorem dX8_nextToken_26 : decode cX8_nextToken 26 = .ok (.iconst 1, 1) := by decide +kernel
theorem dX8_nextToken_27 : decode cX8_nextToken 27 = .ok (.iadd, 1) := by decide +kernel
theorem dX8_nextToken_28 : decode cX8_nextToken 28 = .ok (.putfield 215, 3) := by decide +kernel
theorem dX8_nextToken_31 : decode cX8_nextToken 31 = .ok (.goto (-23), 3) := by decide +kernel
theorem dX8_nextToken_34 : decode cX8_nextToken 34 = .ok (.aload_n 0, 1) := by decide +kernel
theorem dX8_nextToken_35 : decode cX8_nextToken 35 = .ok (.aload_n 0, 1) := by decide +kernel
theorem dX8_nextToken_36 : decode cX8_nextToken 36 = .ok (.getfield 215, 3) := by decide +kernel
theorem dX8_nextToken_39 : decode cX8_nextToken 39 = .ok (.putfield 212, 3) := by decide +kernel
theorem dX8_nextToken_42 : decode cX8_nextToken 42 = .ok (.aload_n 0, 1) := by decide +kernel
theorem dX8_nextToken_43 : decode cX8_nextToken 43 = .ok (.aload_n 0, 1) := by decide +kernel
theorem dX8_nextToken_44 : decode cX8_nextToken 44 = .ok (.getfield 215, 3) := by decide +kernel
theorem dX8_nextToken_47 : decode cX8_nextToken 47 = .ok (.invokevirtual 218, 3) := by decide +kernel
theorem dX8_nextToken_50 : decode cX8_nextToken 50 = .ok (.istore_n 1, 1) := by decide +kernel
theorem dX8_nextToken_51 : decode cX8_nextToken 51 = .ok (.aload_n 0, 1) := by decide +kernel
theorem dX8_nextToken_52 : decode cX8_nextToken 52 = .ok (.iload_n 1, 1) := by decide +kernel
theorem dX8_nextToken_53 : decode cX8_nextToken 53 = .ok (.ifCond .ge 7, 3) := by decide +kernel
theorem dX8_nextToken_56 : decode cX8_nextToken 56 = .ok (.iconst 0, 1) := by decide +kernel
theorem dX8_nextToken_57 : decode cX8_nextToken 57 = .ok (.goto 36, 3) := by decide +kernel
theorem dX8_nextToken_60 : decode cX8_nextToken 60 = .ok (.iload_n 1, 1) := by decide +kernel
theorem dX8_nextToken_61 : decode cX8_nextToken 61 = .ok (.invokestatic 221, 3) := by decide +kernel
theorem dX8_nextToken_64 : decode cX8_nextToken 64 = .ok (.ifCond .eq 7, 3) := by decide +kernel
theorem dX8_nextToken_67 : decode cX8_nextToken 67 = .ok (.iconst 1, 1) := by decide +kernel
theorem dX8_nextToken_68 : decode cX8_nextToken 68 = .ok (.goto 25, 3) := by decide +kernel
theorem dX8_nextToken_71 : decode cX8_nextToken 71 = .ok (.iload_n 1, 1) := by decide +kernel
theorem dX8_nextToken_72 : decode cX8_nextToken 72 = .ok (.invokestatic 224, 3) := by decide +kernel
theorem dX8_nextToken_75 : decode cX8_nextToken 75 = .ok (.ifCond .eq 7, 3) := by decide +kernel
theorem dX8_nextToken_78 : decode cX8_nextToken 78 = .ok (.iconst 2, 1) := by decide +kernel
theorem dX8_nextToken_79 : decode cX8_nextToken 79 = .ok (.goto 14, 3) := by decide +kernel
theorem dX8_nextToken_82 : decode cX8_nextToken 82 = .ok (.iload_n 1, 1) := by decide +kernel
theorem dX8_nextToken_83 : decode cX8_nextToken 83 = .ok (.bipush 59, 2) := by decide +kernel
theorem dX8_nextToken_85 : decode cX8_nextToken 85 = .ok (.if_icmp .ne 7, 3) := by decide +kernel
theorem dX8_nextToken_88 : decode cX8_nextToken 88 = .ok (.iconst 3, 1) := by decide +kernel
theorem dX8_nextToken_89 : decode cX8_nextToken 89 = .ok (.goto 4, 3) := by decide +kernel
theorem dX8_nextToken_92 : decode cX8_nextToken 92 = .ok (.iconst 4, 1) := by decide +kernel
theorem dX8_nextToken_93 : decode cX8_nextToken 93 = .ok (.putfield 227, 3) := by decide +kernel
theorem dX8_nextToken_96 : decode cX8_nextToken 96 = .ok (.aload_n 0, 1) := by decide +kernel
theorem dX8_nextToken_97 : decode cX8_nextToken 97 = .ok (.iconst 0, 1) := by decide +kernel
theorem dX8_nextToken_98 : decode cX8_nextToken 98 = .ok (.putfield 230, 3) := by decide +kernel
theorem dX8_nextToken_101 : decode cX8_nextToken 101 = .ok (.aload_n 0, 1) := by decide +kernel
theorem dX8_nextToken_102 : decode cX8_nextToken 102 = .ok (.getfield 227, 3) := by decide +kernel
theorem dX8_nextToken_105 : decode cX8_nextToken 105 = .ok (.iconst 1, 1) := by decide +kernel
theorem dX8_nextToken_106 : decode cX8_nextToken 106 = .ok (.if_icmp .ne 30, 3) := by decide +kernel
theorem dX8_nextToken_109 : decode cX8_nextToken 109 = .ok (.aload_n 0, 1) := by decide +kernel
theorem dX8_nextToken_110 : decode cX8_nextToken 110 = .ok (.aload_n 0, 1) := by decide +kernel
theorem dX8_nextToken_111 : decode cX8_nextToken 111 = .ok (.getfield 212, 3) := by decide +kernel
theorem dX8_nextToken_114 : decode cX8_nextToken 114 = .ok (.invokevirtual 218, 3) := by decide +kernel
theorem dX8_nextToken_117 : decode cX8_nextToken 117 = .ok (.invokestatic 221, 3) := by decide +kernel
theorem dX8_nextToken_120 : decode cX8_nextToken 120 = .ok (.ifCond .eq 16, 3) := by decide +kernel
theorem dX8_nextToken_123 : decode cX8_nextToken 123 = .ok (.aload_n 0, 1) := by decide +kernel
theorem dX8_nextToken_124 : decode cX8_nextToken 124 = .ok (.dup, 1) := by decide +kernel
theorem dX8_nextToken_125 : decode cX8_nextToken 125 = .ok (.getfield 212, 3) := by decide +kernel
theorem dX8_nextToken_128 : decode cX8_nextToken 128 = .ok (.iconst 1, 1) := by decide +kernel
theorem dX8_nextToken_129 : decode cX8_nextToken 129 = .ok (.iadd, 1) := by decide +kernel
theorem dX8_nextToken_130 : decode cX8_nextToken 130 = .ok (.putfield 212, 3) := by decide +kernel
theorem dX8_nextToken_133 : decode cX8_nextToken 133 = .ok (.goto (-32), 3) := by decide +kernel
theorem dX8_nextToken_136 : decode cX8_nextToken 136 = .ok (.aload_n 0, 1) := by decide +kernel
theorem dX8_nextToken_137 : decode cX8_nextToken 137 = .ok (.getfield 227, 3) := by decide +kernel
theorem dX8_nextToken_140 : decode cX8_nextToken 140 = .ok (.iconst 2, 1) := by decide +kernel
theorem dX8_nextToken_141 : decode cX8_nextToken 141 = .ok (.if_icmp .ne 70, 3) := by decide +kernel
theorem dX8_nextToken_144 : decode cX8_nextToken 144 = .ok (.aload_n 0, 1) := by decide +kernel
theorem dX8_nextToken_145 : decode cX8_nextToken 145 = .ok (.aload_n 0, 1) := by decide +kernel
theorem dX8_nextToken_146 : decode cX8_nextToken 146 = .ok (.getfield 212, 3) := by decide +kernel
theorem dX8_nextToken_149 : decode cX8_nextToken 149 = .ok (.invokevirtual 218, 3) := by decide +kernel
theorem dX8_nextToken_152 : decode cX8_nextToken 152 = .ok (.invokestatic 224, 3) := by decide +kernel
theorem dX8_nextToken_155 : decode cX8_nextToken 155 = .ok (.ifCond .eq 56, 3) := by decide +kernel
theorem dX8_nextToken_158 : decode cX8_nextToken 158 = .ok (.aload_n 0, 1) := by decide +kernel
theorem dX8_nextToken_159 : decode cX8_nextToken 159 = .ok (.aload_n 0, 1) := by decide +kernel
theorem dX8_nextToken_160 : decode cX8_nextToken 160 = .ok (.getfield 230, 3) := by decide +kernel
theorem dX8_nextToken_163 : decode cX8_nextToken 163 = .ok (.sipush 999, 3) := by decide +kernel
theorem dX8_nextToken_166 : decode cX8_nextToken 166 = .ok (.if_icmp .le 10, 3) := by decide +kernel
theorem dX8_nextToken_169 : decode cX8_nextToken 169 = .ok (.aload_n 0, 1) := by decide +kernel
theorem dX8_nextToken_170 : decode cX8_nextToken 170 = .ok (.getfield 230, 3) := by decide +kernel
theorem dX8_nextToken_173 : decode cX8_nextToken 173 = .ok (.goto 22, 3) := by decide +kernel
theorem dX8_nextToken_176 : decode cX8_nextToken 176 = .ok (.bipush 10, 2) := by decide +kernel
theorem dX8_nextToken_178 : decode cX8_nextToken 178 = .ok (.aload_n 0, 1) := by decide +kernel
theorem dX8_nextToken_179 : decode cX8_nextToken 179 = .ok (.getfield 230, 3) := by decide +kernel
theorem dX8_nextToken_182 : decode cX8_nextToken 182 = .ok (.imul, 1) := by decide +kernel
theorem dX8_nextToken_183 : decode cX8_nextToken 183 = .ok (.aload_n 0, 1) := by decide +kernel
theorem dX8_nextToken_184 : decode cX8_nextToken 184 = .ok (.aload_n 0, 1) := by decide +kernel
theorem dX8_nextToken_185 : decode cX8_nextToken 185 = .ok (.getfield 212, 3) := by decide +kernel
theorem dX8_nextToken_188 : decode cX8_nextToken 188 = .ok (.invokevirtual 218, 3) := by decide +kernel
theorem dX8_nextToken_191 : decode cX8_nextToken 191 = .ok (.iadd, 1) := by decide +kernel
theorem dX8_nextToken_192 : decode cX8_nextToken 192 = .ok (.bipush 48, 2) := by decide +kernel
theorem dX8_nextToken_194 : decode cX8_nextToken 194 = .ok (.isub, 1) := by decide +kernel
theorem dX8_nextToken_195 : decode cX8_nextToken 195 = .ok (.putfield 230, 3) := by decide +kernel
theorem dX8_nextToken_198 : decode cX8_nextToken 198 = .ok (.aload_n 0, 1) := by decide +kernel
theorem dX8_nextToken_199 : decode cX8_nextToken 199 = .ok (.dup, 1) := by decide +kernel
theorem dX8_nextToken_200 : decode cX8_nextToken 200 = .ok (.getfield 212, 3) := by decide +kernel
theorem dX8_nextToken_203 : decode cX8_nextToken 203 = .ok (.iconst 1, 1) := by decide +kernel
theorem dX8_nextToken_204 : decode cX8_nextToken 204 = .ok (.iadd, 1) := by decide +kernel
theorem dX8_nextToken_205 : decode cX8_nextToken 205 = .ok (.putfield 212, 3) := by decide +kernel
theorem dX8_nextToken_208 : decode cX8_nextToken 208 = .ok (.goto (-72), 3) := by decide +kernel
theorem dX8_nextToken_211 : decode cX8_nextToken 211 = .ok (.aload_n 0, 1) := by decide +kernel
theorem dX8_nextToken_212 : decode cX8_nextToken 212 = .ok (.dup, 1) := by decide +kernel
theorem dX8_nextToken_213 : decode cX8_nextToken 213 = .ok (.getfield 212, 3) := by decide +kernel
theorem dX8_nextToken_216 : decode cX8_nextToken 216 = .ok (.aload_n 0, 1) := by decide +kernel
theorem dX8_nextToken_217 : decode cX8_nextToken 217 = .ok (.getfield 227, 3) := by decide +kernel
theorem dX8_nextToken_220 : decode cX8_nextToken 220 = .ok (.iconst 2, 1) := by decide +kernel
theorem dX8_nextToken_221 : decode cX8_nextToken 221 = .ok (.if_icmp .le 7, 3) := by decide +kernel
theorem dX8_nextToken_224 : decode cX8_nextToken 224 = .ok (.iconst 1, 1) := by decide +kernel
theorem dX8_nextToken_225 : decode cX8_nextToken 225 = .ok (.goto 4, 3) := by decide +kernel
theorem dX8_nextToken_228 : decode cX8_nextToken 228 = .ok (.iconst 0, 1) := by decide +kernel
theorem dX8_nextToken_229 : decode cX8_nextToken 229 = .ok (.iadd, 1) := by decide +kernel
theorem dX8_nextToken_230 : decode cX8_nextToken 230 = .ok (.putfield 212, 3) := by decide +kernel
theorem dX8_nextToken_233 : decode cX8_nextToken 233 = .ok (.return_, 1) := by decide +kernel
theorem dX8_has3_0 : decode cX8_has3 0 = .ok (.aload_n 0, 1) := by decide +kernel
theorem dX8_has3_1 : decode cX8_has3 1 = .ok (.aload_n 0, 1) := by decide +kernel
theorem dX8_has3_2 : decode cX8_has3 2 = .ok (.getfield 215, 3) := by decide +kernel
theorem dX8_has3_5 : decode cX8_has3 5 = .ok (.iload_n 1, 1) := by decide +kernel
theorem dX8_has3_6 : decode cX8_has3 6 = .ok (.iadd, 1) := by decide +kernel
theorem dX8_has3_7 : decode cX8_has3 7 = .ok (.invokevirtual 218, 3) := by decide +kernel
theorem dX8_has3_10 : decode cX8_has3 10 = .ok (.iload_n 2, 1) := by decide +kernel
theorem dX8_has3_11 : decode cX8_has3 11 = .ok (.if_icmp .ne 40, 3) := by decide +kernel
theorem dX8_has3_14 : decode cX8_has3 14 = .ok (.aload_n 0, 1) := by decide +kernel
theorem dX8_has3_15 : decode cX8_has3 15 = .ok (.aload_n 0, 1) := by decide +kernel
theorem dX8_has3_16 : decode cX8_has3 16 = .ok (.getfield 215, 3) := by decide +kernel
theorem dX8_has3_19 : decode cX8_has3 19 = .ok (.iload_n 1, 1) := by decide +kernel
theorem dX8_has3_20 : decode cX8_has3 20 = .ok (.iadd, 1) := by decide +kernel
theorem dX8_has3_21 : decode cX8_has3 21 = .ok (.iconst 1, 1) := by decide +kernel
theorem dX8_has3_22 : decode cX8_has3 22 = .ok (.iadd, 1) := by decide +kernel
theorem dX8_has3_23 : decode cX8_has3 23 = .ok (.invokevirtual 218, 3) := by decide +kernel
theorem dX8_has3_26 : decode cX8_has3 26 = .ok (.iload_n 3, 1) := by decide +kernel
theorem dX8_has3_27 : decode cX8_has3 27 = .ok (.if_icmp .ne 24, 3) := by decide +kernel
theorem dX8_has3_30 : decode cX8_has3 30 = .ok (.aload_n 0, 1) := by decide +kernel
theorem dX8_has3_31 : decode cX8_has3 31 = .ok (.aload_n 0, 1) := by decide +kernel
theorem dX8_has3_32 : decode cX8_has3 32 = .ok (.getfield 215, 3) := by decide +kernel
theorem dX8_has3_35 : decode cX8_has3 35 = .ok (.iload_n 1, 1) := by decide +kernel
theorem dX8_has3_36 : decode cX8_has3 36 = .ok (.iadd, 1) := by decide +kernel
theorem dX8_has3_37 : decode cX8_has3 37 = .ok (.iconst 2, 1) := by decide +kernel
theorem dX8_has3_38 : decode cX8_has3 38 = .ok (.iadd, 1) := by decide +kernel
theorem dX8_has3_39 : decode cX8_has3 39 = .ok (.invokevirtual 218, 3) := by decide +kernel
theorem dX8_has3_42 : decode cX8_has3 42 = .ok (.iload 4, 2) := by decide +kernel
theorem dX8_has3_44 : decode cX8_has3 44 = .ok (.if_icmp .ne 7, 3) := by decide +kernel
theorem dX8_has3_47 : decode cX8_has3 47 = .ok (.iconst 1, 1) := by decide +kernel
theorem dX8_has3_48 : decode cX8_has3 48 = .ok (.goto 4, 3) := by decide +kernel
theorem dX8_has3_51 : decode cX8_has3 51 = .ok (.iconst 0, 1) := by decide +kernel
theorem dX8_has3_52 : decode cX8_has3 52 = .ok (.ireturn, 1) := by decide +kernel
theorem dX8_isWord_0 : decode cX8_isWord 0 = .ok (.aload_n 0, 1) := by decide +kernel
theorem dX8_isWord_1 : decode cX8_isWord 1 = .ok (.getfield 227, 3) := by decide +kernel
theorem dX8_isWord_4 : decode cX8_isWord 4 = .ok (.iconst 1, 1) := by decide +kernel
theorem dX8_isWord_5 : decode cX8_isWord 5 = .ok (.if_icmp .ne 20, 3) := by decide +kernel
theorem dX8_isWord_8 : decode cX8_isWord 8 = .ok (.aload_n 0, 1) := by decide +kernel
theorem dX8_isWord_9 : decode cX8_isWord 9 = .ok (.getfield 212, 3) := by decide +kernel
theorem dX8_isWord_12 : decode cX8_isWord 12 = .ok (.aload_n 0, 1) := by decide +kernel
theorem dX8_isWord_13 : decode cX8_isWord 13 = .ok (.getfield 215, 3) := by decide +kernel
theorem dX8_isWord_16 : decode cX8_isWord 16 = .ok (.isub, 1) := by decide +kernel
theorem dX8_isWord_17 : decode cX8_isWord 17 = .ok (.iload_n 1, 1) := by decide +kernel
theorem dX8_isWord_18 : decode cX8_isWord 18 = .ok (.if_icmp .ne 7, 3) := by decide +kernel
theorem dX8_isWord_21 : decode cX8_isWord 21 = .ok (.iconst 1, 1) := by decide +kernel
theorem dX8_isWord_22 : decode cX8_isWord 22 = .ok (.goto 4, 3) := by decide +kernel
theorem dX8_isWord_25 : decode cX8_isWord 25 = .ok (.iconst 0, 1) := by decide +kernel
theorem dX8_isWord_26 : decode cX8_isWord 26 = .ok (.ireturn, 1) := by decide +kernel
theorem dX8_fails_0 : decode cX8_fails 0 = .ok (.aload_n 0, 1) := by decide +kernel
theorem dX8_fails_1 : decode cX8_fails 1 = .ok (.aload_n 0, 1) := by decide +kernel
theorem dX8_fails_2 : decode cX8_fails 2 = .ok (.getfield 215, 3) := by decide +kernel
theorem dX8_fails_5 : decode cX8_fails 5 = .ok (.putfield 233, 3) := by decide +kernel
theorem dX8_fails_8 : decode cX8_fails 8 = .ok (.iconst 0, 1) := by decide +kernel
theorem dX8_fails_9 : decode cX8_fails 9 = .ok (.ireturn, 1) := by decide +kernel
theorem dX8_isFour_0 : decode cX8_isFour 0 = .ok (.aload_n 0, 1) := by decide +kernel
theorem dX8_isFour_1 : decode cX8_isFour 1 = .ok (.iconst 4, 1) := by decide +kernel
theorem dX8_isFour_2 : decode cX8_isFour 2 = .ok (.invokevirtual 236, 3) := by decide +kernel
theorem dX8_isFour_5 : decode cX8_isFour 5 = .ok (.ifCond .eq 30, 3) := by decide +kernel
theorem dX8_isFour_8 : decode cX8_isFour 8 = .ok (.aload_n 0, 1) := by decide +kernel
theorem dX8_isFour_9 : decode cX8_isFour 9 = .ok (.iconst 0, 1) := by decide +kernel
theorem dX8_isFour_10 : decode cX8_isFour 10 = .ok (.iload_n 1, 1) := by decide +kernel
theorem dX8_isFour_11 : decode cX8_isFour 11 = .ok (.iload_n 2, 1) := by decide +kernel
theorem dX8_isFour_12 : decode cX8_isFour 12 = .ok (.iload_n 3, 1) := by decide +kernel
theorem dX8_isFour_13 : decode cX8_isFour 13 = .ok (.invokevirtual 239, 3) := by decide +kernel
theorem dX8_isFour_16 : decode cX8_isFour 16 = .ok (.ifCond .eq 19, 3) := by decide +kernel
theorem dX8_isFour_19 : decode cX8_isFour 19 = .ok (.aload_n 0, 1) := by decide +kernel
theorem dX8_isFour_20 : decode cX8_isFour 20 = .ok (.iconst 1, 1) := by decide +kernel
theorem dX8_isFour_21 : decode cX8_isFour 21 = .ok (.iload_n 2, 1) := by decide +kernel
theorem dX8_isFour_22 : decode cX8_isFour 22 = .ok (.iload_n 3, 1) := by decide +kernel
theorem dX8_isFour_23 : decode cX8_isFour 23 = .ok (.iload 4, 2) := by decide +kernel
theorem dX8_isFour_25 : decode cX8_isFour 25 = .ok (.invokevirtual 239, 3) := by decide +kernel
theorem dX8_isFour_28 : decode cX8_isFour 28 = .ok (.ifCond .eq 7, 3) := by decide +kernel
theorem dX8_isFour_31 : decode cX8_isFour 31 = .ok (.iconst 1, 1) := by decide +kernel
theorem dX8_isFour_32 : decode cX8_isFour 32 = .ok (.goto 4, 3) := by decide +kernel
theorem dX8_isFour_35 : decode cX8_isFour 35 = .ok (.iconst 0, 1) := by decide +kernel
theorem dX8_isFour_36 : decode cX8_isFour 36 = .ok (.ireturn, 1) := by decide +kernel
theorem dX8_isFive_0 : decode cX8_isFive 0 = .ok (.aload_n 0, 1) := by decide +kernel
theorem dX8_isFive_1 : decode cX8_isFive 1 = .ok (.iconst 5, 1) := by decide +kernel
theorem dX8_isFive_2 : decode cX8_isFive 2 = .ok (.invokevirtual 236, 3) := by decide +kernel
theorem dX8_isFive_5 : decode cX8_isFive 5 = .ok (.ifCond .eq 31, 3) := by decide +kernel
theorem dX8_isFive_8 : decode cX8_isFive 8 = .ok (.aload_n 0, 1) := by decide +kernel
theorem dX8_isFive_9 : decode cX8_isFive 9 = .ok (.iconst 0, 1) := by decide +kernel
theorem dX8_isFive_10 : decode cX8_isFive 10 = .ok (.iload_n 1, 1) := by decide +kernel
theorem dX8_isFive_11 : decode cX8_isFive 11 = .ok (.iload_n 2, 1) := by decide +kernel
theorem dX8_isFive_12 : decode cX8_isFive 12 = .ok (.iload_n 3, 1) := by decide +kernel
theorem dX8_isFive_13 : decode cX8_isFive 13 = .ok (.invokevirtual 239, 3) := by decide +kernel
theorem dX8_isFive_16 : decode cX8_isFive 16 = .ok (.ifCond .eq 20, 3) := by decide +kernel
theorem dX8_isFive_19 : decode cX8_isFive 19 = .ok (.aload_n 0, 1) := by decide +kernel
theorem dX8_isFive_20 : decode cX8_isFive 20 = .ok (.iconst 2, 1) := by decide +kernel
theorem dX8_isFive_21 : decode cX8_isFive 21 = .ok (.iload_n 3, 1) := by decide +kernel
theorem dX8_isFive_22 : decode cX8_isFive 22 = .ok (.iload 4, 2) := by decide +kernel
theorem dX8_isFive_24 : decode cX8_isFive 24 = .ok (.iload 5, 2) := by decide +kernel
theorem dX8_isFive_26 : decode cX8_isFive 26 = .ok (.invokevirtual 239, 3) := by decide +kernel
theorem dX8_isFive_29 : decode cX8_isFive 29 = .ok (.ifCond .eq 7, 3) := by decide +kernel
theorem dX8_isFive_32 : decode cX8_isFive 32 = .ok (.iconst 1, 1) := by decide +kernel
theorem dX8_isFive_33 : decode cX8_isFive 33 = .ok (.goto 4, 3) := by decide +kernel
theorem dX8_isFive_36 : decode cX8_isFive 36 = .ok (.iconst 0, 1) := by decide +kernel
theorem dX8_isFive_37 : decode cX8_isFive 37 = .ok (.ireturn, 1) := by decide +kernel
theorem dX8_isSix_0 : decode cX8_isSix 0 = .ok (.aload_n 0, 1) := by decide +kernel
theorem dX8_isSix_1 : decode cX8_isSix 1 = .ok (.bipush 6, 2) := by decide +kernel
theorem dX8_isSix_3 : decode cX8_isSix 3 = .ok (.invokevirtual 236, 3) := by decide +kernel
theorem dX8_isSix_6 : decode cX8_isSix 6 = .ok (.ifCond .eq 32, 3) := by decide +kernel
theorem dX8_isSix_9 : decode cX8_isSix 9 = .ok (.aload_n 0, 1) := by decide +kernel
theorem dX8_isSix_10 : decode cX8_isSix 10 = .ok (.iconst 0, 1) := by decide +kernel
theorem dX8_isSix_11 : decode cX8_isSix 11 = .ok (.iload_n 1, 1) := by decide +kernel
theorem dX8_isSix_12 : decode cX8_isSix 12 = .ok (.iload_n 2, 1) := by decide +kernel
theorem dX8_isSix_13 : decode cX8_isSix 13 = .ok (.iload_n 3, 1) := by decide +kernel
theorem dX8_isSix_14 : decode cX8_isSix 14 = .ok (.invokevirtual 239, 3) := by decide +kernel
theorem dX8_isSix_17 : decode cX8_isSix 17 = .ok (.ifCond .eq 21, 3) := by decide +kernel
theorem dX8_isSix_20 : decode cX8_isSix 20 = .ok (.aload_n 0, 1) := by decide +kernel
theorem dX8_isSix_21 : decode cX8_isSix 21 = .ok (.iconst 3, 1) := by decide +kernel
theorem dX8_isSix_22 : decode cX8_isSix 22 = .ok (.iload 4, 2) := by decide +kernel
theorem dX8_isSix_24 : decode cX8_isSix 24 = .ok (.iload 5, 2) := by decide +kernel
theorem dX8_isSix_26 : decode cX8_isSix 26 = .ok (.iload 6, 2) := by decide +kernel
theorem dX8_isSix_28 : decode cX8_isSix 28 = .ok (.invokevirtual 239, 3) := by decide +kernel
theorem dX8_isSix_31 : decode cX8_isSix 31 = .ok (.ifCond .eq 7, 3) := by decide +kernel
theorem dX8_isSix_34 : decode cX8_isSix 34 = .ok (.iconst 1, 1) := by decide +kernel
theorem dX8_isSix_35 : decode cX8_isSix 35 = .ok (.goto 4, 3) := by decide +kernel
theorem dX8_isSix_38 : decode cX8_isSix 38 = .ok (.iconst 0, 1) := by decide +kernel
theorem dX8_isSix_39 : decode cX8_isSix 39 = .ok (.ireturn, 1) := by decide +kernel
theorem dX8_isNumber_0 : decode cX8_isNumber 0 = .ok (.aload_n 0, 1) := by decide +kernel
theorem dX8_isNumber_1 : decode cX8_isNumber 1 = .ok (.getfield 227, 3) := by decide +kernel
theorem dX8_isNumber_4 : decode cX8_isNumber 4 = .ok (.iconst 2, 1) := by decide +kernel
theorem dX8_isNumber_5 : decode cX8_isNumber 5 = .ok (.if_icmp .ne 18, 3) := by decide +kernel
theorem dX8_isNumber_8 : decode cX8_isNumber 8 = .ok (.aload_n 0, 1) := by decide +kernel
theorem dX8_isNumber_9 : decode cX8_isNumber 9 = .ok (.getfield 230, 3) := by decide +kernel
theorem dX8_isNumber_12 : decode cX8_isNumber 12 = .ok (.i2l, 1) := by decide +kernel
theorem dX8_isNumber_13 : decode cX8_isNumber 13 = .ok (.iload_n 1, 1) := by decide +kernel
theorem dX8_isNumber_14 : decode cX8_isNumber 14 = .ok (.i2l, 1) := by decide +kernel
theorem dX8_isNumber_15 : decode cX8_isNumber 15 = .ok (.iload_n 2, 1) := by decide +kernel
theorem dX8_isNumber_16 : decode cX8_isNumber 16 = .ok (.i2l, 1) := by decide +kernel
theorem dX8_isNumber_17 : decode cX8_isNumber 17 = .ok (.invokestatic 49, 3) := by decide +kernel
theorem dX8_isNumber_20 : decode cX8_isNumber 20 = .ok (.ifCond .ne 10, 3) := by decide +kernel
theorem dX8_isNumber_23 : decode cX8_isNumber 23 = .ok (.aload_n 0, 1) := by decide +kernel
theorem dX8_isNumber_24 : decode cX8_isNumber 24 = .ok (.invokevirtual 243, 3) := by decide +kernel
theorem dX8_isNumber_27 : decode cX8_isNumber 27 = .ok (.ifCond .eq 7, 3) := by decide +kernel
theorem dX8_isNumber_30 : decode cX8_isNumber 30 = .ok (.iconst 1, 1) := by decide +kernel
theorem dX8_isNumber_31 : decode cX8_isNumber 31 = .ok (.goto 4, 3) := by decide +kernel
theorem dX8_isNumber_34 : decode cX8_isNumber 34 = .ok (.iconst 0, 1) := by decide +kernel
theorem dX8_isNumber_35 : decode cX8_isNumber 35 = .ok (.ireturn, 1) := by decide +kernel
theorem dX8_kindHere_0 : decode cX8_kindHere 0 = .ok (.aload_n 0, 1) := by decide +kernel
theorem dX8_kindHere_1 : decode cX8_kindHere 1 = .ok (.bipush 8, 2) := by decide +kernel
theorem dX8_kindHere_3 : decode cX8_kindHere 3 = .ok (.invokevirtual 236, 3) := by decide +kernel
theorem dX8_kindHere_6 : decode cX8_kindHere 6 = .ok (.ifCond .eq 47, 3) := by decide +kernel
theorem dX8_kindHere_9 : decode cX8_kindHere 9 = .ok (.aload_n 0, 1) := by decide +kernel
theorem dX8_kindHere_10 : decode cX8_kindHere 10 = .ok (.iconst 0, 1) := by decide +kernel
theorem dX8_kindHere_11 : decode cX8_kindHere 11 = .ok (.bipush 117, 2) := by decide +kernel
theorem dX8_kindHere_13 : decode cX8_kindHere 13 = .ok (.bipush 109, 2) := by decide +kernel
theorem dX8_kindHere_15 : decode cX8_kindHere 15 = .ok (.bipush 98, 2) := by decide +kernel
theorem dX8_kindHere_17 : decode cX8_kindHere 17 = .ok (.invokevirtual 239, 3) := by decide +kernel
theorem dX8_kindHere_20 : decode cX8_kindHere 20 = .ok (.ifCond .eq 33, 3) := by decide +kernel
theorem dX8_kindHere_23 : decode cX8_kindHere 23 = .ok (.aload_n 0, 1) := by decide +kernel
theorem dX8_kindHere_24 : decode cX8_kindHere 24 = .ok (.iconst 3, 1) := by decide +kernel
theorem dX8_kindHere_25 : decode cX8_kindHere 25 = .ok (.bipush 114, 2) := by decide +kernel
theorem dX8_kindHere_27 : decode cX8_kindHere 27 = .ok (.bipush 101, 2) := by decide +kernel
theorem dX8_kindHere_29 : decode cX8_kindHere 29 = .ok (.bipush 108, 2) := by decide +kernel
theorem dX8_kindHere_31 : decode cX8_kindHere 31 = .ok (.invokevirtual 239, 3) := by decide +kernel
theorem dX8_kindHere_34 : decode cX8_kindHere 34 = .ok (.ifCond .eq 19, 3) := by decide +kernel
theorem dX8_kindHere_37 : decode cX8_kindHere 37 = .ok (.aload_n 0, 1) := by decide +kernel
theorem dX8_kindHere_38 : decode cX8_kindHere 38 = .ok (.iconst 5, 1) := by decide +kernel
theorem dX8_kindHere_39 : decode cX8_kindHere 39 = .ok (.bipush 108, 2) := by decide +kernel
theorem dX8_kindHere_41 : decode cX8_kindHere 41 = .ok (.bipush 108, 2) := by decide +kernel
theorem dX8_kindHere_43 : decode cX8_kindHere 43 = .ok (.bipush 97, 2) := by decide +kernel
theorem dX8_kindHere_45 : decode cX8_kindHere 45 = .ok (.invokevirtual 239, 3) := by decide +kernel
theorem dX8_kindHere_48 : decode cX8_kindHere 48 = .ok (.ifCond .eq 5, 3) := by decide +kernel
theorem dX8_kindHere_51 : decode cX8_kindHere 51 = .ok (.iconst 0, 1) := by decide +kernel
theorem dX8_kindHere_52 : decode cX8_kindHere 52 = .ok (.ireturn, 1) := by decide +kernel
theorem dX8_kindHere_53 : decode cX8_kindHere 53 = .ok (.aload_n 0, 1) := by decide +kernel
theorem dX8_kindHere_54 : decode cX8_kindHere 54 = .ok (.iconst 3, 1) := by decide +kernel
theorem dX8_kindHere_55 : decode cX8_kindHere 55 = .ok (.invokevirtual 236, 3) := by decide +kernel
theorem dX8_kindHere_58 : decode cX8_kindHere 58 = .ok (.ifCond .eq 19, 3) := by decide +kernel
theorem dX8_kindHere_61 : decode cX8_kindHere 61 = .ok (.aload_n 0, 1) := by decide +kernel
theorem dX8_kindHere_62 : decode cX8_kindHere 62 = .ok (.iconst 0, 1) := by decide +kernel
theorem dX8_kindHere_63 : decode cX8_kindHere 63 = .ok (.bipush 98, 2) := by decide +kernel
theorem dX8_kindHere_65 : decode cX8_kindHere 65 = .ok (.bipush 105, 2) := by decide +kernel
theorem dX8_kindHere_67 : decode cX8_kindHere 67 = .ok (.bipush 103, 2) := by decide +kernel
theorem dX8_kindHere_69 : decode cX8_kindHere 69 = .ok (.invokevirtual 239, 3) := by decide +kernel
theorem dX8_kindHere_72 : decode cX8_kindHere 72 = .ok (.ifCond .eq 5, 3) := by decide +kernel
theorem dX8_kindHere_75 : decode cX8_kindHere 75 = .ok (.iconst 1, 1) := by decide +kernel
theorem dX8_kindHere_76 : decode cX8_kindHere 76 = .ok (.ireturn, 1) := by decide +kernel
theorem dX8_kindHere_77 : decode cX8_kindHere 77 = .ok (.aload_n 0, 1) := by decide +kernel
theorem dX8_kindHere_78 : decode cX8_kindHere 78 = .ok (.bipush 115, 2) := by decide +kernel
theorem dX8_kindHere_80 : decode cX8_kindHere 80 = .ok (.bipush 109, 2) := by decide +kernel
theorem dX8_kindHere_82 : decode cX8_kindHere 82 = .ok (.bipush 97, 2) := by decide +kernel
theorem dX8_kindHere_84 : decode cX8_kindHere 84 = .ok (.bipush 108, 2) := by decide +kernel
theorem dX8_kindHere_86 : decode cX8_kindHere 86 = .ok (.bipush 108, 2) := by decide +kernel
theorem dX8_kindHere_88 : decode cX8_kindHere 88 = .ok (.invokevirtual 247, 3) := by decide +kernel
theorem dX8_kindHere_91 : decode cX8_kindHere 91 = .ok (.ifCond .eq 5, 3) := by decide +kernel
theorem dX8_kindHere_94 : decode cX8_kindHere 94 = .ok (.iconst 2, 1) := by decide +kernel
theorem dX8_kindHere_95 : decode cX8_kindHere 95 = .ok (.ireturn, 1) := by decide +kernel
theorem dX8_kindHere_96 : decode cX8_kindHere 96 = .ok (.aload_n 0, 1) := by decide +kernel
theorem dX8_kindHere_97 : decode cX8_kindHere 97 = .ok (.bipush 98, 2) := by decide +kernel
theorem dX8_kindHere_99 : decode cX8_kindHere 99 = .ok (.bipush 101, 2) := by decide +kernel
theorem dX8_kindHere_101 : decode cX8_kindHere 101 = .ok (.bipush 110, 2) := by decide +kernel
theorem dX8_kindHere_103 : decode cX8_kindHere 103 = .ok (.bipush 116, 2) := by decide +kernel
theorem dX8_kindHere_105 : decode cX8_kindHere 105 = .ok (.invokevirtual 251, 3) := by decide +kernel
theorem dX8_kindHere_108 : decode cX8_kindHere 108 = .ok (.ifCond .eq 5, 3) := by decide +kernel
theorem dX8_kindHere_111 : decode cX8_kindHere 111 = .ok (.iconst 3, 1) := by decide +kernel
theorem dX8_kindHere_112 : decode cX8_kindHere 112 = .ok (.ireturn, 1) := by decide +kernel
theorem dX8_kindHere_113 : decode cX8_kindHere 113 = .ok (.aload_n 0, 1) := by decide +kernel
theorem dX8_kindHere_114 : decode cX8_kindHere 114 = .ok (.bipush 98, 2) := by decide +kernel
theorem dX8_kindHere_116 : decode cX8_kindHere 116 = .ok (.bipush 105, 2) := by decide +kernel
theorem dX8_kindHere_118 : decode cX8_kindHere 118 = .ok (.bipush 110, 2) := by decide +kernel
theorem dX8_kindHere_120 : decode cX8_kindHere 120 = .ok (.bipush 110, 2) := by decide +kernel
theorem dX8_kindHere_122 : decode cX8_kindHere 122 = .ok (.bipush 101, 2) := by decide +kernel
theorem dX8_kindHere_124 : decode cX8_kindHere 124 = .ok (.bipush 100, 2) := by decide +kernel
theorem dX8_kindHere_126 : decode cX8_kindHere 126 = .ok (.invokevirtual 254, 3) := by decide +kernel
theorem dX8_kindHere_129 : decode cX8_kindHere 129 = .ok (.ifCond .eq 5, 3) := by decide +kernel
theorem dX8_kindHere_132 : decode cX8_kindHere 132 = .ok (.iconst 4, 1) := by decide +kernel
theorem dX8_kindHere_133 : decode cX8_kindHere 133 = .ok (.ireturn, 1) := by decide +kernel
theorem dX8_kindHere_134 : decode cX8_kindHere 134 = .ok (.aload_n 0, 1) := by decide +kernel
theorem dX8_kindHere_135 : decode cX8_kindHere 135 = .ok (.bipush 112, 2) := by decide +kernel
theorem dX8_kindHere_137 : decode cX8_kindHere 137 = .ok (.bipush 97, 2) := by decide +kernel
theorem dX8_kindHere_139 : decode cX8_kindHere 139 = .ok (.bipush 112, 2) := by decide +kernel
theorem dX8_kindHere_141 : decode cX8_kindHere 141 = .ok (.bipush 101, 2) := by decide +kernel
theorem dX8_kindHere_143 : decode cX8_kindHere 143 = .ok (.bipush 114, 2) := by decide +kernel
theorem dX8_kindHere_145 : decode cX8_kindHere 145 = .ok (.invokevirtual 247, 3) := by decide +kernel
theorem dX8_kindHere_148 : decode cX8_kindHere 148 = .ok (.ifCond .eq 5, 3) := by decide +kernel
theorem dX8_kindHere_151 : decode cX8_kindHere 151 = .ok (.iconst 5, 1) := by decide +kernel
theorem dX8_kindHere_152 : decode cX8_kindHere 152 = .ok (.ireturn, 1) := by decide +kernel
theorem dX8_kindHere_153 : decode cX8_kindHere 153 = .ok (.aload_n 0, 1) := by decide +kernel
theorem dX8_kindHere_154 : decode cX8_kindHere 154 = .ok (.bipush 103, 2) := by decide +kernel
theorem dX8_kindHere_156 : decode cX8_kindHere 156 = .ok (.bipush 111, 2) := by decide +kernel
theorem dX8_kindHere_158 : decode cX8_kindHere 158 = .ok (.bipush 108, 2) := by decide +kernel
theorem dX8_kindHere_160 : decode cX8_kindHere 160 = .ok (.bipush 102, 2) := by decide +kernel
theorem dX8_kindHere_162 : decode cX8_kindHere 162 = .ok (.invokevirtual 251, 3) := by decide +kernel
theorem dX8_kindHere_165 : decode cX8_kindHere 165 = .ok (.ifCond .eq 8, 3) := by decide +kernel
theorem dX8_kindHere_168 : decode cX8_kindHere 168 = .ok (.bipush 6, 2) := by decide +kernel
theorem dX8_kindHere_170 : decode cX8_kindHere 170 = .ok (.goto 4, 3) := by decide +kernel
theorem dX8_kindHere_173 : decode cX8_kindHere 173 = .ok (.iconst (-1), 1) := by decide +kernel
theorem dX8_kindHere_174 : decode cX8_kindHere 174 = .ok (.ireturn, 1) := by decide +kernel
theorem dX8_isTwo_0 : decode cX8_isTwo 0 = .ok (.aload_n 0, 1) := by decide +kernel
theorem dX8_isTwo_1 : decode cX8_isTwo 1 = .ok (.iconst 2, 1) := by decide +kernel
theorem dX8_isTwo_2 : decode cX8_isTwo 2 = .ok (.invokevirtual 236, 3) := by decide +kernel
theorem dX8_isTwo_5 : decode cX8_isTwo 5 = .ok (.ifCond .eq 33, 3) := by decide +kernel
theorem dX8_isTwo_8 : decode cX8_isTwo 8 = .ok (.aload_n 0, 1) := by decide +kernel
theorem dX8_isTwo_9 : decode cX8_isTwo 9 = .ok (.aload_n 0, 1) := by decide +kernel
theorem dX8_isTwo_10 : decode cX8_isTwo 10 = .ok (.getfield 215, 3) := by decide +kernel
theorem dX8_isTwo_13 : decode cX8_isTwo 13 = .ok (.invokevirtual 218, 3) := by decide +kernel
theorem dX8_isTwo_16 : decode cX8_isTwo 16 = .ok (.iload_n 1, 1) := by decide +kernel
theorem dX8_isTwo_17 : decode cX8_isTwo 17 = .ok (.if_icmp .ne 21, 3) := by decide +kernel
theorem dX8_isTwo_20 : decode cX8_isTwo 20 = .ok (.aload_n 0, 1) := by decide +kernel
theorem dX8_isTwo_21 : decode cX8_isTwo 21 = .ok (.aload_n 0, 1) := by decide +kernel
theorem dX8_isTwo_22 : decode cX8_isTwo 22 = .ok (.getfield 215, 3) := by decide +kernel
theorem dX8_isTwo_25 : decode cX8_isTwo 25 = .ok (.iconst 1, 1) := by decide +kernel
theorem dX8_isTwo_26 : decode cX8_isTwo 26 = .ok (.iadd, 1) := by decide +kernel
theorem dX8_isTwo_27 : decode cX8_isTwo 27 = .ok (.invokevirtual 218, 3) := by decide +kernel
theorem dX8_isTwo_30 : decode cX8_isTwo 30 = .ok (.iload_n 2, 1) := by decide +kernel
theorem dX8_isTwo_31 : decode cX8_isTwo 31 = .ok (.if_icmp .ne 7, 3) := by decide +kernel
theorem dX8_isTwo_34 : decode cX8_isTwo 34 = .ok (.iconst 1, 1) := by decide +kernel
theorem dX8_isTwo_35 : decode cX8_isTwo 35 = .ok (.goto 4, 3) := by decide +kernel
theorem dX8_isTwo_38 : decode cX8_isTwo 38 = .ok (.iconst 0, 1) := by decide +kernel
theorem dX8_isTwo_39 : decode cX8_isTwo 39 = .ok (.ireturn, 1) := by decide +kernel
theorem dX8_perhaps_0 : decode cX8_perhaps 0 = .ok (.iload_n 1, 1) := by decide +kernel
theorem dX8_perhaps_1 : decode cX8_perhaps 1 = .ok (.ifCond .ne 5, 3) := by decide +kernel
theorem dX8_perhaps_4 : decode cX8_perhaps 4 = .ok (.iconst 1, 1) := by decide +kernel
theorem dX8_perhaps_5 : decode cX8_perhaps 5 = .ok (.ireturn, 1) := by decide +kernel
theorem dX8_perhaps_6 : decode cX8_perhaps 6 = .ok (.aload_n 0, 1) := by decide +kernel
theorem dX8_perhaps_7 : decode cX8_perhaps 7 = .ok (.invokevirtual 258, 3) := by decide +kernel
theorem dX8_perhaps_10 : decode cX8_perhaps 10 = .ok (.aload_n 0, 1) := by decide +kernel
theorem dX8_perhaps_11 : decode cX8_perhaps 11 = .ok (.iconst 0, 1) := by decide +kernel
theorem dX8_perhaps_12 : decode cX8_perhaps 12 = .ok (.iload_n 2, 1) := by decide +kernel
theorem dX8_perhaps_13 : decode cX8_perhaps 13 = .ok (.invokestatic 103, 3) := by decide +kernel
theorem dX8_perhaps_16 : decode cX8_perhaps 16 = .ok (.invokevirtual 261, 3) := by decide +kernel
theorem dX8_perhaps_19 : decode cX8_perhaps 19 = .ok (.ifCond .ne 5, 3) := by decide +kernel
theorem dX8_perhaps_22 : decode cX8_perhaps 22 = .ok (.iconst 0, 1) := by decide +kernel
theorem dX8_perhaps_23 : decode cX8_perhaps 23 = .ok (.ireturn, 1) := by decide +kernel
theorem dX8_perhaps_24 : decode cX8_perhaps 24 = .ok (.aload_n 0, 1) := by decide +kernel
theorem dX8_perhaps_25 : decode cX8_perhaps 25 = .ok (.getfield 7, 3) := by decide +kernel
theorem dX8_perhaps_28 : decode cX8_perhaps 28 = .ok (.aload_n 0, 1) := by decide +kernel
theorem dX8_perhaps_29 : decode cX8_perhaps 29 = .ok (.getfield 7, 3) := by decide +kernel
theorem dX8_perhaps_32 : decode cX8_perhaps 32 = .ok (.iconst 0, 1) := by decide +kernel
theorem dX8_perhaps_33 : decode cX8_perhaps 33 = .ok (.iaload, 1) := by decide +kernel
theorem dX8_perhaps_34 : decode cX8_perhaps 34 = .ok (.iconst 1, 1) := by decide +kernel
theorem dX8_perhaps_35 : decode cX8_perhaps 35 = .ok (.isub, 1) := by decide +kernel
theorem dX8_perhaps_36 : decode cX8_perhaps 36 = .ok (.iload_n 2, 1) := by decide +kernel
theorem dX8_perhaps_37 : decode cX8_perhaps 37 = .ok (.invokestatic 70, 3) := by decide +kernel
theorem dX8_perhaps_40 : decode cX8_perhaps 40 = .ok (.aload_n 0, 1) := by decide +kernel
theorem dX8_perhaps_41 : decode cX8_perhaps 41 = .ok (.getfield 230, 3) := by decide +kernel
theorem dX8_perhaps_44 : decode cX8_perhaps 44 = .ok (.iastore, 1) := by decide +kernel
theorem dX8_perhaps_45 : decode cX8_perhaps 45 = .ok (.aload_n 0, 1) := by decide +kernel
theorem dX8_perhaps_46 : decode cX8_perhaps 46 = .ok (.invokevirtual 258, 3) := by decide +kernel
theorem dX8_perhaps_49 : decode cX8_perhaps 49 = .ok (.iconst 1, 1) := by decide +kernel
theorem dX8_perhaps_50 : decode cX8_perhaps 50 = .ok (.ireturn, 1) := by decide +kernel
theorem dX8_umbrellaHere_0 : decode cX8_umbrellaHere 0 = .ok (.aload_n 0, 1) := by decide +kernel
theorem dX8_umbrellaHere_1 : decode cX8_umbrellaHere 1 = .ok (.getfield 7, 3) := by decide +kernel
theorem dX8_umbrellaHere_4 : decode cX8_umbrellaHere 4 = .ok (.iconst 0, 1) := by decide +kernel
theorem dX8_umbrellaHere_5 : decode cX8_umbrellaHere 5 = .ok (.iaload, 1) := by decide +kernel
theorem dX8_umbrellaHere_6 : decode cX8_umbrellaHere 6 = .ok (.bipush 8, 2) := by decide +kernel
theorem dX8_umbrellaHere_8 : decode cX8_umbrellaHere 8 = .ok (.if_icmp .ne 8, 3) := by decide +kernel
theorem dX8_umbrellaHere_11 : decode cX8_umbrellaHere 11 = .ok (.aload_n 0, 1) := by decide +kernel
theorem dX8_umbrellaHere_12 : decode cX8_umbrellaHere 12 = .ok (.invokevirtual 243, 3) := by decide +kernel
theorem dX8_umbrellaHere_15 : decode cX8_umbrellaHere 15 = .ok (.ireturn, 1) := by decide +kernel
theorem dX8_umbrellaHere_16 : decode cX8_umbrellaHere 16 = .ok (.aload_n 0, 1) := by decide +kernel
theorem dX8_umbrellaHere_17 : decode cX8_umbrellaHere 17 = .ok (.iload_n 1, 1) := by decide +kernel
theorem dX8_umbrellaHere_18 : decode cX8_umbrellaHere 18 = .ok (.invokevirtual 76, 3) := by decide +kernel
theorem dX8_umbrellaHere_21 : decode cX8_umbrellaHere 21 = .ok (.aload_n 0, 1) := by decide +kernel
theorem dX8_umbrellaHere_22 : decode cX8_umbrellaHere 22 = .ok (.invokevirtual 258, 3) := by decide +kernel
theorem dX8_umbrellaHere_25 : decode cX8_umbrellaHere 25 = .ok (.aload_n 0, 1) := by decide +kernel
theorem dX8_umbrellaHere_26 : decode cX8_umbrellaHere 26 = .ok (.aload_n 0, 1) := by decide +kernel
theorem dX8_umbrellaHere_27 : decode cX8_umbrellaHere 27 = .ok (.bipush 97, 2) := by decide +kernel
theorem dX8_umbrellaHere_29 : decode cX8_umbrellaHere 29 = .ok (.bipush 116, 2) := by decide +kernel
theorem dX8_umbrellaHere_31 : decode cX8_umbrellaHere 31 = .ok (.invokevirtual 264, 3) := by decide +kernel
theorem dX8_umbrellaHere_34 : decode cX8_umbrellaHere 34 = .ok (.iconst 1, 1) := by decide +kernel
theorem dX8_umbrellaHere_35 : decode cX8_umbrellaHere 35 = .ok (.invokevirtual 267, 3) := by decide +kernel
theorem dX8_umbrellaHere_38 : decode cX8_umbrellaHere 38 = .ok (.ifCond .eq 69, 3) := by decide +kernel
theorem dX8_umbrellaHere_41 : decode cX8_umbrellaHere 41 = .ok (.aload_n 0, 1) := by decide +kernel
theorem dX8_umbrellaHere_42 : decode cX8_umbrellaHere 42 = .ok (.aload_n 0, 1) := by decide +kernel
theorem dX8_umbrellaHere_43 : decode cX8_umbrellaHere 43 = .ok (.bipush 114, 2) := by decide +kernel
theorem dX8_umbrellaHere_45 : decode cX8_umbrellaHere 45 = .ok (.bipush 105, 2) := by decide +kernel
theorem dX8_umbrellaHere_47 : decode cX8_umbrellaHere 47 = .ok (.bipush 98, 2) := by decide +kernel
theorem dX8_umbrellaHere_49 : decode cX8_umbrellaHere 49 = .ok (.bipush 115, 2) := by decide +kernel
theorem dX8_umbrellaHere_51 : decode cX8_umbrellaHere 51 = .ok (.invokevirtual 251, 3) := by decide +kernel
theorem dX8_umbrellaHere_54 : decode cX8_umbrellaHere 54 = .ok (.iconst 4, 1) := by decide +kernel
theorem dX8_umbrellaHere_55 : decode cX8_umbrellaHere 55 = .ok (.invokevirtual 267, 3) := by decide +kernel
theorem dX8_umbrellaHere_58 : decode cX8_umbrellaHere 58 = .ok (.ifCond .eq 49, 3) := by decide +kernel
theorem dX8_umbrellaHere_61 : decode cX8_umbrellaHere 61 = .ok (.aload_n 0, 1) := by decide +kernel
theorem dX8_umbrellaHere_62 : decode cX8_umbrellaHere 62 = .ok (.aload_n 0, 1) := by decide +kernel
theorem dX8_umbrellaHere_63 : decode cX8_umbrellaHere 63 = .ok (.bipush 104, 2) := by decide +kernel
theorem dX8_umbrellaHere_65 : decode cX8_umbrellaHere 65 = .ok (.bipush 101, 2) := by decide +kernel
theorem dX8_umbrellaHere_67 : decode cX8_umbrellaHere 67 = .ok (.bipush 108, 2) := by decide +kernel
theorem dX8_umbrellaHere_69 : decode cX8_umbrellaHere 69 = .ok (.bipush 100, 2) := by decide +kernel
theorem dX8_umbrellaHere_71 : decode cX8_umbrellaHere 71 = .ok (.invokevirtual 251, 3) := by decide +kernel
theorem dX8_umbrellaHere_74 : decode cX8_umbrellaHere 74 = .ok (.iconst 2, 1) := by decide +kernel
theorem dX8_umbrellaHere_75 : decode cX8_umbrellaHere 75 = .ok (.invokevirtual 267, 3) := by decide +kernel
theorem dX8_umbrellaHere_78 : decode cX8_umbrellaHere 78 = .ok (.ifCond .eq 29, 3) := by decide +kernel
theorem dX8_umbrellaHere_81 : decode cX8_umbrellaHere 81 = .ok (.aload_n 0, 1) := by decide +kernel
theorem dX8_umbrellaHere_82 : decode cX8_umbrellaHere 82 = .ok (.aload_n 0, 1) := by decide +kernel
theorem dX8_umbrellaHere_83 : decode cX8_umbrellaHere 83 = .ok (.bipush 104, 2) := by decide +kernel
theorem dX8_umbrellaHere_85 : decode cX8_umbrellaHere 85 = .ok (.bipush 97, 2) := by decide +kernel
theorem dX8_umbrellaHere_87 : decode cX8_umbrellaHere 87 = .ok (.bipush 98, 2) := by decide +kernel
theorem dX8_umbrellaHere_89 : decode cX8_umbrellaHere 89 = .ok (.bipush 105, 2) := by decide +kernel
theorem dX8_umbrellaHere_91 : decode cX8_umbrellaHere 91 = .ok (.bipush 116, 2) := by decide +kernel
theorem dX8_umbrellaHere_93 : decode cX8_umbrellaHere 93 = .ok (.invokevirtual 247, 3) := by decide +kernel
theorem dX8_umbrellaHere_96 : decode cX8_umbrellaHere 96 = .ok (.iconst 3, 1) := by decide +kernel
theorem dX8_umbrellaHere_97 : decode cX8_umbrellaHere 97 = .ok (.invokevirtual 267, 3) := by decide +kernel
theorem dX8_umbrellaHere_100 : decode cX8_umbrellaHere 100 = .ok (.ifCond .eq 7, 3) := by decide +kernel
theorem dX8_umbrellaHere_103 : decode cX8_umbrellaHere 103 = .ok (.iconst 1, 1) := by decide +kernel
theorem dX8_umbrellaHere_104 : decode cX8_umbrellaHere 104 = .ok (.goto 4, 3) := by decide +kernel
theorem dX8_umbrellaHere_107 : decode cX8_umbrellaHere 107 = .ok (.iconst 0, 1) := by decide +kernel
theorem dX8_umbrellaHere_108 : decode cX8_umbrellaHere 108 = .ok (.ireturn, 1) := by decide +kernel
theorem dX8_stepHere_0 : decode cX8_stepHere 0 = .ok (.aload_n 0, 1) := by decide +kernel
theorem dX8_stepHere_1 : decode cX8_stepHere 1 = .ok (.invokevirtual 258, 3) := by decide +kernel
theorem dX8_stepHere_4 : decode cX8_stepHere 4 = .ok (.aload_n 0, 1) := by decide +kernel
theorem dX8_stepHere_5 : decode cX8_stepHere 5 = .ok (.iconst 0, 1) := by decide +kernel
theorem dX8_stepHere_6 : decode cX8_stepHere 6 = .ok (.bipush 15, 2) := by decide +kernel
theorem dX8_stepHere_8 : decode cX8_stepHere 8 = .ok (.invokevirtual 261, 3) := by decide +kernel
theorem dX8_stepHere_11 : decode cX8_stepHere 11 = .ok (.ifCond .ne 5, 3) := by decide +kernel
theorem dX8_stepHere_14 : decode cX8_stepHere 14 = .ok (.iconst 0, 1) := by decide +kernel
theorem dX8_stepHere_15 : decode cX8_stepHere 15 = .ok (.ireturn, 1) := by decide +kernel
theorem dX8_stepHere_16 : decode cX8_stepHere 16 = .ok (.aload_n 0, 1) := by decide +kernel
theorem dX8_stepHere_17 : decode cX8_stepHere 17 = .ok (.getfield 230, 3) := by decide +kernel
theorem dX8_stepHere_20 : decode cX8_stepHere 20 = .ok (.istore_n 2, 1) := by decide +kernel
theorem dX8_stepHere_21 : decode cX8_stepHere 21 = .ok (.aload_n 0, 1) := by decide +kernel
theorem dX8_stepHere_22 : decode cX8_stepHere 22 = .ok (.invokevirtual 258, 3) := by decide +kernel
theorem dX8_stepHere_25 : decode cX8_stepHere 25 = .ok (.aload_n 0, 1) := by decide +kernel
theorem dX8_stepHere_26 : decode cX8_stepHere 26 = .ok (.iconst 0, 1) := by decide +kernel
theorem dX8_stepHere_27 : decode cX8_stepHere 27 = .ok (.bipush 99, 2) := by decide +kernel
theorem dX8_stepHere_29 : decode cX8_stepHere 29 = .ok (.invokevirtual 261, 3) := by decide +kernel
theorem dX8_stepHere_32 : decode cX8_stepHere 32 = .ok (.ifCond .ne 5, 3) := by decide +kernel
theorem dX8_stepHere_35 : decode cX8_stepHere 35 = .ok (.iconst 0, 1) := by decide +kernel
theorem dX8_stepHere_36 : decode cX8_stepHere 36 = .ok (.ireturn, 1) := by decide +kernel
theorem dX8_stepHere_37 : decode cX8_stepHere 37 = .ok (.aload_n 0, 1) := by decide +kernel
theorem dX8_stepHere_38 : decode cX8_stepHere 38 = .ok (.getfield 7, 3) := by decide +kernel
theorem dX8_stepHere_41 : decode cX8_stepHere 41 = .ok (.iconst 5, 1) := by decide +kernel
theorem dX8_stepHere_42 : decode cX8_stepHere 42 = .ok (.iload_n 2, 1) := by decide +kernel
theorem dX8_stepHere_43 : decode cX8_stepHere 43 = .ok (.iadd, 1) := by decide +kernel
theorem dX8_stepHere_44 : decode cX8_stepHere 44 = .ok (.iload_n 1, 1) := by decide +kernel
theorem dX8_stepHere_45 : decode cX8_stepHere 45 = .ok (.iastore, 1) := by decide +kernel
theorem dX8_stepHere_46 : decode cX8_stepHere 46 = .ok (.aload_n 0, 1) := by decide +kernel
theorem dX8_stepHere_47 : decode cX8_stepHere 47 = .ok (.getfield 7, 3) := by decide +kernel
theorem dX8_stepHere_50 : decode cX8_stepHere 50 = .ok (.bipush 21, 2) := by decide +kernel
theorem dX8_stepHere_52 : decode cX8_stepHere 52 = .ok (.iload_n 2, 1) := by decide +kernel
theorem dX8_stepHere_53 : decode cX8_stepHere 53 = .ok (.iadd, 1) := by decide +kernel
theorem dX8_stepHere_54 : decode cX8_stepHere 54 = .ok (.aload_n 0, 1) := by decide +kernel
theorem dX8_stepHere_55 : decode cX8_stepHere 55 = .ok (.getfield 230, 3) := by decide +kernel
theorem dX8_stepHere_58 : decode cX8_stepHere 58 = .ok (.iastore, 1) := by decide +kernel
theorem dX8_stepHere_59 : decode cX8_stepHere 59 = .ok (.aload_n 0, 1) := by decide +kernel
theorem dX8_stepHere_60 : decode cX8_stepHere 60 = .ok (.invokevirtual 258, 3) := by decide +kernel
theorem dX8_stepHere_63 : decode cX8_stepHere 63 = .ok (.iconst 1, 1) := by decide +kernel
theorem dX8_stepHere_64 : decode cX8_stepHere 64 = .ok (.ireturn, 1) := by decide +kernel
theorem dX8_roofHere_0 : decode cX8_roofHere 0 = .ok (.aload_n 0, 1) := by decide +kernel
theorem dX8_roofHere_1 : decode cX8_roofHere 1 = .ok (.invokevirtual 258, 3) := by decide +kernel
theorem dX8_roofHere_4 : decode cX8_roofHere 4 = .ok (.aload_n 0, 1) := by decide +kernel
theorem dX8_roofHere_5 : decode cX8_roofHere 5 = .ok (.iconst 0, 1) := by decide +kernel
theorem dX8_roofHere_6 : decode cX8_roofHere 6 = .ok (.bipush 15, 2) := by decide +kernel
theorem dX8_roofHere_8 : decode cX8_roofHere 8 = .ok (.invokevirtual 261, 3) := by decide +kernel
theorem dX8_roofHere_11 : decode cX8_roofHere 11 = .ok (.ifCond .ne 5, 3) := by decide +kernel
theorem dX8_roofHere_14 : decode cX8_roofHere 14 = .ok (.iconst 0, 1) := by decide +kernel
theorem dX8_roofHere_15 : decode cX8_roofHere 15 = .ok (.ireturn, 1) := by decide +kernel
theorem dX8_roofHere_16 : decode cX8_roofHere 16 = .ok (.aload_n 0, 1) := by decide +kernel
theorem dX8_roofHere_17 : decode cX8_roofHere 17 = .ok (.getfield 7, 3) := by decide +kernel
theorem dX8_roofHere_20 : decode cX8_roofHere 20 = .ok (.bipush 37, 2) := by decide +kernel
theorem dX8_roofHere_22 : decode cX8_roofHere 22 = .ok (.aload_n 0, 1) := by decide +kernel
theorem dX8_roofHere_23 : decode cX8_roofHere 23 = .ok (.getfield 230, 3) := by decide +kernel
theorem dX8_roofHere_26 : decode cX8_roofHere 26 = .ok (.iadd, 1) := by decide +kernel
theorem dX8_roofHere_27 : decode cX8_roofHere 27 = .ok (.iload_n 1, 1) := by decide +kernel
theorem dX8_roofHere_28 : decode cX8_roofHere 28 = .ok (.iastore, 1) := by decide +kernel
theorem dX8_roofHere_29 : decode cX8_roofHere 29 = .ok (.aload_n 0, 1) := by decide +kernel
theorem dX8_roofHere_30 : decode cX8_roofHere 30 = .ok (.invokevirtual 258, 3) := by decide +kernel
theorem dX8_roofHere_33 : decode cX8_roofHere 33 = .ok (.iconst 1, 1) := by decide +kernel
theorem dX8_roofHere_34 : decode cX8_roofHere 34 = .ok (.ireturn, 1) := by decide +kernel
theorem dX8_weatherHere_0 : decode cX8_weatherHere 0 = .ok (.aload_n 0, 1) := by decide +kernel
theorem dX8_weatherHere_1 : decode cX8_weatherHere 1 = .ok (.invokevirtual 258, 3) := by decide +kernel
theorem dX8_weatherHere_4 : decode cX8_weatherHere 4 = .ok (.aload_n 0, 1) := by decide +kernel
theorem dX8_weatherHere_5 : decode cX8_weatherHere 5 = .ok (.iconst 0, 1) := by decide +kernel
theorem dX8_weatherHere_6 : decode cX8_weatherHere 6 = .ok (.bipush 99, 2) := by decide +kernel
theorem dX8_weatherHere_8 : decode cX8_weatherHere 8 = .ok (.invokevirtual 261, 3) := by decide +kernel
theorem dX8_weatherHere_11 : decode cX8_weatherHere 11 = .ok (.ifCond .ne 5, 3) := by decide +kernel
theorem dX8_weatherHere_14 : decode cX8_weatherHere 14 = .ok (.iconst 0, 1) := by decide +kernel
theorem dX8_weatherHere_15 : decode cX8_weatherHere 15 = .ok (.ireturn, 1) := by decide +kernel
theorem dX8_weatherHere_16 : decode cX8_weatherHere 16 = .ok (.aload_n 0, 1) := by decide +kernel
theorem dX8_weatherHere_17 : decode cX8_weatherHere 17 = .ok (.getfield 7, 3) := by decide +kernel
theorem dX8_weatherHere_20 : decode cX8_weatherHere 20 = .ok (.iconst 3, 1) := by decide +kernel
theorem dX8_weatherHere_21 : decode cX8_weatherHere 21 = .ok (.iload_n 1, 1) := by decide +kernel
theorem dX8_weatherHere_22 : decode cX8_weatherHere 22 = .ok (.iadd, 1) := by decide +kernel
theorem dX8_weatherHere_23 : decode cX8_weatherHere 23 = .ok (.aload_n 0, 1) := by decide +kernel
theorem dX8_weatherHere_24 : decode cX8_weatherHere 24 = .ok (.getfield 230, 3) := by decide +kernel
theorem dX8_weatherHere_27 : decode cX8_weatherHere 27 = .ok (.iastore, 1) := by decide +kernel
theorem dX8_weatherHere_28 : decode cX8_weatherHere 28 = .ok (.aload_n 0, 1) := by decide +kernel
theorem dX8_weatherHere_29 : decode cX8_weatherHere 29 = .ok (.invokevirtual 258, 3) := by decide +kernel
theorem dX8_weatherHere_32 : decode cX8_weatherHere 32 = .ok (.iconst 1, 1) := by decide +kernel
theorem dX8_weatherHere_33 : decode cX8_weatherHere 33 = .ok (.ireturn, 1) := by decide +kernel
theorem dX8_streetHere_0 : decode cX8_streetHere 0 = .ok (.aload_n 0, 1) := by decide +kernel
theorem dX8_streetHere_1 : decode cX8_streetHere 1 = .ok (.bipush 108, 2) := by decide +kernel
theorem dX8_streetHere_3 : decode cX8_streetHere 3 = .ok (.bipush 101, 2) := by decide +kernel
theorem dX8_streetHere_5 : decode cX8_streetHere 5 = .ok (.bipush 102, 2) := by decide +kernel
theorem dX8_streetHere_7 : decode cX8_streetHere 7 = .ok (.bipush 116, 2) := by decide +kernel
theorem dX8_streetHere_9 : decode cX8_streetHere 9 = .ok (.invokevirtual 251, 3) := by decide +kernel
theorem dX8_streetHere_12 : decode cX8_streetHere 12 = .ok (.ifCond .eq 9, 3) := by decide +kernel
theorem dX8_streetHere_15 : decode cX8_streetHere 15 = .ok (.aload_n 0, 1) := by decide +kernel
theorem dX8_streetHere_16 : decode cX8_streetHere 16 = .ok (.iconst 0, 1) := by decide +kernel
theorem dX8_streetHere_17 : decode cX8_streetHere 17 = .ok (.invokevirtual 271, 3) := by decide +kernel
theorem dX8_streetHere_20 : decode cX8_streetHere 20 = .ok (.ireturn, 1) := by decide +kernel
theorem dX8_streetHere_21 : decode cX8_streetHere 21 = .ok (.aload_n 0, 1) := by decide +kernel
theorem dX8_streetHere_22 : decode cX8_streetHere 22 = .ok (.bipush 114, 2) := by decide +kernel
theorem dX8_streetHere_24 : decode cX8_streetHere 24 = .ok (.bipush 105, 2) := by decide +kernel
theorem dX8_streetHere_26 : decode cX8_streetHere 26 = .ok (.bipush 103, 2) := by decide +kernel
theorem dX8_streetHere_28 : decode cX8_streetHere 28 = .ok (.bipush 104, 2) := by decide +kernel
theorem dX8_streetHere_30 : decode cX8_streetHere 30 = .ok (.bipush 116, 2) := by decide +kernel
theorem dX8_streetHere_32 : decode cX8_streetHere 32 = .ok (.invokevirtual 247, 3) := by decide +kernel
theorem dX8_streetHere_35 : decode cX8_streetHere 35 = .ok (.ifCond .eq 9, 3) := by decide +kernel
theorem dX8_streetHere_38 : decode cX8_streetHere 38 = .ok (.aload_n 0, 1) := by decide +kernel
theorem dX8_streetHere_39 : decode cX8_streetHere 39 = .ok (.iconst 1, 1) := by decide +kernel
theorem dX8_streetHere_40 : decode cX8_streetHere 40 = .ok (.invokevirtual 271, 3) := by decide +kernel
theorem dX8_streetHere_43 : decode cX8_streetHere 43 = .ok (.ireturn, 1) := by decide +kernel
theorem dX8_streetHere_44 : decode cX8_streetHere 44 = .ok (.aload_n 0, 1) := by decide +kernel
theorem dX8_streetHere_45 : decode cX8_streetHere 45 = .ok (.bipush 98, 2) := by decide +kernel
theorem dX8_streetHere_47 : decode cX8_streetHere 47 = .ok (.bipush 101, 2) := by decide +kernel
theorem dX8_streetHere_49 : decode cX8_streetHere 49 = .ok (.bipush 108, 2) := by decide +kernel
theorem dX8_streetHere_51 : decode cX8_streetHere 51 = .ok (.bipush 111, 2) := by decide +kernel
theorem dX8_streetHere_53 : decode cX8_streetHere 53 = .ok (.bipush 119, 2) := by decide +kernel
theorem dX8_streetHere_55 : decode cX8_streetHere 55 = .ok (.invokevirtual 247, 3) := by decide +kernel
theorem dX8_streetHere_58 : decode cX8_streetHere 58 = .ok (.ifCond .eq 9, 3) := by decide +kernel
theorem dX8_streetHere_61 : decode cX8_streetHere 61 = .ok (.aload_n 0, 1) := by decide +kernel
theorem dX8_streetHere_62 : decode cX8_streetHere 62 = .ok (.iconst 2, 1) := by decide +kernel
theorem dX8_streetHere_63 : decode cX8_streetHere 63 = .ok (.invokevirtual 271, 3) := by decide +kernel
theorem dX8_streetHere_66 : decode cX8_streetHere 66 = .ok (.ireturn, 1) := by decide +kernel
theorem dX8_streetHere_67 : decode cX8_streetHere 67 = .ok (.aload_n 0, 1) := by decide +kernel
theorem dX8_streetHere_68 : decode cX8_streetHere 68 = .ok (.bipush 114, 2) := by decide +kernel
theorem dX8_streetHere_70 : decode cX8_streetHere 70 = .ok (.bipush 111, 2) := by decide +kernel
theorem dX8_streetHere_72 : decode cX8_streetHere 72 = .ok (.bipush 111, 2) := by decide +kernel
theorem dX8_streetHere_74 : decode cX8_streetHere 74 = .ok (.bipush 102, 2) := by decide +kernel
theorem dX8_streetHere_76 : decode cX8_streetHere 76 = .ok (.invokevirtual 251, 3) := by decide +kernel
theorem dX8_streetHere_79 : decode cX8_streetHere 79 = .ok (.ifCond .eq 9, 3) := by decide +kernel
theorem dX8_streetHere_82 : decode cX8_streetHere 82 = .ok (.aload_n 0, 1) := by decide +kernel
theorem dX8_streetHere_83 : decode cX8_streetHere 83 = .ok (.iconst 1, 1) := by decide +kernel
theorem dX8_streetHere_84 : decode cX8_streetHere 84 = .ok (.invokevirtual 274, 3) := by decide +kernel
theorem dX8_streetHere_87 : decode cX8_streetHere 87 = .ok (.ireturn, 1) := by decide +kernel
theorem dX8_streetHere_88 : decode cX8_streetHere 88 = .ok (.aload_n 0, 1) := by decide +kernel
theorem dX8_streetHere_89 : decode cX8_streetHere 89 = .ok (.bipush 111, 2) := by decide +kernel
theorem dX8_streetHere_91 : decode cX8_streetHere 91 = .ok (.bipush 112, 2) := by decide +kernel
theorem dX8_streetHere_93 : decode cX8_streetHere 93 = .ok (.bipush 101, 2) := by decide +kernel
theorem dX8_streetHere_95 : decode cX8_streetHere 95 = .ok (.bipush 110, 2) := by decide +kernel
theorem dX8_streetHere_97 : decode cX8_streetHere 97 = .ok (.invokevirtual 251, 3) := by decide +kernel
theorem dX8_streetHere_100 : decode cX8_streetHere 100 = .ok (.ifCond .eq 9, 3) := by decide +kernel
theorem dX8_streetHere_103 : decode cX8_streetHere 103 = .ok (.aload_n 0, 1) := by decide +kernel
theorem dX8_streetHere_104 : decode cX8_streetHere 104 = .ok (.iconst 0, 1) := by decide +kernel
theorem dX8_streetHere_105 : decode cX8_streetHere 105 = .ok (.invokevirtual 274, 3) := by decide +kernel
theorem dX8_streetHere_108 : decode cX8_streetHere 108 = .ok (.ireturn, 1) := by decide +kernel
theorem dX8_streetHere_109 : decode cX8_streetHere 109 = .ok (.aload_n 0, 1) := by decide +kernel
theorem dX8_streetHere_110 : decode cX8_streetHere 110 = .ok (.bipush 114, 2) := by decide +kernel
theorem dX8_streetHere_112 : decode cX8_streetHere 112 = .ok (.bipush 97, 2) := by decide +kernel
theorem dX8_streetHere_114 : decode cX8_streetHere 114 = .ok (.bipush 105, 2) := by decide +kernel
theorem dX8_streetHere_116 : decode cX8_streetHere 116 = .ok (.bipush 110, 2) := by decide +kernel
theorem dX8_streetHere_118 : decode cX8_streetHere 118 = .ok (.invokevirtual 251, 3) := by decide +kernel
theorem dX8_streetHere_121 : decode cX8_streetHere 121 = .ok (.ifCond .eq 9, 3) := by decide +kernel
theorem dX8_streetHere_124 : decode cX8_streetHere 124 = .ok (.aload_n 0, 1) := by decide +kernel
theorem dX8_streetHere_125 : decode cX8_streetHere 125 = .ok (.iconst 0, 1) := by decide +kernel
theorem dX8_streetHere_126 : decode cX8_streetHere 126 = .ok (.invokevirtual 277, 3) := by decide +kernel
theorem dX8_streetHere_129 : decode cX8_streetHere 129 = .ok (.ireturn, 1) := by decide +kernel
theorem dX8_streetHere_130 : decode cX8_streetHere 130 = .ok (.aload_n 0, 1) := by decide +kernel
theorem dX8_streetHere_131 : decode cX8_streetHere 131 = .ok (.bipush 103, 2) := by decide +kernel
theorem dX8_streetHere_133 : decode cX8_streetHere 133 = .ok (.bipush 117, 2) := by decide +kernel
theorem dX8_streetHere_135 : decode cX8_streetHere 135 = .ok (.bipush 115, 2) := by decide +kernel
theorem dX8_streetHere_137 : decode cX8_streetHere 137 = .ok (.bipush 116, 2) := by decide +kernel
theorem dX8_streetHere_139 : decode cX8_streetHere 139 = .ok (.invokevirtual 251, 3) := by decide +kernel
theorem dX8_streetHere_142 : decode cX8_streetHere 142 = .ok (.ifCond .eq 11, 3) := by decide +kernel
theorem dX8_streetHere_145 : decode cX8_streetHere 145 = .ok (.aload_n 0, 1) := by decide +kernel
theorem dX8_streetHere_146 : decode cX8_streetHere 146 = .ok (.iconst 1, 1) := by decide +kernel
theorem dX8_streetHere_147 : decode cX8_streetHere 147 = .ok (.invokevirtual 277, 3) := by decide +kernel
theorem dX8_streetHere_150 : decode cX8_streetHere 150 = .ok (.goto 7, 3) := by decide +kernel
theorem dX8_streetHere_153 : decode cX8_streetHere 153 = .ok (.aload_n 0, 1) := by decide +kernel
theorem dX8_streetHere_154 : decode cX8_streetHere 154 = .ok (.invokevirtual 243, 3) := by decide +kernel
theorem dX8_streetHere_157 : decode cX8_streetHere 157 = .ok (.ireturn, 1) := by decide +kernel
theorem dX8_text_0 : decode cX8_text 0 = .ok (.aload_n 0, 1) := by decide +kernel
theorem dX8_text_1 : decode cX8_text 1 = .ok (.getfield 7, 3) := by decide +kernel
theorem dX8_text_4 : decode cX8_text 4 = .ok (.aload_n 0, 1) := by decide +kernel
theorem dX8_text_5 : decode cX8_text 5 = .ok (.getfield 16, 3) := by decide +kernel
theorem dX8_text_8 : decode cX8_text 8 = .ok (.invokestatic 140, 3) := by decide +kernel
theorem dX8_text_11 : decode cX8_text 11 = .ok (.aload_n 0, 1) := by decide +kernel
theorem dX8_text_12 : decode cX8_text 12 = .ok (.iconst 0, 1) := by decide +kernel
theorem dX8_text_13 : decode cX8_text 13 = .ok (.putfield 212, 3) := by decide +kernel
theorem dX8_text_16 : decode cX8_text 16 = .ok (.aload_n 0, 1) := by decide +kernel
theorem dX8_text_17 : decode cX8_text 17 = .ok (.invokevirtual 258, 3) := by decide +kernel
theorem dX8_text_20 : decode cX8_text 20 = .ok (.iconst 0, 1) := by decide +kernel
theorem dX8_text_21 : decode cX8_text 21 = .ok (.istore_n 1, 1) := by decide +kernel
theorem dX8_text_22 : decode cX8_text 22 = .ok (.iconst 1, 1) := by decide +kernel
theorem dX8_text_23 : decode cX8_text 23 = .ok (.istore_n 2, 1) := by decide +kernel
theorem dX8_text_24 : decode cX8_text 24 = .ok (.iconst 1, 1) := by decide +kernel
theorem dX8_text_25 : decode cX8_text 25 = .ok (.istore_n 3, 1) := by decide +kernel
theorem dX8_text_26 : decode cX8_text 26 = .ok (.iload_n 3, 1) := by decide +kernel
theorem dX8_text_27 : decode cX8_text 27 = .ok (.ifCond .eq 60, 3) := by decide +kernel
theorem dX8_text_30 : decode cX8_text 30 = .ok (.aload_n 0, 1) := by decide +kernel
theorem dX8_text_31 : decode cX8_text 31 = .ok (.invokevirtual 280, 3) := by decide +kernel
theorem dX8_text_34 : decode cX8_text 34 = .ok (.istore 4, 2) := by decide +kernel
theorem dX8_text_36 : decode cX8_text 36 = .ok (.iload 4, 2) := by decide +kernel
theorem dX8_text_38 : decode cX8_text 38 = .ok (.ifCond .lt 12, 3) := by decide +kernel
theorem dX8_text_41 : decode cX8_text 41 = .ok (.aload_n 0, 1) := by decide +kernel
theorem dX8_text_42 : decode cX8_text 42 = .ok (.iload 4, 2) := by decide +kernel
theorem dX8_text_44 : decode cX8_text 44 = .ok (.invokevirtual 283, 3) := by decide +kernel
theorem dX8_text_47 : decode cX8_text 47 = .ok (.goto 7, 3) := by decide +kernel
theorem dX8_text_50 : decode cX8_text 50 = .ok (.aload_n 0, 1) := by decide +kernel
theorem dX8_text_51 : decode cX8_text 51 = .ok (.invokevirtual 286, 3) := by decide +kernel
theorem dX8_text_54 : decode cX8_text 54 = .ok (.istore_n 2, 1) := by decide +kernel
theorem dX8_text_55 : decode cX8_text 55 = .ok (.iinc 1 1, 3) := by decide +kernel
theorem dX8_text_58 : decode cX8_text 58 = .ok (.iload_n 2, 1) := by decide +kernel
theorem dX8_text_59 : decode cX8_text 59 = .ok (.ifCond .eq 15, 3) := by decide +kernel
theorem dX8_text_62 : decode cX8_text 62 = .ok (.aload_n 0, 1) := by decide +kernel
theorem dX8_text_63 : decode cX8_text 63 = .ok (.getfield 227, 3) := by decide +kernel
theorem dX8_text_66 : decode cX8_text 66 = .ok (.iconst 3, 1) := by decide +kernel
theorem dX8_text_67 : decode cX8_text 67 = .ok (.if_icmp .ne 7, 3) := by decide +kernel
theorem dX8_text_70 : decode cX8_text 70 = .ok (.iconst 1, 1) := by decide +kernel
theorem dX8_text_71 : decode cX8_text 71 = .ok (.goto 4, 3) := by decide +kernel
theorem dX8_text_74 : decode cX8_text 74 = .ok (.iconst 0, 1) := by decide +kernel
theorem dX8_text_75 : decode cX8_text 75 = .ok (.istore_n 3, 1) := by decide +kernel
theorem dX8_text_76 : decode cX8_text 76 = .ok (.iload_n 3, 1) := by decide +kernel
theorem dX8_text_77 : decode cX8_text 77 = .ok (.ifCond .eq 7, 3) := by decide +kernel
theorem dX8_text_80 : decode cX8_text 80 = .ok (.aload_n 0, 1) := by decide +kernel
theorem dX8_text_81 : decode cX8_text 81 = .ok (.invokevirtual 258, 3) := by decide +kernel
theorem dX8_text_84 : decode cX8_text 84 = .ok (.goto (-58), 3) := by decide +kernel
theorem dX8_text_87 : decode cX8_text 87 = .ok (.iload_n 2, 1) := by decide +kernel
theorem dX8_text_88 : decode cX8_text 88 = .ok (.ifCond .eq 21, 3) := by decide +kernel
theorem dX8_text_91 : decode cX8_text 91 = .ok (.aload_n 0, 1) := by decide +kernel
theorem dX8_text_92 : decode cX8_text 92 = .ok (.getfield 227, 3) := by decide +kernel
theorem dX8_text_95 : decode cX8_text 95 = .ok (.ifCond .eq 10, 3) := by decide +kernel
theorem dX8_text_98 : decode cX8_text 98 = .ok (.aload_n 0, 1) := by decide +kernel
theorem dX8_text_99 : decode cX8_text 99 = .ok (.invokevirtual 243, 3) := by decide +kernel
theorem dX8_text_102 : decode cX8_text 102 = .ok (.ifCond .eq 7, 3) := by decide +kernel
theorem dX8_text_105 : decode cX8_text 105 = .ok (.iconst 1, 1) := by decide +kernel
theorem dX8_text_106 : decode cX8_text 106 = .ok (.goto 4, 3) := by decide +kernel
theorem dX8_text_109 : decode cX8_text 109 = .ok (.iconst 0, 1) := by decide +kernel
theorem dX8_text_110 : decode cX8_text 110 = .ok (.istore_n 2, 1) := by decide +kernel
theorem dX8_text_111 : decode cX8_text 111 = .ok (.aload_n 0, 1) := by decide +kernel
theorem dX8_text_112 : decode cX8_text 112 = .ok (.iconst 0, 1) := by decide +kernel
theorem dX8_text_113 : decode cX8_text 113 = .ok (.putfield 209, 3) := by decide +kernel
theorem dX8_text_116 : decode cX8_text 116 = .ok (.iload_n 2, 1) := by decide +kernel
theorem dX8_text_117 : decode cX8_text 117 = .ok (.ifCond .ne 14, 3) := by decide +kernel
theorem dX8_text_120 : decode cX8_text 120 = .ok (.aload_n 0, 1) := by decide +kernel
theorem dX8_text_121 : decode cX8_text 121 = .ok (.getfield 16, 3) := by decide +kernel
theorem dX8_text_124 : decode cX8_text 124 = .ok (.aload_n 0, 1) := by decide +kernel
theorem dX8_text_125 : decode cX8_text 125 = .ok (.getfield 7, 3) := by decide +kernel
theorem dX8_text_128 : decode cX8_text 128 = .ok (.invokestatic 140, 3) := by decide +kernel
theorem dX8_text_131 : decode cX8_text 131 = .ok (.iload_n 2, 1) := by decide +kernel
theorem dX8_text_132 : decode cX8_text 132 = .ok (.ifCond .eq 7, 3) := by decide +kernel
theorem dX8_text_135 : decode cX8_text 135 = .ok (.iload_n 1, 1) := by decide +kernel
theorem dX8_text_136 : decode cX8_text 136 = .ok (.goto 9, 3) := by decide +kernel
theorem dX8_text_139 : decode cX8_text 139 = .ok (.iconst (-1), 1) := by decide +kernel
theorem dX8_text_140 : decode cX8_text 140 = .ok (.aload_n 0, 1) := by decide +kernel
theorem dX8_text_141 : decode cX8_text 141 = .ok (.getfield 233, 3) := by decide +kernel
theorem dX8_text_144 : decode cX8_text 144 = .ok (.isub, 1) := by decide +kernel
theorem dX8_text_145 : decode cX8_text 145 = .ok (.ireturn, 1) := by decide +kernel
theorem dX8_hold_0 : decode cX8_hold 0 = .ok (.iload_n 1, 1) := by decide +kernel
theorem dX8_hold_1 : decode cX8_hold 1 = .ok (.i2l, 1) := by decide +kernel
theorem dX8_hold_2 : decode cX8_hold 2 = .ok (.lconst 0, 1) := by decide +kernel
theorem dX8_hold_3 : decode cX8_hold 3 = .ok (.ldc2_w 289, 3) := by decide +kernel
theorem dX8_hold_6 : decode cX8_hold 6 = .ok (.invokestatic 49, 3) := by decide +kernel
theorem dX8_hold_9 : decode cX8_hold 9 = .ok (.ifCond .eq 16, 3) := by decide +kernel
theorem dX8_hold_12 : decode cX8_hold 12 = .ok (.iload_n 2, 1) := by decide +kernel
theorem dX8_hold_13 : decode cX8_hold 13 = .ok (.iconst (-1), 1) := by decide +kernel
theorem dX8_hold_14 : decode cX8_hold 14 = .ok (.if_icmp .eq 18, 3) := by decide +kernel
theorem dX8_hold_17 : decode cX8_hold 17 = .ok (.aload_n 0, 1) := by decide +kernel
theorem dX8_hold_18 : decode cX8_hold 18 = .ok (.iload_n 2, 1) := by decide +kernel
theorem dX8_hold_19 : decode cX8_hold 19 = .ok (.invokevirtual 89, 3) := by decide +kernel
theorem dX8_hold_22 : decode cX8_hold 22 = .ok (.ifCond .ne 10, 3) := by decide +kernel
theorem dX8_hold_25 : decode cX8_hold 25 = .ok (.aload_n 0, 1) := by decide +kernel
theorem dX8_hold_26 : decode cX8_hold 26 = .ok (.ldc 37, 2) := by decide +kernel
theorem dX8_hold_28 : decode cX8_hold 28 = .ok (.invokevirtual 39, 3) := by decide +kernel
theorem dX8_hold_31 : decode cX8_hold 31 = .ok (.ireturn, 1) := by decide +kernel
theorem dX8_hold_32 : decode cX8_hold 32 = .ok (.aload_n 0, 1) := by decide +kernel
theorem dX8_hold_33 : decode cX8_hold 33 = .ok (.getfield 7, 3) := by decide +kernel
theorem dX8_hold_36 : decode cX8_hold 36 = .ok (.bipush 117, 2) := by decide +kernel
theorem dX8_hold_38 : decode cX8_hold 38 = .ok (.iload_n 1, 1) := by decide +kernel
theorem dX8_hold_39 : decode cX8_hold 39 = .ok (.iadd, 1) := by decide +kernel
theorem dX8_hold_40 : decode cX8_hold 40 = .ok (.iload_n 2, 1) := by decide +kernel
theorem dX8_hold_41 : decode cX8_hold 41 = .ok (.iastore, 1) := by decide +kernel
theorem dX8_hold_42 : decode cX8_hold 42 = .ok (.iconst 1, 1) := by decide +kernel
theorem dX8_hold_43 : decode cX8_hold 43 = .ok (.ireturn, 1) := by decide +kernel
theorem dX8_isUnder_0 : decode cX8_isUnder 0 = .ok (.iload_n 1, 1) := by decide +kernel
theorem dX8_isUnder_1 : decode cX8_isUnder 1 = .ok (.ifCond .eq 44, 3) := by decide +kernel
theorem dX8_isUnder_4 : decode cX8_isUnder 4 = .ok (.iload_n 0, 1) := by decide +kernel
theorem dX8_isUnder_5 : decode cX8_isUnder 5 = .ok (.iload_n 1, 1) := by decide +kernel
theorem dX8_isUnder_6 : decode cX8_isUnder 6 = .ok (.if_icmp .eq 39, 3) := by decide +kernel
theorem dX8_isUnder_9 : decode cX8_isUnder 9 = .ok (.iload_n 1, 1) := by decide +kernel
theorem dX8_isUnder_10 : decode cX8_isUnder 10 = .ok (.iconst 2, 1) := by decide +kernel
theorem dX8_isUnder_11 : decode cX8_isUnder 11 = .ok (.if_icmp .ne 13, 3) := by decide +kernel
theorem dX8_isUnder_14 : decode cX8_isUnder 14 = .ok (.iload_n 0, 1) := by decide +kernel
theorem dX8_isUnder_15 : decode cX8_isUnder 15 = .ok (.iconst 3, 1) := by decide +kernel
theorem dX8_isUnder_16 : decode cX8_isUnder 16 = .ok (.if_icmp .eq 29, 3) := by decide +kernel
theorem dX8_isUnder_19 : decode cX8_isUnder 19 = .ok (.iload_n 0, 1) := by decide +kernel
theorem dX8_isUnder_20 : decode cX8_isUnder 20 = .ok (.iconst 4, 1) := by decide +kernel
theorem dX8_isUnder_21 : decode cX8_isUnder 21 = .ok (.if_icmp .eq 24, 3) := by decide +kernel
theorem dX8_isUnder_24 : decode cX8_isUnder 24 = .ok (.iload_n 1, 1) := by decide +kernel
theorem dX8_isUnder_25 : decode cX8_isUnder 25 = .ok (.iconst 3, 1) := by decide +kernel
theorem dX8_isUnder_26 : decode cX8_isUnder 26 = .ok (.if_icmp .ne 8, 3) := by decide +kernel
theorem dX8_isUnder_29 : decode cX8_isUnder 29 = .ok (.iload_n 0, 1) := by decide +kernel
theorem dX8_isUnder_30 : decode cX8_isUnder 30 = .ok (.iconst 4, 1) := by decide +kernel
theorem dX8_isUnder_31 : decode cX8_isUnder 31 = .ok (.if_icmp .eq 14, 3) := by decide +kernel
theorem dX8_isUnder_34 : decode cX8_isUnder 34 = .ok (.iload_n 1, 1) := by decide +kernel
theorem dX8_isUnder_35 : decode cX8_isUnder 35 = .ok (.iconst 1, 1) := by decide +kernel
theorem dX8_isUnder_36 : decode cX8_isUnder 36 = .ok (.if_icmp .ne 13, 3) := by decide +kernel
theorem dX8_isUnder_39 : decode cX8_isUnder 39 = .ok (.iload_n 0, 1) := by decide +kernel
theorem dX8_isUnder_40 : decode cX8_isUnder 40 = .ok (.bipush 6, 2) := by decide +kernel
theorem dX8_isUnder_42 : decode cX8_isUnder 42 = .ok (.if_icmp .ne 7, 3) := by decide +kernel
theorem dX8_isUnder_45 : decode cX8_isUnder 45 = .ok (.iconst 1, 1) := by decide +kernel
theorem dX8_isUnder_46 : decode cX8_isUnder 46 = .ok (.goto 4, 3) := by decide +kernel
theorem dX8_isUnder_49 : decode cX8_isUnder 49 = .ok (.iconst 0, 1) := by decide +kernel
theorem dX8_isUnder_50 : decode cX8_isUnder 50 = .ok (.ireturn, 1) := by decide +kernel
theorem dX8_as_0 : decode cX8_as 0 = .ok (.iload_n 1, 1) := by decide +kernel
theorem dX8_as_1 : decode cX8_as 1 = .ok (.i2l, 1) := by decide +kernel
theorem dX8_as_2 : decode cX8_as 2 = .ok (.lconst 0, 1) := by decide +kernel
theorem dX8_as_3 : decode cX8_as 3 = .ok (.ldc2_w 289, 3) := by decide +kernel
theorem dX8_as_6 : decode cX8_as 6 = .ok (.invokestatic 49, 3) := by decide +kernel
theorem dX8_as_9 : decode cX8_as 9 = .ok (.ifCond .eq 15, 3) := by decide +kernel
theorem dX8_as_12 : decode cX8_as 12 = .ok (.iload_n 2, 1) := by decide +kernel
theorem dX8_as_13 : decode cX8_as 13 = .ok (.i2l, 1) := by decide +kernel
theorem dX8_as_14 : decode cX8_as 14 = .ok (.lconst 0, 1) := by decide +kernel
theorem dX8_as_15 : decode cX8_as 15 = .ok (.ldc2_w 73, 3) := by decide +kernel
theorem dX8_as_18 : decode cX8_as 18 = .ok (.invokestatic 49, 3) := by decide +kernel
theorem dX8_as_21 : decode cX8_as 21 = .ok (.ifCond .ne 10, 3) := by decide +kernel
theorem dX8_as_24 : decode cX8_as 24 = .ok (.aload_n 0, 1) := by decide +kernel
theorem dX8_as_25 : decode cX8_as 25 = .ok (.ldc 37, 2) := by decide +kernel
theorem dX8_as_27 : decode cX8_as 27 = .ok (.invokevirtual 39, 3) := by decide +kernel
theorem dX8_as_30 : decode cX8_as 30 = .ok (.ireturn, 1) := by decide +kernel
theorem dX8_as_31 : decode cX8_as 31 = .ok (.aload_n 0, 1) := by decide +kernel
theorem dX8_as_32 : decode cX8_as 32 = .ok (.getfield 7, 3) := by decide +kernel
theorem dX8_as_35 : decode cX8_as 35 = .ok (.bipush 117, 2) := by decide +kernel
theorem dX8_as_37 : decode cX8_as 37 = .ok (.iload_n 1, 1) := by decide +kernel
theorem dX8_as_38 : decode cX8_as 38 = .ok (.iadd, 1) := by decide +kernel
theorem dX8_as_39 : decode cX8_as 39 = .ok (.iaload, 1) := by decide +kernel
theorem dX8_as_40 : decode cX8_as 40 = .ok (.istore_n 3, 1) := by decide +kernel
theorem dX8_as_41 : decode cX8_as 41 = .ok (.iload_n 3, 1) := by decide +kernel
theorem dX8_as_42 : decode cX8_as 42 = .ok (.ifCond .ge 11, 3) := by decide +kernel
theorem dX8_as_45 : decode cX8_as 45 = .ok (.aload_n 0, 1) := by decide +kernel
theorem dX8_as_46 : decode cX8_as 46 = .ok (.ldc_w 291, 3) := by decide +kernel
theorem dX8_as_49 : decode cX8_as 49 = .ok (.invokevirtual 39, 3) := by decide +kernel
theorem dX8_as_52 : decode cX8_as 52 = .ok (.ireturn, 1) := by decide +kernel
theorem dX8_as_53 : decode cX8_as 53 = .ok (.aload_n 0, 1) := by decide +kernel
theorem dX8_as_54 : decode cX8_as 54 = .ok (.iload_n 3, 1) := by decide +kernel
theorem dX8_as_55 : decode cX8_as 55 = .ok (.iconst 0, 1) := by decide +kernel
theorem dX8_as_56 : decode cX8_as 56 = .ok (.invokevirtual 59, 3) := by decide +kernel
theorem dX8_as_59 : decode cX8_as 59 = .ok (.iload_n 2, 1) := by decide +kernel
theorem dX8_as_60 : decode cX8_as 60 = .ok (.invokestatic 292, 3) := by decide +kernel
theorem dX8_as_63 : decode cX8_as 63 = .ok (.ifCond .eq 7, 3) := by decide +kernel
theorem dX8_as_66 : decode cX8_as 66 = .ok (.iload_n 3, 1) := by decide +kernel
theorem dX8_as_67 : decode cX8_as 67 = .ok (.goto 10, 3) := by decide +kernel
theorem dX8_as_70 : decode cX8_as 70 = .ok (.aload_n 0, 1) := by decide +kernel
theorem dX8_as_71 : decode cX8_as 71 = .ok (.ldc_w 295, 3) := by decide +kernel
theorem dX8_as_74 : decode cX8_as 74 = .ok (.invokevirtual 39, 3) := by decide +kernel
theorem dX8_as_77 : decode cX8_as 77 = .ok (.ireturn, 1) := by decide +kernel
theorem dX8_isSheet_0 : decode cX8_isSheet 0 = .ok (.iload_n 0, 1) := by decide +kernel
theorem dX8_isSheet_1 : decode cX8_isSheet 1 = .ok (.ifCond .lt 12, 3) := by decide +kernel
theorem dX8_isSheet_4 : decode cX8_isSheet 4 = .ok (.iload_n 0, 1) := by decide +kernel
theorem dX8_isSheet_5 : decode cX8_isSheet 5 = .ok (.iconst 4, 1) := by decide +kernel
theorem dX8_isSheet_6 : decode cX8_isSheet 6 = .ok (.if_icmp .ge 7, 3) := by decide +kernel
theorem dX8_isSheet_9 : decode cX8_isSheet 9 = .ok (.iconst 1, 1) := by decide +kernel
theorem dX8_isSheet_10 : decode cX8_isSheet 10 = .ok (.goto 4, 3) := by decide +kernel
theorem dX8_isSheet_13 : decode cX8_isSheet 13 = .ok (.iconst 0, 1) := by decide +kernel
theorem dX8_isSheet_14 : decode cX8_isSheet 14 = .ok (.ireturn, 1) := by decide +kernel
theorem dX8_sheet_0 : decode cX8_sheet 0 = .ok (.iload_n 1, 1) := by decide +kernel
theorem dX8_sheet_1 : decode cX8_sheet 1 = .ok (.invokestatic 296, 3) := by decide +kernel
theorem dX8_sheet_4 : decode cX8_sheet 4 = .ok (.ifCond .eq 25, 3) := by decide +kernel
theorem dX8_sheet_7 : decode cX8_sheet 7 = .ok (.iload_n 2, 1) := by decide +kernel
theorem dX8_sheet_8 : decode cX8_sheet 8 = .ok (.ifCond .eq 28, 3) := by decide +kernel
theorem dX8_sheet_11 : decode cX8_sheet 11 = .ok (.iload_n 2, 1) := by decide +kernel
theorem dX8_sheet_12 : decode cX8_sheet 12 = .ok (.bipush 8, 2) := by decide +kernel
theorem dX8_sheet_14 : decode cX8_sheet 14 = .ok (.if_icmp .eq 22, 3) := by decide +kernel
theorem dX8_sheet_17 : decode cX8_sheet 17 = .ok (.iload_n 2, 1) := by decide +kernel
theorem dX8_sheet_18 : decode cX8_sheet 18 = .ok (.bipush 16, 2) := by decide +kernel
theorem dX8_sheet_20 : decode cX8_sheet 20 = .ok (.if_icmp .eq 16, 3) := by decide +kernel
theorem dX8_sheet_23 : decode cX8_sheet 23 = .ok (.iload_n 2, 1) := by decide +kernel
theorem dX8_sheet_24 : decode cX8_sheet 24 = .ok (.bipush 32, 2) := by decide +kernel
theorem dX8_sheet_26 : decode cX8_sheet 26 = .ok (.if_icmp .eq 10, 3) := by decide +kernel
theorem dX8_sheet_29 : decode cX8_sheet 29 = .ok (.aload_n 0, 1) := by decide +kernel
theorem dX8_sheet_30 : decode cX8_sheet 30 = .ok (.ldc 37, 2) := by decide +kernel
theorem dX8_sheet_32 : decode cX8_sheet 32 = .ok (.invokevirtual 39, 3) := by decide +kernel
theorem dX8_sheet_35 : decode cX8_sheet 35 = .ok (.ireturn, 1) := by decide +kernel
theorem dX8_sheet_36 : decode cX8_sheet 36 = .ok (.iload_n 3, 1) := by decide +kernel
theorem dX8_sheet_37 : decode cX8_sheet 37 = .ok (.ifCond .ge 11, 3) := by decide +kernel
theorem dX8_sheet_40 : decode cX8_sheet 40 = .ok (.aload_n 0, 1) := by decide +kernel
theorem dX8_sheet_41 : decode cX8_sheet 41 = .ok (.ldc_w 299, 3) := by decide +kernel
theorem dX8_sheet_44 : decode cX8_sheet 44 = .ok (.invokevirtual 39, 3) := by decide +kernel
theorem dX8_sheet_47 : decode cX8_sheet 47 = .ok (.ireturn, 1) := by decide +kernel
theorem dX8_sheet_48 : decode cX8_sheet 48 = .ok (.iload_n 3, 1) := by decide +kernel
theorem dX8_sheet_49 : decode cX8_sheet 49 = .ok (.bipush 40, 2) := by decide +kernel
theorem dX8_sheet_51 : decode cX8_sheet 51 = .ok (.if_icmp .le 10, 3) := by decide +kernel
theorem dX8_sheet_54 : decode cX8_sheet 54 = .ok (.aload_n 0, 1) := by decide +kernel
theorem dX8_sheet_55 : decode cX8_sheet 55 = .ok (.ldc 37, 2) := by decide +kernel
theorem dX8_sheet_57 : decode cX8_sheet 57 = .ok (.invokevirtual 39, 3) := by decide +kernel
theorem dX8_sheet_60 : decode cX8_sheet 60 = .ok (.ireturn, 1) := by decide +kernel
theorem dX8_sheet_61 : decode cX8_sheet 61 = .ok (.aload_n 0, 1) := by decide +kernel
theorem dX8_sheet_62 : decode cX8_sheet 62 = .ok (.getfield 28, 3) := by decide +kernel
theorem dX8_sheet_65 : decode cX8_sheet 65 = .ok (.iload_n 1, 1) := by decide +kernel
theorem dX8_sheet_66 : decode cX8_sheet 66 = .ok (.iload_n 2, 1) := by decide +kernel
theorem dX8_sheet_67 : decode cX8_sheet 67 = .ok (.ifCond .ne 7, 3) := by decide +kernel
theorem dX8_sheet_70 : decode cX8_sheet 70 = .ok (.iconst (-1), 1) := by decide +kernel
theorem dX8_sheet_71 : decode cX8_sheet 71 = .ok (.goto 4, 3) := by decide +kernel
theorem dX8_sheet_74 : decode cX8_sheet 74 = .ok (.iload_n 2, 1) := by decide +kernel
theorem dX8_sheet_75 : decode cX8_sheet 75 = .ok (.iastore, 1) := by decide +kernel
theorem dX8_sheet_76 : decode cX8_sheet 76 = .ok (.aload_n 0, 1) := by decide +kernel
theorem dX8_sheet_77 : decode cX8_sheet 77 = .ok (.getfield 31, 3) := by decide +kernel
theorem dX8_sheet_80 : decode cX8_sheet 80 = .ok (.iload_n 1, 1) := by decide +kernel
theorem dX8_sheet_81 : decode cX8_sheet 81 = .ok (.iload_n 2, 1) := by decide +kernel
theorem dX8_sheet_82 : decode cX8_sheet 82 = .ok (.ifCond .ne 7, 3) := by decide +kernel
theorem dX8_sheet_85 : decode cX8_sheet 85 = .ok (.iconst 0, 1) := by decide +kernel
theorem dX8_sheet_86 : decode cX8_sheet 86 = .ok (.goto 4, 3) := by decide +kernel
theorem dX8_sheet_89 : decode cX8_sheet 89 = .ok (.iload_n 3, 1) := by decide +kernel
theorem dX8_sheet_90 : decode cX8_sheet 90 = .ok (.iastore, 1) := by decide +kernel
theorem dX8_sheet_91 : decode cX8_sheet 91 = .ok (.iconst 0, 1) := by decide +kernel
theorem dX8_sheet_92 : decode cX8_sheet 92 = .ok (.istore 4, 2) := by decide +kernel
theorem dX8_sheet_94 : decode cX8_sheet 94 = .ok (.iload 4, 2) := by decide +kernel
theorem dX8_sheet_96 : decode cX8_sheet 96 = .ok (.bipush 40, 2) := by decide +kernel
theorem dX8_sheet_98 : decode cX8_sheet 98 = .ok (.if_icmp .ge 22, 3) := by decide +kernel
theorem dX8_sheet_101 : decode cX8_sheet 101 = .ok (.aload_n 0, 1) := by decide +kernel
theorem dX8_sheet_102 : decode cX8_sheet 102 = .ok (.getfield 34, 3) := by decide +kernel
theorem dX8_sheet_105 : decode cX8_sheet 105 = .ok (.bipush 40, 2) := by decide +kernel
theorem dX8_sheet_107 : decode cX8_sheet 107 = .ok (.iload_n 1, 1) := by decide +kernel
theorem dX8_sheet_108 : decode cX8_sheet 108 = .ok (.imul, 1) := by decide +kernel
theorem dX8_sheet_109 : decode cX8_sheet 109 = .ok (.iload 4, 2) := by decide +kernel
theorem dX8_sheet_111 : decode cX8_sheet 111 = .ok (.iadd, 1) := by decide +kernel
theorem dX8_sheet_112 : decode cX8_sheet 112 = .ok (.iconst 0, 1) := by decide +kernel
theorem dX8_sheet_113 : decode cX8_sheet 113 = .ok (.iastore, 1) := by decide +kernel
theorem dX8_sheet_114 : decode cX8_sheet 114 = .ok (.iinc 4 1, 3) := by decide +kernel
theorem dX8_sheet_117 : decode cX8_sheet 117 = .ok (.goto (-23), 3) := by decide +kernel
theorem dX8_sheet_120 : decode cX8_sheet 120 = .ok (.aload_n 0, 1) := by decide +kernel
theorem dX8_sheet_121 : decode cX8_sheet 121 = .ok (.getfield 31, 3) := by decide +kernel
theorem dX8_sheet_124 : decode cX8_sheet 124 = .ok (.iload_n 1, 1) := by decide +kernel
theorem dX8_sheet_125 : decode cX8_sheet 125 = .ok (.iaload, 1) := by decide +kernel
theorem dX8_sheet_126 : decode cX8_sheet 126 = .ok (.ireturn, 1) := by decide +kernel
theorem dX8_write_0 : decode cX8_write 0 = .ok (.iload_n 1, 1) := by decide +kernel
theorem dX8_write_1 : decode cX8_write 1 = .ok (.invokestatic 296, 3) := by decide +kernel
theorem dX8_write_4 : decode cX8_write 4 = .ok (.ifCond .ne 10, 3) := by decide +kernel
theorem dX8_write_7 : decode cX8_write 7 = .ok (.aload_n 0, 1) := by decide +kernel
theorem dX8_write_8 : decode cX8_write 8 = .ok (.ldc 37, 2) := by decide +kernel
theorem dX8_write_10 : decode cX8_write 10 = .ok (.invokevirtual 39, 3) := by decide +kernel
theorem dX8_write_13 : decode cX8_write 13 = .ok (.ireturn, 1) := by decide +kernel
theorem dX8_write_14 : decode cX8_write 14 = .ok (.aload_n 0, 1) := by decide +kernel
theorem dX8_write_15 : decode cX8_write 15 = .ok (.getfield 28, 3) := by decide +kernel
theorem dX8_write_18 : decode cX8_write 18 = .ok (.iload_n 1, 1) := by decide +kernel
theorem dX8_write_19 : decode cX8_write 19 = .ok (.iaload, 1) := by decide +kernel
theorem dX8_write_20 : decode cX8_write 20 = .ok (.ifCond .ge 11, 3) := by decide +kernel
theorem dX8_write_23 : decode cX8_write 23 = .ok (.aload_n 0, 1) := by decide +kernel
theorem dX8_write_24 : decode cX8_write 24 = .ok (.ldc_w 291, 3) := by decide +kernel
theorem dX8_write_27 : decode cX8_write 27 = .ok (.invokevirtual 39, 3) := by decide +kernel
theorem dX8_write_30 : decode cX8_write 30 = .ok (.ireturn, 1) := by decide +kernel
theorem dX8_write_31 : decode cX8_write 31 = .ok (.iload_n 2, 1) := by decide +kernel
theorem dX8_write_32 : decode cX8_write 32 = .ok (.i2l, 1) := by decide +kernel
theorem dX8_write_33 : decode cX8_write 33 = .ok (.lconst 0, 1) := by decide +kernel
theorem dX8_write_34 : decode cX8_write 34 = .ok (.aload_n 0, 1) := by decide +kernel
theorem dX8_write_35 : decode cX8_write 35 = .ok (.getfield 31, 3) := by decide +kernel
theorem dX8_write_38 : decode cX8_write 38 = .ok (.iload_n 1, 1) := by decide +kernel
theorem dX8_write_39 : decode cX8_write 39 = .ok (.iaload, 1) := by decide +kernel
theorem dX8_write_40 : decode cX8_write 40 = .ok (.iconst 1, 1) := by decide +kernel
theorem dX8_write_41 : decode cX8_write 41 = .ok (.isub, 1) := by decide +kernel
theorem dX8_write_42 : decode cX8_write 42 = .ok (.i2l, 1) := by decide +kernel
theorem dX8_write_43 : decode cX8_write 43 = .ok (.invokestatic 49, 3) := by decide +kernel
theorem dX8_write_46 : decode cX8_write 46 = .ok (.ifCond .ne 10, 3) := by decide +kernel
theorem dX8_write_49 : decode cX8_write 49 = .ok (.aload_n 0, 1) := by decide +kernel
theorem dX8_write_50 : decode cX8_write 50 = .ok (.ldc 37, 2) := by decide +kernel
theorem dX8_write_52 : decode cX8_write 52 = .ok (.invokevirtual 39, 3) := by decide +kernel
theorem dX8_write_55 : decode cX8_write 55 = .ok (.ireturn, 1) := by decide +kernel
theorem dX8_write_56 : decode cX8_write 56 = .ok (.aload_n 0, 1) := by decide +kernel
theorem dX8_write_57 : decode cX8_write 57 = .ok (.getfield 34, 3) := by decide +kernel
theorem dX8_write_60 : decode cX8_write 60 = .ok (.bipush 40, 2) := by decide +kernel
theorem dX8_write_62 : decode cX8_write 62 = .ok (.iload_n 1, 1) := by decide +kernel
theorem dX8_write_63 : decode cX8_write 63 = .ok (.imul, 1) := by decide +kernel
theorem dX8_write_64 : decode cX8_write 64 = .ok (.iload_n 2, 1) := by decide +kernel
theorem dX8_write_65 : decode cX8_write 65 = .ok (.iadd, 1) := by decide +kernel
theorem dX8_write_66 : decode cX8_write 66 = .ok (.aload_n 0, 1) := by decide +kernel
theorem dX8_write_67 : decode cX8_write 67 = .ok (.getfield 28, 3) := by decide +kernel
theorem dX8_write_70 : decode cX8_write 70 = .ok (.iload_n 1, 1) := by decide +kernel
theorem dX8_write_71 : decode cX8_write 71 = .ok (.iaload, 1) := by decide +kernel
theorem dX8_write_72 : decode cX8_write 72 = .ok (.bipush 8, 2) := by decide +kernel
theorem dX8_write_74 : decode cX8_write 74 = .ok (.if_icmp .ne 8, 3) := by decide +kernel
theorem dX8_write_77 : decode cX8_write 77 = .ok (.iload_n 3, 1) := by decide +kernel
theorem dX8_write_78 : decode cX8_write 78 = .ok (.i2b, 1) := by decide +kernel
theorem dX8_write_79 : decode cX8_write 79 = .ok (.goto 20, 3) := by decide +kernel
theorem dX8_write_82 : decode cX8_write 82 = .ok (.aload_n 0, 1) := by decide +kernel
theorem dX8_write_83 : decode cX8_write 83 = .ok (.getfield 28, 3) := by decide +kernel
theorem dX8_write_86 : decode cX8_write 86 = .ok (.iload_n 1, 1) := by decide +kernel
theorem dX8_write_87 : decode cX8_write 87 = .ok (.iaload, 1) := by decide +kernel
theorem dX8_write_88 : decode cX8_write 88 = .ok (.bipush 16, 2) := by decide +kernel
theorem dX8_write_90 : decode cX8_write 90 = .ok (.if_icmp .ne 8, 3) := by decide +kernel
theorem dX8_write_93 : decode cX8_write 93 = .ok (.iload_n 3, 1) := by decide +kernel
theorem dX8_write_94 : decode cX8_write 94 = .ok (.i2s, 1) := by decide +kernel
theorem dX8_write_95 : decode cX8_write 95 = .ok (.goto 4, 3) := by decide +kernel
theorem dX8_write_98 : decode cX8_write 98 = .ok (.iload_n 3, 1) := by decide +kernel
theorem dX8_write_99 : decode cX8_write 99 = .ok (.iastore, 1) := by decide +kernel
theorem dX8_write_100 : decode cX8_write 100 = .ok (.iconst 1, 1) := by decide +kernel
theorem dX8_write_101 : decode cX8_write 101 = .ok (.ireturn, 1) := by decide +kernel
theorem dX8_copy_0 : decode cX8_copy 0 = .ok (.iload_n 1, 1) := by decide +kernel
theorem dX8_copy_1 : decode cX8_copy 1 = .ok (.invokestatic 296, 3) := by decide +kernel
theorem dX8_copy_4 : decode cX8_copy 4 = .ok (.ifCond .eq 10, 3) := by decide +kernel
theorem dX8_copy_7 : decode cX8_copy 7 = .ok (.iload_n 3, 1) := by decide +kernel
theorem dX8_copy_8 : decode cX8_copy 8 = .ok (.invokestatic 296, 3) := by decide +kernel
theorem dX8_copy_11 : decode cX8_copy 11 = .ok (.ifCond .ne 10, 3) := by decide +kernel
theorem dX8_copy_14 : decode cX8_copy 14 = .ok (.aload_n 0, 1) := by decide +kernel
theorem dX8_copy_15 : decode cX8_copy 15 = .ok (.ldc 37, 2) := by decide +kernel
theorem dX8_copy_17 : decode cX8_copy 17 = .ok (.invokevirtual 39, 3) := by decide +kernel
theorem dX8_copy_20 : decode cX8_copy 20 = .ok (.ireturn, 1) := by decide +kernel
theorem dX8_copy_21 : decode cX8_copy 21 = .ok (.aload_n 0, 1) := by decide +kernel
theorem dX8_copy_22 : decode cX8_copy 22 = .ok (.getfield 28, 3) := by decide +kernel
theorem dX8_copy_25 : decode cX8_copy 25 = .ok (.iload_n 1, 1) := by decide +kernel
theorem dX8_copy_26 : decode cX8_copy 26 = .ok (.iaload, 1) := by decide +kernel
theorem dX8_copy_27 : decode cX8_copy 27 = .ok (.ifCond .lt 12, 3) := by decide +kernel
theorem dX8_copy_30 : decode cX8_copy 30 = .ok (.aload_n 0, 1) := by decide +kernel
theorem dX8_copy_31 : decode cX8_copy 31 = .ok (.getfield 28, 3) := by decide +kernel
theorem dX8_copy_34 : decode cX8_copy 34 = .ok (.iload_n 3, 1) := by decide +kernel
theorem dX8_copy_35 : decode cX8_copy 35 = .ok (.iaload, 1) := by decide +kernel
theorem dX8_copy_36 : decode cX8_copy 36 = .ok (.ifCond .ge 11, 3) := by decide +kernel
theorem dX8_copy_39 : decode cX8_copy 39 = .ok (.aload_n 0, 1) := by decide +kernel
theorem dX8_copy_40 : decode cX8_copy 40 = .ok (.ldc_w 291, 3) := by decide +kernel
theorem dX8_copy_43 : decode cX8_copy 43 = .ok (.invokevirtual 39, 3) := by decide +kernel
theorem dX8_copy_46 : decode cX8_copy 46 = .ok (.ireturn, 1) := by decide +kernel
theorem dX8_copy_47 : decode cX8_copy 47 = .ok (.aload_n 0, 1) := by decide +kernel
theorem dX8_copy_48 : decode cX8_copy 48 = .ok (.getfield 28, 3) := by decide +kernel
theorem dX8_copy_51 : decode cX8_copy 51 = .ok (.iload_n 1, 1) := by decide +kernel
theorem dX8_copy_52 : decode cX8_copy 52 = .ok (.iaload, 1) := by decide +kernel
theorem dX8_copy_53 : decode cX8_copy 53 = .ok (.aload_n 0, 1) := by decide +kernel
theorem dX8_copy_54 : decode cX8_copy 54 = .ok (.getfield 28, 3) := by decide +kernel
theorem dX8_copy_57 : decode cX8_copy 57 = .ok (.iload_n 3, 1) := by decide +kernel
theorem dX8_copy_58 : decode cX8_copy 58 = .ok (.iaload, 1) := by decide +kernel
theorem dX8_copy_59 : decode cX8_copy 59 = .ok (.if_icmp .eq 11, 3) := by decide +kernel
theorem dX8_copy_62 : decode cX8_copy 62 = .ok (.aload_n 0, 1) := by decide +kernel
theorem dX8_copy_63 : decode cX8_copy 63 = .ok (.ldc_w 295, 3) := by decide +kernel
theorem dX8_copy_66 : decode cX8_copy 66 = .ok (.invokevirtual 39, 3) := by decide +kernel
theorem dX8_copy_69 : decode cX8_copy 69 = .ok (.ireturn, 1) := by decide +kernel
theorem dX8_copy_70 : decode cX8_copy 70 = .ok (.iload_n 2, 1) := by decide +kernel
theorem dX8_copy_71 : decode cX8_copy 71 = .ok (.ifCond .lt 40, 3) := by decide +kernel
theorem dX8_copy_74 : decode cX8_copy 74 = .ok (.iload 4, 2) := by decide +kernel
theorem dX8_copy_76 : decode cX8_copy 76 = .ok (.ifCond .lt 35, 3) := by decide +kernel
theorem dX8_copy_79 : decode cX8_copy 79 = .ok (.iload 5, 2) := by decide +kernel
theorem dX8_copy_81 : decode cX8_copy 81 = .ok (.ifCond .lt 30, 3) := by decide +kernel
theorem dX8_copy_84 : decode cX8_copy 84 = .ok (.iload 5, 2) := by decide +kernel
theorem dX8_copy_86 : decode cX8_copy 86 = .ok (.aload_n 0, 1) := by decide +kernel
theorem dX8_copy_87 : decode cX8_copy 87 = .ok (.getfield 31, 3) := by decide +kernel
theorem dX8_copy_90 : decode cX8_copy 90 = .ok (.iload_n 1, 1) := by decide +kernel
theorem dX8_copy_91 : decode cX8_copy 91 = .ok (.iaload, 1) := by decide +kernel
theorem dX8_copy_92 : decode cX8_copy 92 = .ok (.iload_n 2, 1) := by decide +kernel
theorem dX8_copy_93 : decode cX8_copy 93 = .ok (.isub, 1) := by decide +kernel
theorem dX8_copy_94 : decode cX8_copy 94 = .ok (.if_icmp .gt 17, 3) := by decide +kernel
theorem dX8_copy_97 : decode cX8_copy 97 = .ok (.iload 5, 2) := by decide +kernel
theorem dX8_copy_99 : decode cX8_copy 99 = .ok (.aload_n 0, 1) := by decide +kernel
theorem dX8_copy_100 : decode cX8_copy 100 = .ok (.getfield 31, 3) := by decide +kernel
theorem dX8_copy_103 : decode cX8_copy 103 = .ok (.iload_n 3, 1) := by decide +kernel
theorem dX8_copy_104 : decode cX8_copy 104 = .ok (.iaload, 1) := by decide +kernel
theorem dX8_copy_105 : decode cX8_copy 105 = .ok (.iload 4, 2) := by decide +kernel
theorem dX8_copy_107 : decode cX8_copy 107 = .ok (.isub, 1) := by decide +kernel
theorem dX8_copy_108 : decode cX8_copy 108 = .ok (.if_icmp .le 10, 3) := by decide +kernel
theorem dX8_copy_111 : decode cX8_copy 111 = .ok (.aload_n 0, 1) := by decide +kernel
theorem dX8_copy_112 : decode cX8_copy 112 = .ok (.ldc 37, 2) := by decide +kernel
theorem dX8_copy_114 : decode cX8_copy 114 = .ok (.invokevirtual 39, 3) := by decide +kernel
theorem dX8_copy_117 : decode cX8_copy 117 = .ok (.ireturn, 1) := by decide +kernel
theorem dX8_copy_118 : decode cX8_copy 118 = .ok (.bipush 40, 2) := by decide +kernel
theorem dX8_copy_120 : decode cX8_copy 120 = .ok (.iload_n 1, 1) := by decide +kernel
theorem dX8_copy_121 : decode cX8_copy 121 = .ok (.imul, 1) := by decide +kernel
theorem dX8_copy_122 : decode cX8_copy 122 = .ok (.iload_n 2, 1) := by decide +kernel
theorem dX8_copy_123 : decode cX8_copy 123 = .ok (.iadd, 1) := by decide +kernel
theorem dX8_copy_124 : decode cX8_copy 124 = .ok (.istore 6, 2) := by decide +kernel
theorem dX8_copy_126 : decode cX8_copy 126 = .ok (.bipush 40, 2) := by decide +kernel
theorem dX8_copy_128 : decode cX8_copy 128 = .ok (.iload_n 3, 1) := by decide +kernel
theorem dX8_copy_129 : decode cX8_copy 129 = .ok (.imul, 1) := by decide +kernel
theorem dX8_copy_130 : decode cX8_copy 130 = .ok (.iload 4, 2) := by decide +kernel
theorem dX8_copy_132 : decode cX8_copy 132 = .ok (.iadd, 1) := by decide +kernel
theorem dX8_copy_133 : decode cX8_copy 133 = .ok (.istore 7, 2) := by decide +kernel
theorem dX8_copy_135 : decode cX8_copy 135 = .ok (.iconst 0, 1) := by decide +kernel
theorem dX8_copy_136 : decode cX8_copy 136 = .ok (.istore 8, 2) := by decide +kernel
theorem dX8_copy_138 : decode cX8_copy 138 = .ok (.iload 8, 2) := by decide +kernel
theorem dX8_copy_140 : decode cX8_copy 140 = .ok (.iload 5, 2) := by decide +kernel
theorem dX8_copy_142 : decode cX8_copy 142 = .ok (.if_icmp .ge 50, 3) := by decide +kernel
theorem dX8_copy_145 : decode cX8_copy 145 = .ok (.iload 6, 2) := by decide +kernel
theorem dX8_copy_147 : decode cX8_copy 147 = .ok (.iload 7, 2) := by decide +kernel
theorem dX8_copy_149 : decode cX8_copy 149 = .ok (.if_icmp .ge 13, 3) := by decide +kernel
theorem dX8_copy_152 : decode cX8_copy 152 = .ok (.iload 5, 2) := by decide +kernel
theorem dX8_copy_154 : decode cX8_copy 154 = .ok (.iconst 1, 1) := by decide +kernel
theorem dX8_copy_155 : decode cX8_copy 155 = .ok (.isub, 1) := by decide +kernel
theorem dX8_copy_156 : decode cX8_copy 156 = .ok (.iload 8, 2) := by decide +kernel
theorem dX8_copy_158 : decode cX8_copy 158 = .ok (.isub, 1) := by decide +kernel
theorem dX8_copy_159 : decode cX8_copy 159 = .ok (.goto 5, 3) := by decide +kernel
theorem dX8_copy_162 : decode cX8_copy 162 = .ok (.iload 8, 2) := by decide +kernel
theorem dX8_copy_164 : decode cX8_copy 164 = .ok (.istore 9, 2) := by decide +kernel
theorem dX8_copy_166 : decode cX8_copy 166 = .ok (.aload_n 0, 1) := by decide +kernel
theorem dX8_copy_167 : decode cX8_copy 167 = .ok (.getfield 34, 3) := by decide +kernel
theorem dX8_copy_170 : decode cX8_copy 170 = .ok (.iload 7, 2) := by decide +kernel
theorem dX8_copy_172 : decode cX8_copy 172 = .ok (.iload 9, 2) := by decide +kernel
theorem dX8_copy_174 : decode cX8_copy 174 = .ok (.iadd, 1) := by decide +kernel
theorem dX8_copy_175 : decode cX8_copy 175 = .ok (.aload_n 0, 1) := by decide +kernel
theorem dX8_copy_176 : decode cX8_copy 176 = .ok (.getfield 34, 3) := by decide +kernel
theorem dX8_copy_179 : decode cX8_copy 179 = .ok (.iload 6, 2) := by decide +kernel
theorem dX8_copy_181 : decode cX8_copy 181 = .ok (.iload 9, 2) := by decide +kernel
theorem dX8_copy_183 : decode cX8_copy 183 = .ok (.iadd, 1) := by decide +kernel
theorem dX8_copy_184 : decode cX8_copy 184 = .ok (.iaload, 1) := by decide +kernel
theorem dX8_copy_185 : decode cX8_copy 185 = .ok (.iastore, 1) := by decide +kernel
theorem dX8_copy_186 : decode cX8_copy 186 = .ok (.iinc 8 1, 3) := by decide +kernel
theorem dX8_copy_189 : decode cX8_copy 189 = .ok (.goto (-51), 3) := by decide +kernel
theorem dX8_copy_192 : decode cX8_copy 192 = .ok (.iload 5, 2) := by decide +kernel
theorem dX8_copy_194 : decode cX8_copy 194 = .ok (.ireturn, 1) := by decide +kernel
theorem dX8_wants_0 : decode cX8_wants 0 = .ok (.iload_n 1, 1) := by decide +kernel
theorem dX8_wants_1 : decode cX8_wants 1 = .ok (.invokestatic 296, 3) := by decide +kernel
theorem dX8_wants_4 : decode cX8_wants 4 = .ok (.ifCond .ne 8, 3) := by decide +kernel
theorem dX8_wants_7 : decode cX8_wants 7 = .ok (.ldc 37, 2) := by decide +kernel
theorem dX8_wants_9 : decode cX8_wants 9 = .ok (.goto 19, 3) := by decide +kernel
theorem dX8_wants_12 : decode cX8_wants 12 = .ok (.aload_n 0, 1) := by decide +kernel
theorem dX8_wants_13 : decode cX8_wants 13 = .ok (.getfield 28, 3) := by decide +kernel
theorem dX8_wants_16 : decode cX8_wants 16 = .ok (.iload_n 1, 1) := by decide +kernel
theorem dX8_wants_17 : decode cX8_wants 17 = .ok (.iaload, 1) := by decide +kernel
theorem dX8_wants_18 : decode cX8_wants 18 = .ok (.ifCond .ge 9, 3) := by decide +kernel
theorem dX8_wants_21 : decode cX8_wants 21 = .ok (.ldc_w 291, 3) := by decide +kernel
theorem dX8_wants_24 : decode cX8_wants 24 = .ok (.goto 4, 3) := by decide +kernel
theorem dX8_wants_27 : decode cX8_wants 27 = .ok (.iconst 0, 1) := by decide +kernel
theorem dX8_wants_28 : decode cX8_wants 28 = .ok (.ireturn, 1) := by decide +kernel
theorem dX8_load_0 : decode cX8_load 0 = .ok (.aload_n 0, 1) := by decide +kernel
theorem dX8_load_1 : decode cX8_load 1 = .ok (.iload_n 1, 1) := by decide +kernel
theorem dX8_load_2 : decode cX8_load 2 = .ok (.invokevirtual 187, 3) := by decide +kernel
theorem dX8_load_5 : decode cX8_load 5 = .ok (.ifCond .eq 13, 3) := by decide +kernel
theorem dX8_load_8 : decode cX8_load 8 = .ok (.aload_n 0, 1) := by decide +kernel
theorem dX8_load_9 : decode cX8_load 9 = .ok (.aload_n 0, 1) := by decide +kernel
theorem dX8_load_10 : decode cX8_load 10 = .ok (.iload_n 1, 1) := by decide +kernel
theorem dX8_load_11 : decode cX8_load 11 = .ok (.invokevirtual 187, 3) := by decide +kernel
theorem dX8_load_14 : decode cX8_load 14 = .ok (.invokevirtual 39, 3) := by decide +kernel
theorem dX8_load_17 : decode cX8_load 17 = .ok (.ireturn, 1) := by decide +kernel
theorem dX8_load_18 : decode cX8_load 18 = .ok (.iconst 0, 1) := by decide +kernel
theorem dX8_load_19 : decode cX8_load 19 = .ok (.istore_n 2, 1) := by decide +kernel
theorem dX8_load_20 : decode cX8_load 20 = .ok (.iload_n 2, 1) := by decide +kernel
theorem dX8_load_21 : decode cX8_load 21 = .ok (.aload_n 0, 1) := by decide +kernel
theorem dX8_load_22 : decode cX8_load 22 = .ok (.getfield 31, 3) := by decide +kernel
theorem dX8_load_25 : decode cX8_load 25 = .ok (.iload_n 1, 1) := by decide +kernel
theorem dX8_load_26 : decode cX8_load 26 = .ok (.iaload, 1) := by decide +kernel
theorem dX8_load_27 : decode cX8_load 27 = .ok (.if_icmp .ge 57, 3) := by decide +kernel
theorem dX8_load_30 : decode cX8_load 30 = .ok (.iload_n 2, 1) := by decide +kernel
theorem dX8_load_31 : decode cX8_load 31 = .ok (.bipush 16, 2) := by decide +kernel
theorem dX8_load_33 : decode cX8_load 33 = .ok (.if_icmp .ge 51, 3) := by decide +kernel
theorem dX8_load_36 : decode cX8_load 36 = .ok (.aload_n 0, 1) := by decide +kernel
theorem dX8_load_37 : decode cX8_load 37 = .ok (.getfield 34, 3) := by decide +kernel
theorem dX8_load_40 : decode cX8_load 40 = .ok (.bipush 40, 2) := by decide +kernel
theorem dX8_load_42 : decode cX8_load 42 = .ok (.iload_n 1, 1) := by decide +kernel
theorem dX8_load_43 : decode cX8_load 43 = .ok (.imul, 1) := by decide +kernel
theorem dX8_load_44 : decode cX8_load 44 = .ok (.iload_n 2, 1) := by decide +kernel
theorem dX8_load_45 : decode cX8_load 45 = .ok (.iadd, 1) := by decide +kernel
theorem dX8_load_46 : decode cX8_load 46 = .ok (.iaload, 1) := by decide +kernel
theorem dX8_load_47 : decode cX8_load 47 = .ok (.i2l, 1) := by decide +kernel
theorem dX8_load_48 : decode cX8_load 48 = .ok (.lconst 0, 1) := by decide +kernel
theorem dX8_load_49 : decode cX8_load 49 = .ok (.ldc2_w 53, 3) := by decide +kernel
theorem dX8_load_52 : decode cX8_load 52 = .ok (.invokestatic 49, 3) := by decide +kernel
theorem dX8_load_55 : decode cX8_load 55 = .ok (.ifCond .eq 29, 3) := by decide +kernel
theorem dX8_load_58 : decode cX8_load 58 = .ok (.aload_n 0, 1) := by decide +kernel
theorem dX8_load_59 : decode cX8_load 59 = .ok (.getfield 7, 3) := by decide +kernel
theorem dX8_load_62 : decode cX8_load 62 = .ok (.bipush 21, 2) := by decide +kernel
theorem dX8_load_64 : decode cX8_load 64 = .ok (.iload_n 2, 1) := by decide +kernel
theorem dX8_load_65 : decode cX8_load 65 = .ok (.iadd, 1) := by decide +kernel
theorem dX8_load_66 : decode cX8_load 66 = .ok (.aload_n 0, 1) := by decide +kernel
theorem dX8_load_67 : decode cX8_load 67 = .ok (.getfield 34, 3) := by decide +kernel
theorem dX8_load_70 : decode cX8_load 70 = .ok (.bipush 40, 2) := by decide +kernel
theorem dX8_load_72 : decode cX8_load 72 = .ok (.iload_n 1, 1) := by decide +kernel
theorem dX8_load_73 : decode cX8_load 73 = .ok (.imul, 1) := by decide +kernel
theorem dX8_load_74 : decode cX8_load 74 = .ok (.iload_n 2, 1) := by decide +kernel
theorem dX8_load_75 : decode cX8_load 75 = .ok (.iadd, 1) := by decide +kernel
theorem dX8_load_76 : decode cX8_load 76 = .ok (.iaload, 1) := by decide +kernel
theorem dX8_load_77 : decode cX8_load 77 = .ok (.iastore, 1) := by decide +kernel
theorem dX8_load_78 : decode cX8_load 78 = .ok (.iinc 2 1, 3) := by decide +kernel
theorem dX8_load_81 : decode cX8_load 81 = .ok (.goto (-61), 3) := by decide +kernel
theorem dX8_load_84 : decode cX8_load 84 = .ok (.iload_n 2, 1) := by decide +kernel
theorem dX8_load_85 : decode cX8_load 85 = .ok (.ireturn, 1) := by decide +kernel
theorem dX8_judge_0 : decode cX8_judge 0 = .ok (.aload_n 0, 1) := by decide +kernel
theorem dX8_judge_1 : decode cX8_judge 1 = .ok (.iload_n 1, 1) := by decide +kernel
theorem dX8_judge_2 : decode cX8_judge 2 = .ok (.invokevirtual 187, 3) := by decide +kernel
theorem dX8_judge_5 : decode cX8_judge 5 = .ok (.ifCond .eq 13, 3) := by decide +kernel
theorem dX8_judge_8 : decode cX8_judge 8 = .ok (.aload_n 0, 1) := by decide +kernel
theorem dX8_judge_9 : decode cX8_judge 9 = .ok (.aload_n 0, 1) := by decide +kernel
theorem dX8_judge_10 : decode cX8_judge 10 = .ok (.iload_n 1, 1) := by decide +kernel
theorem dX8_judge_11 : decode cX8_judge 11 = .ok (.invokevirtual 187, 3) := by decide +kernel
theorem dX8_judge_14 : decode cX8_judge 14 = .ok (.invokevirtual 39, 3) := by decide +kernel
theorem dX8_judge_17 : decode cX8_judge 17 = .ok (.ireturn, 1) := by decide +kernel
theorem dX8_judge_18 : decode cX8_judge 18 = .ok (.iconst 0, 1) := by decide +kernel
theorem dX8_judge_19 : decode cX8_judge 19 = .ok (.istore_n 2, 1) := by decide +kernel
theorem dX8_judge_20 : decode cX8_judge 20 = .ok (.iload_n 2, 1) := by decide +kernel
theorem dX8_judge_21 : decode cX8_judge 21 = .ok (.aload_n 0, 1) := by decide +kernel
theorem dX8_judge_22 : decode cX8_judge 22 = .ok (.getfield 31, 3) := by decide +kernel
theorem dX8_judge_25 : decode cX8_judge 25 = .ok (.iload_n 1, 1) := by decide +kernel
theorem dX8_judge_26 : decode cX8_judge 26 = .ok (.iaload, 1) := by decide +kernel
theorem dX8_judge_27 : decode cX8_judge 27 = .ok (.if_icmp .ge 34, 3) := by decide +kernel
theorem dX8_judge_30 : decode cX8_judge 30 = .ok (.iload_n 2, 1) := by decide +kernel
theorem dX8_judge_31 : decode cX8_judge 31 = .ok (.bipush 16, 2) := by decide +kernel
theorem dX8_judge_33 : decode cX8_judge 33 = .ok (.if_icmp .ge 28, 3) := by decide +kernel
theorem dX8_judge_36 : decode cX8_judge 36 = .ok (.aload_n 0, 1) := by decide +kernel
theorem dX8_judge_37 : decode cX8_judge 37 = .ok (.getfield 34, 3) := by decide +kernel
theorem dX8_judge_40 : decode cX8_judge 40 = .ok (.bipush 40, 2) := by decide +kernel
theorem dX8_judge_42 : decode cX8_judge 42 = .ok (.iload_n 1, 1) := by decide +kernel
theorem dX8_judge_43 : decode cX8_judge 43 = .ok (.imul, 1) := by decide +kernel
theorem dX8_judge_44 : decode cX8_judge 44 = .ok (.iload_n 2, 1) := by decide +kernel
theorem dX8_judge_45 : decode cX8_judge 45 = .ok (.iadd, 1) := by decide +kernel
theorem dX8_judge_46 : decode cX8_judge 46 = .ok (.iaload, 1) := by decide +kernel
theorem dX8_judge_47 : decode cX8_judge 47 = .ok (.aload_n 0, 1) := by decide +kernel
theorem dX8_judge_48 : decode cX8_judge 48 = .ok (.iload_n 2, 1) := by decide +kernel
theorem dX8_judge_49 : decode cX8_judge 49 = .ok (.invokevirtual 64, 3) := by decide +kernel
theorem dX8_judge_52 : decode cX8_judge 52 = .ok (.if_icmp .ne 9, 3) := by decide +kernel
theorem dX8_judge_55 : decode cX8_judge 55 = .ok (.iinc 2 1, 3) := by decide +kernel
theorem dX8_judge_58 : decode cX8_judge 58 = .ok (.goto (-38), 3) := by decide +kernel
theorem dX8_judge_61 : decode cX8_judge 61 = .ok (.iload_n 2, 1) := by decide +kernel
theorem dX8_judge_62 : decode cX8_judge 62 = .ok (.aload_n 0, 1) := by decide +kernel
theorem dX8_judge_63 : decode cX8_judge 63 = .ok (.getfield 31, 3) := by decide +kernel
theorem dX8_judge_66 : decode cX8_judge 66 = .ok (.iload_n 1, 1) := by decide +kernel
theorem dX8_judge_67 : decode cX8_judge 67 = .ok (.iaload, 1) := by decide +kernel
theorem dX8_judge_68 : decode cX8_judge 68 = .ok (.if_icmp .ge 9, 3) := by decide +kernel
theorem dX8_judge_71 : decode cX8_judge 71 = .ok (.iconst 1, 1) := by decide +kernel
theorem dX8_judge_72 : decode cX8_judge 72 = .ok (.iload_n 2, 1) := by decide +kernel
theorem dX8_judge_73 : decode cX8_judge 73 = .ok (.iadd, 1) := by decide +kernel
theorem dX8_judge_74 : decode cX8_judge 74 = .ok (.goto 4, 3) := by decide +kernel
theorem dX8_judge_77 : decode cX8_judge 77 = .ok (.iconst 0, 1) := by decide +kernel
theorem dX8_judge_78 : decode cX8_judge 78 = .ok (.ireturn, 1) := by decide +kernel
theorem dX8_image_0 : decode cX8_image 0 = .ok (.aload_n 0, 1) := by decide +kernel
theorem dX8_image_1 : decode cX8_image 1 = .ok (.getfield 7, 3) := by decide +kernel
theorem dX8_image_4 : decode cX8_image 4 = .ok (.aload_n 0, 1) := by decide +kernel
theorem dX8_image_5 : decode cX8_image 5 = .ok (.getfield 13, 3) := by decide +kernel
theorem dX8_image_8 : decode cX8_image 8 = .ok (.invokestatic 140, 3) := by decide +kernel
theorem dX8_image_11 : decode cX8_image 11 = .ok (.aload_n 0, 1) := by decide +kernel
theorem dX8_image_12 : decode cX8_image 12 = .ok (.iconst 1, 1) := by decide +kernel
theorem dX8_image_13 : decode cX8_image 13 = .ok (.putfield 300, 3) := by decide +kernel
theorem dX8_image_16 : decode cX8_image 16 = .ok (.iconst 1, 1) := by decide +kernel
theorem dX8_image_17 : decode cX8_image 17 = .ok (.ireturn, 1) := by decide +kernel
theorem dX8_undo_0 : decode cX8_undo 0 = .ok (.aload_n 0, 1) := by decide +kernel
theorem dX8_undo_1 : decode cX8_undo 1 = .ok (.getfield 300, 3) := by decide +kernel
theorem dX8_undo_4 : decode cX8_undo 4 = .ok (.ifCond .ne 10, 3) := by decide +kernel
theorem dX8_undo_7 : decode cX8_undo 7 = .ok (.aload_n 0, 1) := by decide +kernel
theorem dX8_undo_8 : decode cX8_undo 8 = .ok (.ldc 38, 2) := by decide +kernel
theorem dX8_undo_10 : decode cX8_undo 10 = .ok (.invokevirtual 39, 3) := by decide +kernel
theorem dX8_undo_13 : decode cX8_undo 13 = .ok (.ireturn, 1) := by decide +kernel
theorem dX8_undo_14 : decode cX8_undo 14 = .ok (.aload_n 0, 1) := by decide +kernel
theorem dX8_undo_15 : decode cX8_undo 15 = .ok (.getfield 13, 3) := by decide +kernel
theorem dX8_undo_18 : decode cX8_undo 18 = .ok (.aload_n 0, 1) := by decide +kernel
theorem dX8_undo_19 : decode cX8_undo 19 = .ok (.getfield 7, 3) := by decide +kernel
theorem dX8_undo_22 : decode cX8_undo 22 = .ok (.invokestatic 140, 3) := by decide +kernel
theorem dX8_undo_25 : decode cX8_undo 25 = .ok (.aload_n 0, 1) := by decide +kernel
theorem dX8_undo_26 : decode cX8_undo 26 = .ok (.getfield 7, 3) := by decide +kernel
theorem dX8_undo_29 : decode cX8_undo 29 = .ok (.iconst 1, 1) := by decide +kernel
theorem dX8_undo_30 : decode cX8_undo 30 = .ok (.iaload, 1) := by decide +kernel
theorem dX8_undo_31 : decode cX8_undo 31 = .ok (.ireturn, 1) := by decide +kernel
theorem dX8_tear_0 : decode cX8_tear 0 = .ok (.aload_n 0, 1) := by decide +kernel
theorem dX8_tear_1 : decode cX8_tear 1 = .ok (.getfield 300, 3) := by decide +kernel
theorem dX8_tear_4 : decode cX8_tear 4 = .ok (.istore_n 1, 1) := by decide +kernel
theorem dX8_tear_5 : decode cX8_tear 5 = .ok (.aload_n 0, 1) := by decide +kernel
theorem dX8_tear_6 : decode cX8_tear 6 = .ok (.iconst 0, 1) := by decide +kernel
theorem dX8_tear_7 : decode cX8_tear 7 = .ok (.putfield 300, 3) := by decide +kernel
theorem dX8_tear_10 : decode cX8_tear 10 = .ok (.iload_n 1, 1) := by decide +kernel
theorem dX8_tear_11 : decode cX8_tear 11 = .ok (.ifCond .eq 7, 3) := by decide +kernel
theorem dX8_tear_14 : decode cX8_tear 14 = .ok (.iconst 1, 1) := by decide +kernel
theorem dX8_tear_15 : decode cX8_tear 15 = .ok (.goto 4, 3) := by decide +kernel
theorem dX8_tear_18 : decode cX8_tear 18 = .ok (.iconst 0, 1) := by decide +kernel
theorem dX8_tear_19 : decode cX8_tear 19 = .ok (.ireturn, 1) := by decide +kernel
theorem dX8_count_0 : decode cX8_count 0 = .ok (.iconst 0, 1) := by decide +kernel
theorem dX8_count_1 : decode cX8_count 1 = .ok (.istore_n 2, 1) := by decide +kernel
theorem dX8_count_2 : decode cX8_count 2 = .ok (.iload_n 1, 1) := by decide +kernel
theorem dX8_count_3 : decode cX8_count 3 = .ok (.tableswitch 128 0 7 #[45, 52, 59, 67, 74, 80, 85, 92], 45) := by decide +kernel
theorem dX8_count_48 : decode cX8_count 48 = .ok (.aload_n 0, 1) := by decide +kernel
theorem dX8_count_49 : decode cX8_count 49 = .ok (.getfield 7, 3) := by decide +kernel
theorem dX8_count_52 : decode cX8_count 52 = .ok (.iconst 1, 1) := by decide +kernel
theorem dX8_count_53 : decode cX8_count 53 = .ok (.iaload, 1) := by decide +kernel
theorem dX8_count_54 : decode cX8_count 54 = .ok (.ireturn, 1) := by decide +kernel
theorem dX8_count_55 : decode cX8_count 55 = .ok (.aload_n 0, 1) := by decide +kernel
theorem dX8_count_56 : decode cX8_count 56 = .ok (.getfield 7, 3) := by decide +kernel
theorem dX8_count_59 : decode cX8_count 59 = .ok (.iconst 0, 1) := by decide +kernel
theorem dX8_count_60 : decode cX8_count 60 = .ok (.iaload, 1) := by decide +kernel
theorem dX8_count_61 : decode cX8_count 61 = .ok (.ireturn, 1) := by decide +kernel
theorem dX8_count_62 : decode cX8_count 62 = .ok (.aload_n 0, 1) := by decide +kernel
theorem dX8_count_63 : decode cX8_count 63 = .ok (.invokevirtual 126, 3) := by decide +kernel
theorem dX8_count_66 : decode cX8_count 66 = .ok (.invokestatic 204, 3) := by decide +kernel
theorem dX8_count_69 : decode cX8_count 69 = .ok (.ireturn, 1) := by decide +kernel
theorem dX8_count_70 : decode cX8_count 70 = .ok (.aload_n 0, 1) := by decide +kernel
theorem dX8_count_71 : decode cX8_count 71 = .ok (.bipush 7, 2) := by decide +kernel
theorem dX8_count_73 : decode cX8_count 73 = .ok (.invokevirtual 129, 3) := by decide +kernel
theorem dX8_count_76 : decode cX8_count 76 = .ok (.ireturn, 1) := by decide +kernel
theorem dX8_count_77 : decode cX8_count 77 = .ok (.aload_n 0, 1) := by decide +kernel
theorem dX8_count_78 : decode cX8_count 78 = .ok (.iconst 4, 1) := by decide +kernel
theorem dX8_count_79 : decode cX8_count 79 = .ok (.invokevirtual 129, 3) := by decide +kernel
theorem dX8_count_82 : decode cX8_count 82 = .ok (.ireturn, 1) := by decide +kernel
theorem dX8_count_83 : decode cX8_count 83 = .ok (.aload_n 0, 1) := by decide +kernel
theorem dX8_count_84 : decode cX8_count 84 = .ok (.getfield 209, 3) := by decide +kernel
theorem dX8_count_87 : decode cX8_count 87 = .ok (.ireturn, 1) := by decide +kernel
theorem dX8_count_88 : decode cX8_count 88 = .ok (.aload_n 0, 1) := by decide +kernel
theorem dX8_count_89 : decode cX8_count 89 = .ok (.getfield 7, 3) := by decide +kernel
theorem dX8_count_92 : decode cX8_count 92 = .ok (.iconst 2, 1) := by decide +kernel
theorem dX8_count_93 : decode cX8_count 93 = .ok (.iaload, 1) := by decide +kernel
theorem dX8_count_94 : decode cX8_count 94 = .ok (.ireturn, 1) := by decide +kernel
theorem dX8_count_95 : decode cX8_count 95 = .ok (.iconst 0, 1) := by decide +kernel
theorem dX8_count_96 : decode cX8_count 96 = .ok (.istore_n 3, 1) := by decide +kernel
theorem dX8_count_97 : decode cX8_count 97 = .ok (.iload_n 3, 1) := by decide +kernel
theorem dX8_count_98 : decode cX8_count 98 = .ok (.bipush 10, 2) := by decide +kernel
theorem dX8_count_100 : decode cX8_count 100 = .ok (.if_icmp .ge 29, 3) := by decide +kernel
theorem dX8_count_103 : decode cX8_count 103 = .ok (.iload_n 2, 1) := by decide +kernel
theorem dX8_count_104 : decode cX8_count 104 = .ok (.aload_n 0, 1) := by decide +kernel
theorem dX8_count_105 : decode cX8_count 105 = .ok (.getfield 7, 3) := by decide +kernel
theorem dX8_count_108 : decode cX8_count 108 = .ok (.bipush 117, 2) := by decide +kernel
theorem dX8_count_110 : decode cX8_count 110 = .ok (.iload_n 3, 1) := by decide +kernel
theorem dX8_count_111 : decode cX8_count 111 = .ok (.iadd, 1) := by decide +kernel
theorem dX8_count_112 : decode cX8_count 112 = .ok (.iaload, 1) := by decide +kernel
theorem dX8_count_113 : decode cX8_count 113 = .ok (.ifCond .ge 7, 3) := by decide +kernel
theorem dX8_count_116 : decode cX8_count 116 = .ok (.iconst 0, 1) := by decide +kernel
theorem dX8_count_117 : decode cX8_count 117 = .ok (.goto 4, 3) := by decide +kernel
theorem dX8_count_120 : decode cX8_count 120 = .ok (.iconst 1, 1) := by decide +kernel
theorem dX8_count_121 : decode cX8_count 121 = .ok (.iadd, 1) := by decide +kernel
theorem dX8_count_122 : decode cX8_count 122 = .ok (.istore_n 2, 1) := by decide +kernel
theorem dX8_count_123 : decode cX8_count 123 = .ok (.iinc 3 1, 3) := by decide +kernel
theorem dX8_count_126 : decode cX8_count 126 = .ok (.goto (-29), 3) := by decide +kernel
theorem dX8_count_129 : decode cX8_count 129 = .ok (.iload_n 2, 1) := by decide +kernel
theorem dX8_count_130 : decode cX8_count 130 = .ok (.ireturn, 1) := by decide +kernel
theorem dX8_count_131 : decode cX8_count 131 = .ok (.aload_n 0, 1) := by decide +kernel
theorem dX8_count_132 : decode cX8_count 132 = .ok (.ldc 37, 2) := by decide +kernel
theorem dX8_count_134 : decode cX8_count 134 = .ok (.invokevirtual 39, 3) := by decide +kernel
theorem dX8_count_137 : decode cX8_count 137 = .ok (.ireturn, 1) := by decide +kernel
theorem dX8_status_0 : decode cX8_status 0 = .ok (.iload_n 1, 1) := by decide +kernel
theorem dX8_status_1 : decode cX8_status 1 = .ok (.i2l, 1) := by decide +kernel
theorem dX8_status_2 : decode cX8_status 2 = .ok (.ldc2_w 304, 3) := by decide +kernel
theorem dX8_status_5 : decode cX8_status 5 = .ok (.ldc2_w 73, 3) := by decide +kernel
theorem dX8_status_8 : decode cX8_status 8 = .ok (.invokestatic 49, 3) := by decide +kernel
theorem dX8_status_11 : decode cX8_status 11 = .ok (.ifCond .eq 14, 3) := by decide +kernel
theorem dX8_status_14 : decode cX8_status 14 = .ok (.aload_n 0, 1) := by decide +kernel
theorem dX8_status_15 : decode cX8_status 15 = .ok (.getfield 22, 3) := by decide +kernel
theorem dX8_status_18 : decode cX8_status 18 = .ok (.iload_n 1, 1) := by decide +kernel
theorem dX8_status_19 : decode cX8_status 19 = .ok (.iconst 1, 1) := by decide +kernel
theorem dX8_status_20 : decode cX8_status 20 = .ok (.iadd, 1) := by decide +kernel
theorem dX8_status_21 : decode cX8_status 21 = .ok (.iaload, 1) := by decide +kernel
theorem dX8_status_22 : decode cX8_status 22 = .ok (.goto 9, 3) := by decide +kernel
theorem dX8_status_25 : decode cX8_status 25 = .ok (.aload_n 0, 1) := by decide +kernel
theorem dX8_status_26 : decode cX8_status 26 = .ok (.ldc 37, 2) := by decide +kernel
theorem dX8_status_28 : decode cX8_status 28 = .ok (.invokevirtual 39, 3) := by decide +kernel
theorem dX8_status_31 : decode cX8_status 31 = .ok (.ireturn, 1) := by decide +kernel
