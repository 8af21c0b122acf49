theorem dX2_init_5 : decode cX2_init 5 = .ok (.bipush 60, 2) := by decide +kernel
theorem dX2_init_7 : decode cX2_init 7 = .ok (.newarray .int, 2) := by decide +kernel
theorem dX2_init_9 : decode cX2_init 9 = .ok (.putfield 9, 3) := by decide +kernel
theorem dX2_init_12 : decode cX2_init 12 = .ok (.aload_n 0, 1) := by decide +kernel
theorem dX2_init_13 : decode cX2_init 13 = .ok (.bipush 60, 2) := by decide +kernel
theorem dX2_init_15 : decode cX2_init 15 = .ok (.newarray .int, 2) := by decide +kernel
theorem dX2_init_17 : decode cX2_init 17 = .ok (.putfield 15, 3) := by decide +kernel
theorem dX2_init_20 : decode cX2_init 20 = .ok (.aload_n 0, 1) := by decide +kernel
theorem dX2_init_21 : decode cX2_init 21 = .ok (.bipush 60, 2) := by decide +kernel
theorem dX2_init_23 : decode cX2_init 23 = .ok (.newarray .int, 2) := by decide +kernel
theorem dX2_init_25 : decode cX2_init 25 = .ok (.putfield 18, 3) := by decide +kernel
theorem dX2_init_28 : decode cX2_init 28 = .ok (.aload_n 0, 1) := by decide +kernel
theorem dX2_init_29 : decode cX2_init 29 = .ok (.bipush 60, 2) := by decide +kernel
theorem dX2_init_31 : decode cX2_init 31 = .ok (.newarray .int, 2) := by decide +kernel
theorem dX2_init_33 : decode cX2_init 33 = .ok (.putfield 21, 3) := by decide +kernel
theorem dX2_init_36 : decode cX2_init 36 = .ok (.aload_n 0, 1) := by decide +kernel
theorem dX2_init_37 : decode cX2_init 37 = .ok (.bipush 60, 2) := by decide +kernel
theorem dX2_init_39 : decode cX2_init 39 = .ok (.newarray .long, 2) := by decide +kernel
theorem dX2_init_41 : decode cX2_init 41 = .ok (.putfield 24, 3) := by decide +kernel
theorem dX2_init_44 : decode cX2_init 44 = .ok (.aload_n 0, 1) := by decide +kernel
theorem dX2_init_45 : decode cX2_init 45 = .ok (.iconst 0, 1) := by decide +kernel
theorem dX2_init_46 : decode cX2_init 46 = .ok (.putfield 28, 3) := by decide +kernel
theorem dX2_init_49 : decode cX2_init 49 = .ok (.return_, 1) := by decide +kernel
theorem dX3_init_0 : decode cX3_init 0 = .ok (.aload_n 0, 1) := by decide +kernel
theorem dX3_init_1 : decode cX3_init 1 = .ok (.invokespecial 3, 3) := by decide +kernel
theorem dX3_init_4 : decode cX3_init 4 = .ok (.aload_n 0, 1) := by decide +kernel
theorem dX3_init_5 : decode cX3_init 5 = .ok (.iconst 0, 1) := by decide +kernel
theorem dX3_init_6 : decode cX3_init 6 = .ok (.putfield 9, 3) := by decide +kernel
theorem dX3_init_9 : decode cX3_init 9 = .ok (.aload_n 0, 1) := by decide +kernel
theorem dX3_init_10 : decode cX3_init 10 = .ok (.iconst 0, 1) := by decide +kernel
theorem dX3_init_11 : decode cX3_init 11 = .ok (.putfield 15, 3) := by decide +kernel
theorem dX3_init_14 : decode cX3_init 14 = .ok (.aload_n 0, 1) := by decide +kernel
theorem dX3_init_15 : decode cX3_init 15 = .ok (.iconst 0, 1) := by decide +kernel
theorem dX3_init_16 : decode cX3_init 16 = .ok (.putfield 18, 3) := by decide +kernel
theorem dX3_init_19 : decode cX3_init 19 = .ok (.return_, 1) := by decide +kernel
theorem dX4_init_0 : decode cX4_init 0 = .ok (.aload_n 0, 1) := by decide +kernel
theorem dX4_init_1 : decode cX4_init 1 = .ok (.invokespecial 1, 3) := by decide +kernel
theorem dX4_init_4 : decode cX4_init 4 = .ok (.aload_n 0, 1) := by decide +kernel
theorem dX4_init_5 : decode cX4_init 5 = .ok (.new 7, 3) := by decide +kernel
theorem dX4_init_8 : decode cX4_init 8 = .ok (.dup, 1) := by decide +kernel
theorem dX4_init_9 : decode cX4_init 9 = .ok (.invokespecial 9, 3) := by decide +kernel
theorem dX4_init_12 : decode cX4_init 12 = .ok (.putfield 10, 3) := by decide +kernel
theorem dX4_init_15 : decode cX4_init 15 = .ok (.aload_n 0, 1) := by decide +kernel
theorem dX4_init_16 : decode cX4_init 16 = .ok (.iconst 3, 1) := by decide +kernel
theorem dX4_init_17 : decode cX4_init 17 = .ok (.anewarray 16, 3) := by decide +kernel
theorem dX4_init_20 : decode cX4_init 20 = .ok (.putfield 18, 3) := by decide +kernel
theorem dX4_init_23 : decode cX4_init 23 = .ok (.iconst 0, 1) := by decide +kernel
theorem dX4_init_24 : decode cX4_init 24 = .ok (.istore_n 1, 1) := by decide +kernel
theorem dX4_init_25 : decode cX4_init 25 = .ok (.iload_n 1, 1) := by decide +kernel
theorem dX4_init_26 : decode cX4_init 26 = .ok (.iconst 3, 1) := by decide +kernel
theorem dX4_init_27 : decode cX4_init 27 = .ok (.if_icmp .ge 22, 3) := by decide +kernel
theorem dX4_init_30 : decode cX4_init 30 = .ok (.aload_n 0, 1) := by decide +kernel
theorem dX4_init_31 : decode cX4_init 31 = .ok (.getfield 18, 3) := by decide +kernel
theorem dX4_init_34 : decode cX4_init 34 = .ok (.iload_n 1, 1) := by decide +kernel
theorem dX4_init_35 : decode cX4_init 35 = .ok (.new 16, 3) := by decide +kernel
theorem dX4_init_38 : decode cX4_init 38 = .ok (.dup, 1) := by decide +kernel
theorem dX4_init_39 : decode cX4_init 39 = .ok (.invokespecial 22, 3) := by decide +kernel
theorem dX4_init_42 : decode cX4_init 42 = .ok (.aastore, 1) := by decide +kernel
theorem dX4_init_43 : decode cX4_init 43 = .ok (.iinc 1 1, 3) := by decide +kernel
theorem dX4_init_46 : decode cX4_init 46 = .ok (.goto (-21), 3) := by decide +kernel
theorem dX4_init_49 : decode cX4_init 49 = .ok (.aload_n 0, 1) := by decide +kernel
theorem dX4_init_50 : decode cX4_init 50 = .ok (.new 23, 3) := by decide +kernel
theorem dX4_init_53 : decode cX4_init 53 = .ok (.dup, 1) := by decide +kernel
theorem dX4_init_54 : decode cX4_init 54 = .ok (.invokespecial 25, 3) := by decide +kernel
theorem dX4_init_57 : decode cX4_init 57 = .ok (.putfield 26, 3) := by decide +kernel
theorem dX4_init_60 : decode cX4_init 60 = .ok (.aload_n 0, 1) := by decide +kernel
theorem dX4_init_61 : decode cX4_init 61 = .ok (.new 30, 3) := by decide +kernel
theorem dX4_init_64 : decode cX4_init 64 = .ok (.dup, 1) := by decide +kernel
theorem dX4_init_65 : decode cX4_init 65 = .ok (.invokespecial 32, 3) := by decide +kernel
theorem dX4_init_68 : decode cX4_init 68 = .ok (.putfield 33, 3) := by decide +kernel
theorem dX4_init_71 : decode cX4_init 71 = .ok (.aload_n 0, 1) := by decide +kernel
theorem dX4_init_72 : decode cX4_init 72 = .ok (.iconst 4, 1) := by decide +kernel
theorem dX4_init_73 : decode cX4_init 73 = .ok (.newarray .int, 2) := by decide +kernel
theorem dX4_init_75 : decode cX4_init 75 = .ok (.putfield 37, 3) := by decide +kernel
theorem dX4_init_78 : decode cX4_init 78 = .ok (.aload_n 0, 1) := by decide +kernel
theorem dX4_init_79 : decode cX4_init 79 = .ok (.bipush 8, 2) := by decide +kernel
theorem dX4_init_81 : decode cX4_init 81 = .ok (.newarray .int, 2) := by decide +kernel
theorem dX4_init_83 : decode cX4_init 83 = .ok (.putfield 41, 3) := by decide +kernel
theorem dX4_init_86 : decode cX4_init 86 = .ok (.return_, 1) := by decide +kernel
theorem dX5_init_0 : decode cX5_init 0 = .ok (.aload_n 0, 1) := by decide +kernel
theorem dX5_init_1 : decode cX5_init 1 = .ok (.invokespecial 1, 3) := by decide +kernel
theorem dX5_init_4 : decode cX5_init 4 = .ok (.aload_n 0, 1) := by decide +kernel
theorem dX5_init_5 : decode cX5_init 5 = .ok (.bipush 60, 2) := by decide +kernel
theorem dX5_init_7 : decode cX5_init 7 = .ok (.newarray .int, 2) := by decide +kernel
theorem dX5_init_9 : decode cX5_init 9 = .ok (.putfield 7, 3) := by decide +kernel
theorem dX5_init_12 : decode cX5_init 12 = .ok (.aload_n 0, 1) := by decide +kernel
theorem dX5_init_13 : decode cX5_init 13 = .ok (.bipush 60, 2) := by decide +kernel
theorem dX5_init_15 : decode cX5_init 15 = .ok (.newarray .int, 2) := by decide +kernel
theorem dX5_init_17 : decode cX5_init 17 = .ok (.putfield 13, 3) := by decide +kernel
theorem dX5_init_20 : decode cX5_init 20 = .ok (.aload_n 0, 1) := by decide +kernel
theorem dX5_init_21 : decode cX5_init 21 = .ok (.bipush 60, 2) := by decide +kernel
theorem dX5_init_23 : decode cX5_init 23 = .ok (.newarray .int, 2) := by decide +kernel
theorem dX5_init_25 : decode cX5_init 25 = .ok (.putfield 16, 3) := by decide +kernel
theorem dX5_init_28 : decode cX5_init 28 = .ok (.aload_n 0, 1) := by decide +kernel
theorem dX5_init_29 : decode cX5_init 29 = .ok (.bipush 60, 2) := by decide +kernel
theorem dX5_init_31 : decode cX5_init 31 = .ok (.newarray .int, 2) := by decide +kernel
theorem dX5_init_33 : decode cX5_init 33 = .ok (.putfield 19, 3) := by decide +kernel
theorem dX5_init_36 : decode cX5_init 36 = .ok (.aload_n 0, 1) := by decide +kernel
theorem dX5_init_37 : decode cX5_init 37 = .ok (.iconst 3, 1) := by decide +kernel
theorem dX5_init_38 : decode cX5_init 38 = .ok (.newarray .long, 2) := by decide +kernel
theorem dX5_init_40 : decode cX5_init 40 = .ok (.putfield 22, 3) := by decide +kernel
theorem dX5_init_43 : decode cX5_init 43 = .ok (.aload_n 0, 1) := by decide +kernel
theorem dX5_init_44 : decode cX5_init 44 = .ok (.bipush 24, 2) := by decide +kernel
theorem dX5_init_46 : decode cX5_init 46 = .ok (.newarray .int, 2) := by decide +kernel
theorem dX5_init_48 : decode cX5_init 48 = .ok (.putfield 26, 3) := by decide +kernel
theorem dX5_init_51 : decode cX5_init 51 = .ok (.aload_n 0, 1) := by decide +kernel
theorem dX5_init_52 : decode cX5_init 52 = .ok (.iconst 3, 1) := by decide +kernel
theorem dX5_init_53 : decode cX5_init 53 = .ok (.newarray .boolean, 2) := by decide +kernel
theorem dX5_init_55 : decode cX5_init 55 = .ok (.putfield 29, 3) := by decide +kernel
theorem dX5_init_58 : decode cX5_init 58 = .ok (.aload_n 0, 1) := by decide +kernel
theorem dX5_init_59 : decode cX5_init 59 = .ok (.iconst 3, 1) := by decide +kernel
theorem dX5_init_60 : decode cX5_init 60 = .ok (.newarray .int, 2) := by decide +kernel
theorem dX5_init_62 : decode cX5_init 62 = .ok (.putfield 33, 3) := by decide +kernel
theorem dX5_init_65 : decode cX5_init 65 = .ok (.aload_n 0, 1) := by decide +kernel
theorem dX5_init_66 : decode cX5_init 66 = .ok (.iconst 3, 1) := by decide +kernel
theorem dX5_init_67 : decode cX5_init 67 = .ok (.newarray .int, 2) := by decide +kernel
theorem dX5_init_69 : decode cX5_init 69 = .ok (.putfield 36, 3) := by decide +kernel
theorem dX5_init_72 : decode cX5_init 72 = .ok (.aload_n 0, 1) := by decide +kernel
theorem dX5_init_73 : decode cX5_init 73 = .ok (.iconst 3, 1) := by decide +kernel
theorem dX5_init_74 : decode cX5_init 74 = .ok (.newarray .boolean, 2) := by decide +kernel
theorem dX5_init_76 : decode cX5_init 76 = .ok (.putfield 39, 3) := by decide +kernel
theorem dX5_init_79 : decode cX5_init 79 = .ok (.aload_n 0, 1) := by decide +kernel
theorem dX5_init_80 : decode cX5_init 80 = .ok (.bipush 12, 2) := by decide +kernel
theorem dX5_init_82 : decode cX5_init 82 = .ok (.newarray .int, 2) := by decide +kernel
theorem dX5_init_84 : decode cX5_init 84 = .ok (.putfield 42, 3) := by decide +kernel
theorem dX5_init_87 : decode cX5_init 87 = .ok (.aload_n 0, 1) := by decide +kernel
theorem dX5_init_88 : decode cX5_init 88 = .ok (.bipush 12, 2) := by decide +kernel
theorem dX5_init_90 : decode cX5_init 90 = .ok (.newarray .int, 2) := by decide +kernel
theorem dX5_init_92 : decode cX5_init 92 = .ok (.putfield 45, 3) := by decide +kernel
theorem dX5_init_95 : decode cX5_init 95 = .ok (.aload_n 0, 1) := by decide +kernel
theorem dX5_init_96 : decode cX5_init 96 = .ok (.iconst 4, 1) := by decide +kernel
theorem dX5_init_97 : decode cX5_init 97 = .ok (.newarray .int, 2) := by decide +kernel
theorem dX5_init_99 : decode cX5_init 99 = .ok (.putfield 48, 3) := by decide +kernel
theorem dX5_init_102 : decode cX5_init 102 = .ok (.aload_n 0, 1) := by decide +kernel
theorem dX5_init_103 : decode cX5_init 103 = .ok (.iconst 4, 1) := by decide +kernel
theorem dX5_init_104 : decode cX5_init 104 = .ok (.newarray .int, 2) := by decide +kernel
theorem dX5_init_106 : decode cX5_init 106 = .ok (.putfield 51, 3) := by decide +kernel
theorem dX5_init_109 : decode cX5_init 109 = .ok (.aload_n 0, 1) := by decide +kernel
theorem dX5_init_110 : decode cX5_init 110 = .ok (.iconst 4, 1) := by decide +kernel
theorem dX5_init_111 : decode cX5_init 111 = .ok (.newarray .int, 2) := by decide +kernel
theorem dX5_init_113 : decode cX5_init 113 = .ok (.putfield 54, 3) := by decide +kernel
theorem dX5_init_116 : decode cX5_init 116 = .ok (.aload_n 0, 1) := by decide +kernel
theorem dX5_init_117 : decode cX5_init 117 = .ok (.bipush 60, 2) := by decide +kernel
theorem dX5_init_119 : decode cX5_init 119 = .ok (.newarray .int, 2) := by decide +kernel
theorem dX5_init_121 : decode cX5_init 121 = .ok (.putfield 57, 3) := by decide +kernel
theorem dX5_init_124 : decode cX5_init 124 = .ok (.aload_n 0, 1) := by decide +kernel
theorem dX5_init_125 : decode cX5_init 125 = .ok (.bipush 60, 2) := by decide +kernel
theorem dX5_init_127 : decode cX5_init 127 = .ok (.newarray .int, 2) := by decide +kernel
theorem dX5_init_129 : decode cX5_init 129 = .ok (.putfield 60, 3) := by decide +kernel
theorem dX5_init_132 : decode cX5_init 132 = .ok (.aload_n 0, 1) := by decide +kernel
theorem dX5_init_133 : decode cX5_init 133 = .ok (.bipush 60, 2) := by decide +kernel
theorem dX5_init_135 : decode cX5_init 135 = .ok (.newarray .int, 2) := by decide +kernel
theorem dX5_init_137 : decode cX5_init 137 = .ok (.putfield 63, 3) := by decide +kernel
theorem dX5_init_140 : decode cX5_init 140 = .ok (.aload_n 0, 1) := by decide +kernel
theorem dX5_init_141 : decode cX5_init 141 = .ok (.bipush 60, 2) := by decide +kernel
theorem dX5_init_143 : decode cX5_init 143 = .ok (.newarray .int, 2) := by decide +kernel
theorem dX5_init_145 : decode cX5_init 145 = .ok (.putfield 66, 3) := by decide +kernel
theorem dX5_init_148 : decode cX5_init 148 = .ok (.return_, 1) := by decide +kernel
theorem dXL_law_0 : decode cXL_law 0 = .ok (.new 7, 3) := by decide +kernel
theorem dXL_law_3 : decode cXL_law 3 = .ok (.dup, 1) := by decide +kernel
theorem dXL_law_4 : decode cXL_law 4 = .ok (.invokespecial 9, 3) := by decide +kernel
theorem dXL_law_7 : decode cXL_law 7 = .ok (.astore_n 1, 1) := by decide +kernel
theorem dXL_law_8 : decode cXL_law 8 = .ok (.new 10, 3) := by decide +kernel
theorem dXL_law_11 : decode cXL_law 11 = .ok (.dup, 1) := by decide +kernel
theorem dXL_law_12 : decode cXL_law 12 = .ok (.invokespecial 12, 3) := by decide +kernel
theorem dXL_law_15 : decode cXL_law 15 = .ok (.astore_n 2, 1) := by decide +kernel
theorem dXL_law_16 : decode cXL_law 16 = .ok (.iconst 0, 1) := by decide +kernel
theorem dXL_law_17 : decode cXL_law 17 = .ok (.istore_n 3, 1) := by decide +kernel
theorem dXL_law_18 : decode cXL_law 18 = .ok (.iload_n 3, 1) := by decide +kernel
theorem dXL_law_19 : decode cXL_law 19 = .ok (.aload_n 0, 1) := by decide +kernel
theorem dXL_law_20 : decode cXL_law 20 = .ok (.arraylength, 1) := by decide +kernel
theorem dXL_law_21 : decode cXL_law 21 = .ok (.iconst 5, 1) := by decide +kernel
theorem dXL_law_22 : decode cXL_law 22 = .ok (.isub, 1) := by decide +kernel
theorem dXL_law_23 : decode cXL_law 23 = .ok (.if_icmp .gt 654, 3) := by decide +kernel
theorem dXL_law_26 : decode cXL_law 26 = .ok (.aload_n 0, 1) := by decide +kernel
theorem dXL_law_27 : decode cXL_law 27 = .ok (.iload_n 3, 1) := by decide +kernel
theorem dXL_law_28 : decode cXL_law 28 = .ok (.iaload, 1) := by decide +kernel
theorem dXL_law_29 : decode cXL_law 29 = .ok (.bipush 31, 2) := by decide +kernel
theorem dXL_law_31 : decode cXL_law 31 = .ok (.iand, 1) := by decide +kernel
theorem dXL_law_32 : decode cXL_law 32 = .ok (.tableswitch 639 0 18 #[92, 125, 168, 221, 264, 297, 330, 363, 386, 409, 432, 465, 498, 521, 544, 557, 580, 603, 616], 92) := by decide +kernel
theorem dXL_law_124 : decode cXL_law 124 = .ok (.aload_n 1, 1) := by decide +kernel
theorem dXL_law_125 : decode cXL_law 125 = .ok (.aload_n 0, 1) := by decide +kernel
theorem dXL_law_126 : decode cXL_law 126 = .ok (.iload_n 3, 1) := by decide +kernel
theorem dXL_law_127 : decode cXL_law 127 = .ok (.iconst 1, 1) := by decide +kernel
theorem dXL_law_128 : decode cXL_law 128 = .ok (.iadd, 1) := by decide +kernel
theorem dXL_law_129 : decode cXL_law 129 = .ok (.iaload, 1) := by decide +kernel
theorem dXL_law_130 : decode cXL_law 130 = .ok (.aload_n 0, 1) := by decide +kernel
theorem dXL_law_131 : decode cXL_law 131 = .ok (.iload_n 3, 1) := by decide +kernel
theorem dXL_law_132 : decode cXL_law 132 = .ok (.iconst 2, 1) := by decide +kernel
theorem dXL_law_133 : decode cXL_law 133 = .ok (.iadd, 1) := by decide +kernel
theorem dXL_law_134 : decode cXL_law 134 = .ok (.iaload, 1) := by decide +kernel
theorem dXL_law_135 : decode cXL_law 135 = .ok (.invokevirtual 13, 3) := by decide +kernel
theorem dXL_law_138 : decode cXL_law 138 = .ok (.aload_n 2, 1) := by decide +kernel
theorem dXL_law_139 : decode cXL_law 139 = .ok (.aload_n 0, 1) := by decide +kernel
theorem dXL_law_140 : decode cXL_law 140 = .ok (.iload_n 3, 1) := by decide +kernel
theorem dXL_law_141 : decode cXL_law 141 = .ok (.iconst 1, 1) := by decide +kernel
theorem dXL_law_142 : decode cXL_law 142 = .ok (.iadd, 1) := by decide +kernel
theorem dXL_law_143 : decode cXL_law 143 = .ok (.iaload, 1) := by decide +kernel
theorem dXL_law_144 : decode cXL_law 144 = .ok (.aload_n 0, 1) := by decide +kernel
theorem dXL_law_145 : decode cXL_law 145 = .ok (.iload_n 3, 1) := by decide +kernel
theorem dXL_law_146 : decode cXL_law 146 = .ok (.iconst 2, 1) := by decide +kernel
theorem dXL_law_147 : decode cXL_law 147 = .ok (.iadd, 1) := by decide +kernel
theorem dXL_law_148 : decode cXL_law 148 = .ok (.iaload, 1) := by decide +kernel
theorem dXL_law_149 : decode cXL_law 149 = .ok (.invokevirtual 17, 3) := by decide +kernel
theorem dXL_law_152 : decode cXL_law 152 = .ok (.if_icmp .eq 519, 3) := by decide +kernel
theorem dXL_law_155 : decode cXL_law 155 = .ok (.iconst 0, 1) := by decide +kernel
theorem dXL_law_156 : decode cXL_law 156 = .ok (.ireturn, 1) := by decide +kernel
theorem dXL_law_157 : decode cXL_law 157 = .ok (.aload_n 1, 1) := by decide +kernel
theorem dXL_law_158 : decode cXL_law 158 = .ok (.aload_n 0, 1) := by decide +kernel
theorem dXL_law_159 : decode cXL_law 159 = .ok (.iload_n 3, 1) := by decide +kernel
theorem dXL_law_160 : decode cXL_law 160 = .ok (.iconst 1, 1) := by decide +kernel
theorem dXL_law_161 : decode cXL_law 161 = .ok (.iadd, 1) := by decide +kernel
theorem dXL_law_162 : decode cXL_law 162 = .ok (.iaload, 1) := by decide +kernel
theorem dXL_law_163 : decode cXL_law 163 = .ok (.aload_n 0, 1) := by decide +kernel
theorem dXL_law_164 : decode cXL_law 164 = .ok (.iload_n 3, 1) := by decide +kernel
theorem dXL_law_165 : decode cXL_law 165 = .ok (.iconst 2, 1) := by decide +kernel
theorem dXL_law_166 : decode cXL_law 166 = .ok (.iadd, 1) := by decide +kernel
theorem dXL_law_167 : decode cXL_law 167 = .ok (.iaload, 1) := by decide +kernel
theorem dXL_law_168 : decode cXL_law 168 = .ok (.aload_n 0, 1) := by decide +kernel
theorem dXL_law_169 : decode cXL_law 169 = .ok (.iload_n 3, 1) := by decide +kernel
theorem dXL_law_170 : decode cXL_law 170 = .ok (.iconst 3, 1) := by decide +kernel
theorem dXL_law_171 : decode cXL_law 171 = .ok (.iadd, 1) := by decide +kernel
theorem dXL_law_172 : decode cXL_law 172 = .ok (.iaload, 1) := by decide +kernel
theorem dXL_law_173 : decode cXL_law 173 = .ok (.invokevirtual 18, 3) := by decide +kernel
theorem dXL_law_176 : decode cXL_law 176 = .ok (.aload_n 2, 1) := by decide +kernel
theorem dXL_law_177 : decode cXL_law 177 = .ok (.aload_n 0, 1) := by decide +kernel
theorem dXL_law_178 : decode cXL_law 178 = .ok (.iload_n 3, 1) := by decide +kernel
theorem dXL_law_179 : decode cXL_law 179 = .ok (.iconst 1, 1) := by decide +kernel
theorem dXL_law_180 : decode cXL_law 180 = .ok (.iadd, 1) := by decide +kernel
theorem dXL_law_181 : decode cXL_law 181 = .ok (.iaload, 1) := by decide +kernel
theorem dXL_law_182 : decode cXL_law 182 = .ok (.aload_n 0, 1) := by decide +kernel
theorem dXL_law_183 : decode cXL_law 183 = .ok (.iload_n 3, 1) := by decide +kernel
theorem dXL_law_184 : decode cXL_law 184 = .ok (.iconst 2, 1) := by decide +kernel
theorem dXL_law_185 : decode cXL_law 185 = .ok (.iadd, 1) := by decide +kernel
theorem dXL_law_186 : decode cXL_law 186 = .ok (.iaload, 1) := by decide +kernel
theorem dXL_law_187 : decode cXL_law 187 = .ok (.aload_n 0, 1) := by decide +kernel
theorem dXL_law_188 : decode cXL_law 188 = .ok (.iload_n 3, 1) := by decide +kernel
theorem dXL_law_189 : decode cXL_law 189 = .ok (.iconst 3, 1) := by decide +kernel
theorem dXL_law_190 : decode cXL_law 190 = .ok (.iadd, 1) := by decide +kernel
theorem dXL_law_191 : decode cXL_law 191 = .ok (.iaload, 1) := by decide +kernel
theorem dXL_law_192 : decode cXL_law 192 = .ok (.invokevirtual 22, 3) := by decide +kernel
theorem dXL_law_195 : decode cXL_law 195 = .ok (.if_icmp .eq 476, 3) := by decide +kernel
theorem dXL_law_198 : decode cXL_law 198 = .ok (.iconst 0, 1) := by decide +kernel
theorem dXL_law_199 : decode cXL_law 199 = .ok (.ireturn, 1) := by decide +kernel
theorem dXL_law_200 : decode cXL_law 200 = .ok (.aload_n 1, 1) := by decide +kernel
theorem dXL_law_201 : decode cXL_law 201 = .ok (.aload_n 0, 1) := by decide +kernel
theorem dXL_law_202 : decode cXL_law 202 = .ok (.iload_n 3, 1) := by decide +kernel
theorem dXL_law_203 : decode cXL_law 203 = .ok (.iconst 1, 1) := by decide +kernel
theorem dXL_law_204 : decode cXL_law 204 = .ok (.iadd, 1) := by decide +kernel
theorem dXL_law_205 : decode cXL_law 205 = .ok (.iaload, 1) := by decide +kernel
theorem dXL_law_206 : decode cXL_law 206 = .ok (.aload_n 0, 1) := by decide +kernel
theorem dXL_law_207 : decode cXL_law 207 = .ok (.iload_n 3, 1) := by decide +kernel
theorem dXL_law_208 : decode cXL_law 208 = .ok (.iconst 2, 1) := by decide +kernel
theorem dXL_law_209 : decode cXL_law 209 = .ok (.iadd, 1) := by decide +kernel
theorem dXL_law_210 : decode cXL_law 210 = .ok (.iaload, 1) := by decide +kernel
theorem dXL_law_211 : decode cXL_law 211 = .ok (.aload_n 0, 1) := by decide +kernel
theorem dXL_law_212 : decode cXL_law 212 = .ok (.iload_n 3, 1) := by decide +kernel
theorem dXL_law_213 : decode cXL_law 213 = .ok (.iconst 3, 1) := by decide +kernel
theorem dXL_law_214 : decode cXL_law 214 = .ok (.iadd, 1) := by decide +kernel
theorem dXL_law_215 : decode cXL_law 215 = .ok (.iaload, 1) := by decide +kernel
theorem dXL_law_216 : decode cXL_law 216 = .ok (.aload_n 0, 1) := by decide +kernel
theorem dXL_law_217 : decode cXL_law 217 = .ok (.iload_n 3, 1) := by decide +kernel
theorem dXL_law_218 : decode cXL_law 218 = .ok (.iconst 4, 1) := by decide +kernel
theorem dXL_law_219 : decode cXL_law 219 = .ok (.iadd, 1) := by decide +kernel
theorem dXL_law_220 : decode cXL_law 220 = .ok (.iaload, 1) := by decide +kernel
theorem dXL_law_221 : decode cXL_law 221 = .ok (.invokevirtual 23, 3) := by decide +kernel
theorem dXL_law_224 : decode cXL_law 224 = .ok (.aload_n 2, 1) := by decide +kernel
theorem dXL_law_225 : decode cXL_law 225 = .ok (.aload_n 0, 1) := by decide +kernel
theorem dXL_law_226 : decode cXL_law 226 = .ok (.iload_n 3, 1) := by decide +kernel
theorem dXL_law_227 : decode cXL_law 227 = .ok (.iconst 1, 1) := by decide +kernel
theorem dXL_law_228 : decode cXL_law 228 = .ok (.iadd, 1) := by decide +kernel
theorem dXL_law_229 : decode cXL_law 229 = .ok (.iaload, 1) := by decide +kernel
theorem dXL_law_230 : decode cXL_law 230 = .ok (.aload_n 0, 1) := by decide +kernel
theorem dXL_law_231 : decode cXL_law 231 = .ok (.iload_n 3, 1) := by decide +kernel
theorem dXL_law_232 : decode cXL_law 232 = .ok (.iconst 2, 1) := by decide +kernel
theorem dXL_law_233 : decode cXL_law 233 = .ok (.iadd, 1) := by decide +kernel
theorem dXL_law_234 : decode cXL_law 234 = .ok (.iaload, 1) := by decide +kernel
theorem dXL_law_235 : decode cXL_law 235 = .ok (.aload_n 0, 1) := by decide +kernel
theorem dXL_law_236 : decode cXL_law 236 = .ok (.iload_n 3, 1) := by decide +kernel
theorem dXL_law_237 : decode cXL_law 237 = .ok (.iconst 3, 1) := by decide +kernel
theorem dXL_law_238 : decode cXL_law 238 = .ok (.iadd, 1) := by decide +kernel
theorem dXL_law_239 : decode cXL_law 239 = .ok (.iaload, 1) := by decide +kernel
theorem dXL_law_240 : decode cXL_law 240 = .ok (.aload_n 0, 1) := by decide +kernel
theorem dXL_law_241 : decode cXL_law 241 = .ok (.iload_n 3, 1) := by decide +kernel
theorem dXL_law_242 : decode cXL_law 242 = .ok (.iconst 4, 1) := by decide +kernel
theorem dXL_law_243 : decode cXL_law 243 = .ok (.iadd, 1) := by decide +kernel
theorem dXL_law_244 : decode cXL_law 244 = .ok (.iaload, 1) := by decide +kernel
theorem dXL_law_245 : decode cXL_law 245 = .ok (.invokevirtual 27, 3) := by decide +kernel
theorem dXL_law_248 : decode cXL_law 248 = .ok (.if_icmp .eq 423, 3) := by decide +kernel
theorem dXL_law_251 : decode cXL_law 251 = .ok (.iconst 0, 1) := by decide +kernel
theorem dXL_law_252 : decode cXL_law 252 = .ok (.ireturn, 1) := by decide +kernel
theorem dXL_law_253 : decode cXL_law 253 = .ok (.aload_n 1, 1) := by decide +kernel
theorem dXL_law_254 : decode cXL_law 254 = .ok (.aload_n 0, 1) := by decide +kernel
theorem dXL_law_255 : decode cXL_law 255 = .ok (.iload_n 3, 1) := by decide +kernel
theorem dXL_law_256 : decode cXL_law 256 = .ok (.iconst 1, 1) := by decide +kernel
theorem dXL_law_257 : decode cXL_law 257 = .ok (.iadd, 1) := by decide +kernel
theorem dXL_law_258 : decode cXL_law 258 = .ok (.iaload, 1) := by decide +kernel
theorem dXL_law_259 : decode cXL_law 259 = .ok (.aload_n 0, 1) := by decide +kernel
theorem dXL_law_260 : decode cXL_law 260 = .ok (.iload_n 3, 1) := by decide +kernel
theorem dXL_law_261 : decode cXL_law 261 = .ok (.iconst 2, 1) := by decide +kernel
theorem dXL_law_262 : decode cXL_law 262 = .ok (.iadd, 1) := by decide +kernel
theorem dXL_law_263 : decode cXL_law 263 = .ok (.iaload, 1) := by decide +kernel
theorem dXL_law_264 : decode cXL_law 264 = .ok (.aload_n 0, 1) := by decide +kernel
theorem dXL_law_265 : decode cXL_law 265 = .ok (.iload_n 3, 1) := by decide +kernel
theorem dXL_law_266 : decode cXL_law 266 = .ok (.iconst 3, 1) := by decide +kernel
theorem dXL_law_267 : decode cXL_law 267 = .ok (.iadd, 1) := by decide +kernel
theorem dXL_law_268 : decode cXL_law 268 = .ok (.iaload, 1) := by decide +kernel
theorem dXL_law_269 : decode cXL_law 269 = .ok (.invokevirtual 28, 3) := by decide +kernel
theorem dXL_law_272 : decode cXL_law 272 = .ok (.aload_n 2, 1) := by decide +kernel
theorem dXL_law_273 : decode cXL_law 273 = .ok (.aload_n 0, 1) := by decide +kernel
theorem dXL_law_274 : decode cXL_law 274 = .ok (.iload_n 3, 1) := by decide +kernel
theorem dXL_law_275 : decode cXL_law 275 = .ok (.iconst 1, 1) := by decide +kernel
theorem dXL_law_276 : decode cXL_law 276 = .ok (.iadd, 1) := by decide +kernel
theorem dXL_law_277 : decode cXL_law 277 = .ok (.iaload, 1) := by decide +kernel
theorem dXL_law_278 : decode cXL_law 278 = .ok (.aload_n 0, 1) := by decide +kernel
theorem dXL_law_279 : decode cXL_law 279 = .ok (.iload_n 3, 1) := by decide +kernel
theorem dXL_law_280 : decode cXL_law 280 = .ok (.iconst 2, 1) := by decide +kernel
theorem dXL_law_281 : decode cXL_law 281 = .ok (.iadd, 1) := by decide +kernel
theorem dXL_law_282 : decode cXL_law 282 = .ok (.iaload, 1) := by decide +kernel
theorem dXL_law_283 : decode cXL_law 283 = .ok (.aload_n 0, 1) := by decide +kernel
theorem dXL_law_284 : decode cXL_law 284 = .ok (.iload_n 3, 1) := by decide +kernel
theorem dXL_law_285 : decode cXL_law 285 = .ok (.iconst 3, 1) := by decide +kernel
theorem dXL_law_286 : decode cXL_law 286 = .ok (.iadd, 1) := by decide +kernel
theorem dXL_law_287 : decode cXL_law 287 = .ok (.iaload, 1) := by decide +kernel
theorem dXL_law_288 : decode cXL_law 288 = .ok (.invokevirtual 31, 3) := by decide +kernel
theorem dXL_law_291 : decode cXL_law 291 = .ok (.if_icmp .eq 380, 3) := by decide +kernel
theorem dXL_law_294 : decode cXL_law 294 = .ok (.iconst 0, 1) := by decide +kernel
theorem dXL_law_295 : decode cXL_law 295 = .ok (.ireturn, 1) := by decide +kernel
theorem dXL_law_296 : decode cXL_law 296 = .ok (.aload_n 1, 1) := by decide +kernel
theorem dXL_law_297 : decode cXL_law 297 = .ok (.aload_n 0, 1) := by decide +kernel
theorem dXL_law_298 : decode cXL_law 298 = .ok (.iload_n 3, 1) := by decide +kernel
theorem dXL_law_299 : decode cXL_law 299 = .ok (.iconst 1, 1) := by decide +kernel
theorem dXL_law_300 : decode cXL_law 300 = .ok (.iadd, 1) := by decide +kernel
theorem dXL_law_301 : decode cXL_law 301 = .ok (.iaload, 1) := by decide +kernel
theorem dXL_law_302 : decode cXL_law 302 = .ok (.aload_n 0, 1) := by decide +kernel
theorem dXL_law_303 : decode cXL_law 303 = .ok (.iload_n 3, 1) := by decide +kernel
theorem dXL_law_304 : decode cXL_law 304 = .ok (.iconst 2, 1) := by decide +kernel
theorem dXL_law_305 : decode cXL_law 305 = .ok (.iadd, 1) := by decide +kernel
theorem dXL_law_306 : decode cXL_law 306 = .ok (.iaload, 1) := by decide +kernel
theorem dXL_law_307 : decode cXL_law 307 = .ok (.invokevirtual 32, 3) := by decide +kernel
theorem dXL_law_310 : decode cXL_law 310 = .ok (.aload_n 2, 1) := by decide +kernel
theorem dXL_law_311 : decode cXL_law 311 = .ok (.aload_n 0, 1) := by decide +kernel
theorem dXL_law_312 : decode cXL_law 312 = .ok (.iload_n 3, 1) := by decide +kernel
theorem dXL_law_313 : decode cXL_law 313 = .ok (.iconst 1, 1) := by decide +kernel
theorem dXL_law_314 : decode cXL_law 314 = .ok (.iadd, 1) := by decide +kernel
theorem dXL_law_315 : decode cXL_law 315 = .ok (.iaload, 1) := by decide +kernel
theorem dXL_law_316 : decode cXL_law 316 = .ok (.aload_n 0, 1) := by decide +kernel
theorem dXL_law_317 : decode cXL_law 317 = .ok (.iload_n 3, 1) := by decide +kernel
theorem dXL_law_318 : decode cXL_law 318 = .ok (.iconst 2, 1) := by decide +kernel
theorem dXL_law_319 : decode cXL_law 319 = .ok (.iadd, 1) := by decide +kernel
theorem dXL_law_320 : decode cXL_law 320 = .ok (.iaload, 1) := by decide +kernel
theorem dXL_law_321 : decode cXL_law 321 = .ok (.invokevirtual 35, 3) := by decide +kernel
theorem dXL_law_324 : decode cXL_law 324 = .ok (.if_icmp .eq 347, 3) := by decide +kernel
theorem dXL_law_327 : decode cXL_law 327 = .ok (.iconst 0, 1) := by decide +kernel
theorem dXL_law_328 : decode cXL_law 328 = .ok (.ireturn, 1) := by decide +kernel
theorem dXL_law_329 : decode cXL_law 329 = .ok (.aload_n 1, 1) := by decide +kernel
theorem dXL_law_330 : decode cXL_law 330 = .ok (.aload_n 0, 1) := by decide +kernel
theorem dXL_law_331 : decode cXL_law 331 = .ok (.iload_n 3, 1) := by decide +kernel
theorem dXL_law_332 : decode cXL_law 332 = .ok (.iconst 1, 1) := by decide +kernel
theorem dXL_law_333 : decode cXL_law 333 = .ok (.iadd, 1) := by decide +kernel
theorem dXL_law_334 : decode cXL_law 334 = .ok (.iaload, 1) := by decide +kernel
theorem dXL_law_335 : decode cXL_law 335 = .ok (.aload_n 0, 1) := by decide +kernel
theorem dXL_law_336 : decode cXL_law 336 = .ok (.iload_n 3, 1) := by decide +kernel
theorem dXL_law_337 : decode cXL_law 337 = .ok (.iconst 2, 1) := by decide +kernel
theorem dXL_law_338 : decode cXL_law 338 = .ok (.iadd, 1) := by decide +kernel
theorem dXL_law_339 : decode cXL_law 339 = .ok (.iaload, 1) := by decide +kernel
theorem dXL_law_340 : decode cXL_law 340 = .ok (.invokevirtual 36, 3) := by decide +kernel
theorem dXL_law_343 : decode cXL_law 343 = .ok (.aload_n 2, 1) := by decide +kernel
theorem dXL_law_344 : decode cXL_law 344 = .ok (.aload_n 0, 1) := by decide +kernel
theorem dXL_law_345 : decode cXL_law 345 = .ok (.iload_n 3, 1) := by decide +kernel
theorem dXL_law_346 : decode cXL_law 346 = .ok (.iconst 1, 1) := by decide +kernel
theorem dXL_law_347 : decode cXL_law 347 = .ok (.iadd, 1) := by decide +kernel
theorem dXL_law_348 : decode cXL_law 348 = .ok (.iaload, 1) := by decide +kernel
theorem dXL_law_349 : decode cXL_law 349 = .ok (.aload_n 0, 1) := by decide +kernel
theorem dXL_law_350 : decode cXL_law 350 = .ok (.iload_n 3, 1) := by decide +kernel
theorem dXL_law_351 : decode cXL_law 351 = .ok (.iconst 2, 1) := by decide +kernel
theorem dXL_law_352 : decode cXL_law 352 = .ok (.iadd, 1) := by decide +kernel
theorem dXL_law_353 : decode cXL_law 353 = .ok (.iaload, 1) := by decide +kernel
theorem dXL_law_354 : decode cXL_law 354 = .ok (.invokevirtual 39, 3) := by decide +kernel
theorem dXL_law_357 : decode cXL_law 357 = .ok (.if_icmp .eq 314, 3) := by decide +kernel
theorem dXL_law_360 : decode cXL_law 360 = .ok (.iconst 0, 1) := by decide +kernel
theorem dXL_law_361 : decode cXL_law 361 = .ok (.ireturn, 1) := by decide +kernel
theorem dXL_law_362 : decode cXL_law 362 = .ok (.aload_n 1, 1) := by decide +kernel
theorem dXL_law_363 : decode cXL_law 363 = .ok (.aload_n 0, 1) := by decide +kernel
theorem dXL_law_364 : decode cXL_law 364 = .ok (.iload_n 3, 1) := by decide +kernel
theorem dXL_law_365 : decode cXL_law 365 = .ok (.iconst 1, 1) := by decide +kernel
theorem dXL_law_366 : decode cXL_law 366 = .ok (.iadd, 1) := by decide +kernel
theorem dXL_law_367 : decode cXL_law 367 = .ok (.iaload, 1) := by decide +kernel
theorem dXL_law_368 : decode cXL_law 368 = .ok (.aload_n 0, 1) := by decide +kernel
theorem dXL_law_369 : decode cXL_law 369 = .ok (.iload_n 3, 1) := by decide +kernel
theorem dXL_law_370 : decode cXL_law 370 = .ok (.iconst 2, 1) := by decide +kernel
theorem dXL_law_371 : decode cXL_law 371 = .ok (.iadd, 1) := by decide +kernel
theorem dXL_law_372 : decode cXL_law 372 = .ok (.iaload, 1) := by decide +kernel
theorem dXL_law_373 : decode cXL_law 373 = .ok (.invokevirtual 40, 3) := by decide +kernel
theorem dXL_law_376 : decode cXL_law 376 = .ok (.aload_n 2, 1) := by decide +kernel
theorem dXL_law_377 : decode cXL_law 377 = .ok (.aload_n 0, 1) := by decide +kernel
theorem dXL_law_378 : decode cXL_law 378 = .ok (.iload_n 3, 1) := by decide +kernel
theorem dXL_law_379 : decode cXL_law 379 = .ok (.iconst 1, 1) := by decide +kernel
theorem dXL_law_380 : decode cXL_law 380 = .ok (.iadd, 1) := by decide +kernel
theorem dXL_law_381 : decode cXL_law 381 = .ok (.iaload, 1) := by decide +kernel
theorem dXL_law_382 : decode cXL_law 382 = .ok (.aload_n 0, 1) := by decide +kernel
theorem dXL_law_383 : decode cXL_law 383 = .ok (.iload_n 3, 1) := by decide +kernel
theorem dXL_law_384 : decode cXL_law 384 = .ok (.iconst 2, 1) := by decide +kernel
theorem dXL_law_385 : decode cXL_law 385 = .ok (.iadd, 1) := by decide +kernel
theorem dXL_law_386 : decode cXL_law 386 = .ok (.iaload, 1) := by decide +kernel
theorem dXL_law_387 : decode cXL_law 387 = .ok (.invokevirtual 44, 3) := by decide +kernel
theorem dXL_law_390 : decode cXL_law 390 = .ok (.if_icmp .eq 281, 3) := by decide +kernel
theorem dXL_law_393 : decode cXL_law 393 = .ok (.iconst 0, 1) := by decide +kernel
theorem dXL_law_394 : decode cXL_law 394 = .ok (.ireturn, 1) := by decide +kernel
theorem dXL_law_395 : decode cXL_law 395 = .ok (.aload_n 1, 1) := by decide +kernel
theorem dXL_law_396 : decode cXL_law 396 = .ok (.aload_n 0, 1) := by decide +kernel
theorem dXL_law_397 : decode cXL_law 397 = .ok (.iload_n 3, 1) := by decide +kernel
theorem dXL_law_398 : decode cXL_law 398 = .ok (.iconst 1, 1) := by decide +kernel
theorem dXL_law_399 : decode cXL_law 399 = .ok (.iadd, 1) := by decide +kernel
theorem dXL_law_400 : decode cXL_law 400 = .ok (.iaload, 1) := by decide +kernel
theorem dXL_law_401 : decode cXL_law 401 = .ok (.invokevirtual 45, 3) := by decide +kernel
theorem dXL_law_404 : decode cXL_law 404 = .ok (.aload_n 2, 1) := by decide +kernel
theorem dXL_law_405 : decode cXL_law 405 = .ok (.aload_n 0, 1) := by decide +kernel
theorem dXL_law_406 : decode cXL_law 406 = .ok (.iload_n 3, 1) := by decide +kernel
theorem dXL_law_407 : decode cXL_law 407 = .ok (.iconst 1, 1) := by decide +kernel
theorem dXL_law_408 : decode cXL_law 408 = .ok (.iadd, 1) := by decide +kernel
theorem dXL_law_409 : decode cXL_law 409 = .ok (.iaload, 1) := by decide +kernel
theorem dXL_law_410 : decode cXL_law 410 = .ok (.invokevirtual 49, 3) := by decide +kernel
theorem dXL_law_413 : decode cXL_law 413 = .ok (.if_icmp .eq 258, 3) := by decide +kernel
theorem dXL_law_416 : decode cXL_law 416 = .ok (.iconst 0, 1) := by decide +kernel
theorem dXL_law_417 : decode cXL_law 417 = .ok (.ireturn, 1) := by decide +kernel
theorem dXL_law_418 : decode cXL_law 418 = .ok (.aload_n 1, 1) := by decide +kernel
theorem dXL_law_419 : decode cXL_law 419 = .ok (.aload_n 0, 1) := by decide +kernel
theorem dXL_law_420 : decode cXL_law 420 = .ok (.iload_n 3, 1) := by decide +kernel
theorem dXL_law_421 : decode cXL_law 421 = .ok (.iconst 1, 1) := by decide +kernel
theorem dXL_law_422 : decode cXL_law 422 = .ok (.iadd, 1) := by decide +kernel
theorem dXL_law_423 : decode cXL_law 423 = .ok (.iaload, 1) := by decide +kernel
theorem dXL_law_424 : decode cXL_law 424 = .ok (.invokevirtual 50, 3) := by decide +kernel
theorem dXL_law_427 : decode cXL_law 427 = .ok (.aload_n 2, 1) := by decide +kernel
theorem dXL_law_428 : decode cXL_law 428 = .ok (.aload_n 0, 1) := by decide +kernel
theorem dXL_law_429 : decode cXL_law 429 = .ok (.iload_n 3, 1) := by decide +kernel
theorem dXL_law_430 : decode cXL_law 430 = .ok (.iconst 1, 1) := by decide +kernel
theorem dXL_law_431 : decode cXL_law 431 = .ok (.iadd, 1) := by decide +kernel
theorem dXL_law_432 : decode cXL_law 432 = .ok (.iaload, 1) := by decide +kernel
theorem dXL_law_433 : decode cXL_law 433 = .ok (.invokevirtual 53, 3) := by decide +kernel
theorem dXL_law_436 : decode cXL_law 436 = .ok (.if_icmp .eq 235, 3) := by decide +kernel
theorem dXL_law_439 : decode cXL_law 439 = .ok (.iconst 0, 1) := by decide +kernel
theorem dXL_law_440 : decode cXL_law 440 = .ok (.ireturn, 1) := by decide +kernel
theorem dXL_law_441 : decode cXL_law 441 = .ok (.aload_n 1, 1) := by decide +kernel
theorem dXL_law_442 : decode cXL_law 442 = .ok (.aload_n 0, 1) := by decide +kernel
theorem dXL_law_443 : decode cXL_law 443 = .ok (.iload_n 3, 1) := by decide +kernel
theorem dXL_law_444 : decode cXL_law 444 = .ok (.iconst 1, 1) := by decide +kernel
theorem dXL_law_445 : decode cXL_law 445 = .ok (.iadd, 1) := by decide +kernel
theorem dXL_law_446 : decode cXL_law 446 = .ok (.iaload, 1) := by decide +kernel
theorem dXL_law_447 : decode cXL_law 447 = .ok (.invokevirtual 54, 3) := by decide +kernel
