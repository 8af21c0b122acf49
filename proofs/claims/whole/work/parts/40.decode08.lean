theorem dX5_push_38 : decode cX5_push 38 = .ok (.ifCond .eq 6, 3) := by decide +kernel
theorem dX5_push_41 : decode cX5_push 41 = .ok (.bipush (-2), 2) := by decide +kernel
theorem dX5_push_43 : decode cX5_push 43 = .ok (.ireturn, 1) := by decide +kernel
theorem dX5_push_44 : decode cX5_push 44 = .ok (.iconst 0, 1) := by decide +kernel
theorem dX5_push_45 : decode cX5_push 45 = .ok (.istore_n 3, 1) := by decide +kernel
theorem dX5_push_46 : decode cX5_push 46 = .ok (.iload_n 3, 1) := by decide +kernel
theorem dX5_push_47 : decode cX5_push 47 = .ok (.iconst 4, 1) := by decide +kernel
theorem dX5_push_48 : decode cX5_push 48 = .ok (.if_icmp .ge 34, 3) := by decide +kernel
theorem dX5_push_51 : decode cX5_push 51 = .ok (.iload_n 2, 1) := by decide +kernel
theorem dX5_push_52 : decode cX5_push 52 = .ok (.iload_n 3, 1) := by decide +kernel
theorem dX5_push_53 : decode cX5_push 53 = .ok (.ishr, 1) := by decide +kernel
theorem dX5_push_54 : decode cX5_push 54 = .ok (.iconst 1, 1) := by decide +kernel
theorem dX5_push_55 : decode cX5_push 55 = .ok (.iand, 1) := by decide +kernel
theorem dX5_push_56 : decode cX5_push 56 = .ok (.iconst 1, 1) := by decide +kernel
theorem dX5_push_57 : decode cX5_push 57 = .ok (.if_icmp .ne 19, 3) := by decide +kernel
theorem dX5_push_60 : decode cX5_push 60 = .ok (.aload_n 0, 1) := by decide +kernel
theorem dX5_push_61 : decode cX5_push 61 = .ok (.getfield 26, 3) := by decide +kernel
theorem dX5_push_64 : decode cX5_push 64 = .ok (.bipush 8, 2) := by decide +kernel
theorem dX5_push_66 : decode cX5_push 66 = .ok (.iload_n 1, 1) := by decide +kernel
theorem dX5_push_67 : decode cX5_push 67 = .ok (.imul, 1) := by decide +kernel
theorem dX5_push_68 : decode cX5_push 68 = .ok (.iload_n 3, 1) := by decide +kernel
theorem dX5_push_69 : decode cX5_push 69 = .ok (.iadd, 1) := by decide +kernel
theorem dX5_push_70 : decode cX5_push 70 = .ok (.iaload, 1) := by decide +kernel
theorem dX5_push_71 : decode cX5_push 71 = .ok (.ifCond .ne 5, 3) := by decide +kernel
theorem dX5_push_74 : decode cX5_push 74 = .ok (.iconst (-1), 1) := by decide +kernel
theorem dX5_push_75 : decode cX5_push 75 = .ok (.ireturn, 1) := by decide +kernel
theorem dX5_push_76 : decode cX5_push 76 = .ok (.iinc 3 1, 3) := by decide +kernel
theorem dX5_push_79 : decode cX5_push 79 = .ok (.goto (-33), 3) := by decide +kernel
theorem dX5_push_82 : decode cX5_push 82 = .ok (.iconst 1, 1) := by decide +kernel
theorem dX5_push_83 : decode cX5_push 83 = .ok (.istore_n 3, 1) := by decide +kernel
theorem dX5_push_84 : decode cX5_push 84 = .ok (.iconst 0, 1) := by decide +kernel
theorem dX5_push_85 : decode cX5_push 85 = .ok (.istore 4, 2) := by decide +kernel
theorem dX5_push_87 : decode cX5_push 87 = .ok (.iload 4, 2) := by decide +kernel
theorem dX5_push_89 : decode cX5_push 89 = .ok (.iconst 4, 1) := by decide +kernel
theorem dX5_push_90 : decode cX5_push 90 = .ok (.if_icmp .ge 82, 3) := by decide +kernel
theorem dX5_push_93 : decode cX5_push 93 = .ok (.aload_n 0, 1) := by decide +kernel
theorem dX5_push_94 : decode cX5_push 94 = .ok (.getfield 54, 3) := by decide +kernel
theorem dX5_push_97 : decode cX5_push 97 = .ok (.iload 4, 2) := by decide +kernel
theorem dX5_push_99 : decode cX5_push 99 = .ok (.iload_n 2, 1) := by decide +kernel
theorem dX5_push_100 : decode cX5_push 100 = .ok (.iload 4, 2) := by decide +kernel
theorem dX5_push_102 : decode cX5_push 102 = .ok (.ishr, 1) := by decide +kernel
theorem dX5_push_103 : decode cX5_push 103 = .ok (.iconst 1, 1) := by decide +kernel
theorem dX5_push_104 : decode cX5_push 104 = .ok (.iand, 1) := by decide +kernel
theorem dX5_push_105 : decode cX5_push 105 = .ok (.ifCond .ne 7, 3) := by decide +kernel
theorem dX5_push_108 : decode cX5_push 108 = .ok (.iconst 0, 1) := by decide +kernel
theorem dX5_push_109 : decode cX5_push 109 = .ok (.goto 35, 3) := by decide +kernel
theorem dX5_push_112 : decode cX5_push 112 = .ok (.aload_n 0, 1) := by decide +kernel
theorem dX5_push_113 : decode cX5_push 113 = .ok (.iload 4, 2) := by decide +kernel
theorem dX5_push_115 : decode cX5_push 115 = .ok (.aload_n 0, 1) := by decide +kernel
theorem dX5_push_116 : decode cX5_push 116 = .ok (.getfield 26, 3) := by decide +kernel
theorem dX5_push_119 : decode cX5_push 119 = .ok (.bipush 8, 2) := by decide +kernel
theorem dX5_push_121 : decode cX5_push 121 = .ok (.iload_n 1, 1) := by decide +kernel
theorem dX5_push_122 : decode cX5_push 122 = .ok (.imul, 1) := by decide +kernel
theorem dX5_push_123 : decode cX5_push 123 = .ok (.iconst 4, 1) := by decide +kernel
theorem dX5_push_124 : decode cX5_push 124 = .ok (.iadd, 1) := by decide +kernel
theorem dX5_push_125 : decode cX5_push 125 = .ok (.iload 4, 2) := by decide +kernel
theorem dX5_push_127 : decode cX5_push 127 = .ok (.iadd, 1) := by decide +kernel
theorem dX5_push_128 : decode cX5_push 128 = .ok (.iaload, 1) := by decide +kernel
theorem dX5_push_129 : decode cX5_push 129 = .ok (.aload_n 0, 1) := by decide +kernel
theorem dX5_push_130 : decode cX5_push 130 = .ok (.getfield 26, 3) := by decide +kernel
theorem dX5_push_133 : decode cX5_push 133 = .ok (.bipush 8, 2) := by decide +kernel
theorem dX5_push_135 : decode cX5_push 135 = .ok (.iload_n 1, 1) := by decide +kernel
theorem dX5_push_136 : decode cX5_push 136 = .ok (.imul, 1) := by decide +kernel
theorem dX5_push_137 : decode cX5_push 137 = .ok (.iload 4, 2) := by decide +kernel
theorem dX5_push_139 : decode cX5_push 139 = .ok (.iadd, 1) := by decide +kernel
theorem dX5_push_140 : decode cX5_push 140 = .ok (.iaload, 1) := by decide +kernel
theorem dX5_push_141 : decode cX5_push 141 = .ok (.invokevirtual 153, 3) := by decide +kernel
theorem dX5_push_144 : decode cX5_push 144 = .ok (.iastore, 1) := by decide +kernel
theorem dX5_push_145 : decode cX5_push 145 = .ok (.iload_n 3, 1) := by decide +kernel
theorem dX5_push_146 : decode cX5_push 146 = .ok (.ifCond .eq 18, 3) := by decide +kernel
theorem dX5_push_149 : decode cX5_push 149 = .ok (.aload_n 0, 1) := by decide +kernel
theorem dX5_push_150 : decode cX5_push 150 = .ok (.getfield 54, 3) := by decide +kernel
theorem dX5_push_153 : decode cX5_push 153 = .ok (.iload 4, 2) := by decide +kernel
theorem dX5_push_155 : decode cX5_push 155 = .ok (.iaload, 1) := by decide +kernel
theorem dX5_push_156 : decode cX5_push 156 = .ok (.iconst 2, 1) := by decide +kernel
theorem dX5_push_157 : decode cX5_push 157 = .ok (.if_icmp .ge 7, 3) := by decide +kernel
theorem dX5_push_160 : decode cX5_push 160 = .ok (.iconst 1, 1) := by decide +kernel
theorem dX5_push_161 : decode cX5_push 161 = .ok (.goto 4, 3) := by decide +kernel
theorem dX5_push_164 : decode cX5_push 164 = .ok (.iconst 0, 1) := by decide +kernel
theorem dX5_push_165 : decode cX5_push 165 = .ok (.istore_n 3, 1) := by decide +kernel
theorem dX5_push_166 : decode cX5_push 166 = .ok (.iinc 4 1, 3) := by decide +kernel
theorem dX5_push_169 : decode cX5_push 169 = .ok (.goto (-82), 3) := by decide +kernel
theorem dX5_push_172 : decode cX5_push 172 = .ok (.iload_n 3, 1) := by decide +kernel
theorem dX5_push_173 : decode cX5_push 173 = .ok (.ifCond .ne 10, 3) := by decide +kernel
theorem dX5_push_176 : decode cX5_push 176 = .ok (.aload_n 0, 1) := by decide +kernel
theorem dX5_push_177 : decode cX5_push 177 = .ok (.iconst 0, 1) := by decide +kernel
theorem dX5_push_178 : decode cX5_push 178 = .ok (.putfield 107, 3) := by decide +kernel
theorem dX5_push_181 : decode cX5_push 181 = .ok (.iconst 0, 1) := by decide +kernel
theorem dX5_push_182 : decode cX5_push 182 = .ok (.ireturn, 1) := by decide +kernel
theorem dX5_push_183 : decode cX5_push 183 = .ok (.aload_n 0, 1) := by decide +kernel
theorem dX5_push_184 : decode cX5_push 184 = .ok (.iload_n 1, 1) := by decide +kernel
theorem dX5_push_185 : decode cX5_push 185 = .ok (.iload_n 2, 1) := by decide +kernel
theorem dX5_push_186 : decode cX5_push 186 = .ok (.invokevirtual 157, 3) := by decide +kernel
theorem dX5_push_189 : decode cX5_push 189 = .ok (.ifCond .eq 7, 3) := by decide +kernel
theorem dX5_push_192 : decode cX5_push 192 = .ok (.iconst 1, 1) := by decide +kernel
theorem dX5_push_193 : decode cX5_push 193 = .ok (.goto 5, 3) := by decide +kernel
theorem dX5_push_196 : decode cX5_push 196 = .ok (.bipush (-2), 2) := by decide +kernel
theorem dX5_push_198 : decode cX5_push 198 = .ok (.ireturn, 1) := by decide +kernel
theorem dX5_arm_0 : decode cX5_arm 0 = .ok (.iload_n 1, 1) := by decide +kernel
theorem dX5_arm_1 : decode cX5_arm 1 = .ok (.invokestatic 90, 3) := by decide +kernel
theorem dX5_arm_4 : decode cX5_arm 4 = .ok (.ifCond .eq 14, 3) := by decide +kernel
theorem dX5_arm_7 : decode cX5_arm 7 = .ok (.iload_n 2, 1) := by decide +kernel
theorem dX5_arm_8 : decode cX5_arm 8 = .ok (.iconst (-1), 1) := by decide +kernel
theorem dX5_arm_9 : decode cX5_arm 9 = .ok (.if_icmp .lt 9, 3) := by decide +kernel
theorem dX5_arm_12 : decode cX5_arm 12 = .ok (.iload_n 2, 1) := by decide +kernel
theorem dX5_arm_13 : decode cX5_arm 13 = .ok (.bipush 100, 2) := by decide +kernel
theorem dX5_arm_15 : decode cX5_arm 15 = .ok (.if_icmp .le 5, 3) := by decide +kernel
theorem dX5_arm_18 : decode cX5_arm 18 = .ok (.iconst 0, 1) := by decide +kernel
theorem dX5_arm_19 : decode cX5_arm 19 = .ok (.ireturn, 1) := by decide +kernel
theorem dX5_arm_20 : decode cX5_arm 20 = .ok (.aload_n 0, 1) := by decide +kernel
theorem dX5_arm_21 : decode cX5_arm 21 = .ok (.getfield 33, 3) := by decide +kernel
theorem dX5_arm_24 : decode cX5_arm 24 = .ok (.iload_n 1, 1) := by decide +kernel
theorem dX5_arm_25 : decode cX5_arm 25 = .ok (.iload_n 2, 1) := by decide +kernel
theorem dX5_arm_26 : decode cX5_arm 26 = .ok (.iconst 1, 1) := by decide +kernel
theorem dX5_arm_27 : decode cX5_arm 27 = .ok (.iadd, 1) := by decide +kernel
theorem dX5_arm_28 : decode cX5_arm 28 = .ok (.iastore, 1) := by decide +kernel
theorem dX5_arm_29 : decode cX5_arm 29 = .ok (.iconst 1, 1) := by decide +kernel
theorem dX5_arm_30 : decode cX5_arm 30 = .ok (.ireturn, 1) := by decide +kernel
theorem dX5_recover_0 : decode cX5_recover 0 = .ok (.iload_n 1, 1) := by decide +kernel
theorem dX5_recover_1 : decode cX5_recover 1 = .ok (.invokestatic 90, 3) := by decide +kernel
theorem dX5_recover_4 : decode cX5_recover 4 = .ok (.ifCond .eq 12, 3) := by decide +kernel
theorem dX5_recover_7 : decode cX5_recover 7 = .ok (.aload_n 0, 1) := by decide +kernel
theorem dX5_recover_8 : decode cX5_recover 8 = .ok (.getfield 29, 3) := by decide +kernel
theorem dX5_recover_11 : decode cX5_recover 11 = .ok (.iload_n 1, 1) := by decide +kernel
theorem dX5_recover_12 : decode cX5_recover 12 = .ok (.baload, 1) := by decide +kernel
theorem dX5_recover_13 : decode cX5_recover 13 = .ok (.ifCond .ne 5, 3) := by decide +kernel
theorem dX5_recover_16 : decode cX5_recover 16 = .ok (.iconst (-1), 1) := by decide +kernel
theorem dX5_recover_17 : decode cX5_recover 17 = .ok (.ireturn, 1) := by decide +kernel
theorem dX5_recover_18 : decode cX5_recover 18 = .ok (.aload_n 0, 1) := by decide +kernel
theorem dX5_recover_19 : decode cX5_recover 19 = .ok (.getfield 39, 3) := by decide +kernel
theorem dX5_recover_22 : decode cX5_recover 22 = .ok (.iload_n 1, 1) := by decide +kernel
theorem dX5_recover_23 : decode cX5_recover 23 = .ok (.baload, 1) := by decide +kernel
theorem dX5_recover_24 : decode cX5_recover 24 = .ok (.ifCond .eq 12, 3) := by decide +kernel
theorem dX5_recover_27 : decode cX5_recover 27 = .ok (.aload_n 0, 1) := by decide +kernel
theorem dX5_recover_28 : decode cX5_recover 28 = .ok (.getfield 36, 3) := by decide +kernel
theorem dX5_recover_31 : decode cX5_recover 31 = .ok (.iload_n 1, 1) := by decide +kernel
theorem dX5_recover_32 : decode cX5_recover 32 = .ok (.iaload, 1) := by decide +kernel
theorem dX5_recover_33 : decode cX5_recover 33 = .ok (.goto 4, 3) := by decide +kernel
theorem dX5_recover_36 : decode cX5_recover 36 = .ok (.iconst 0, 1) := by decide +kernel
theorem dX5_recover_37 : decode cX5_recover 37 = .ok (.istore_n 2, 1) := by decide +kernel
theorem dX5_recover_38 : decode cX5_recover 38 = .ok (.aload_n 0, 1) := by decide +kernel
theorem dX5_recover_39 : decode cX5_recover 39 = .ok (.getfield 39, 3) := by decide +kernel
theorem dX5_recover_42 : decode cX5_recover 42 = .ok (.iload_n 1, 1) := by decide +kernel
theorem dX5_recover_43 : decode cX5_recover 43 = .ok (.baload, 1) := by decide +kernel
theorem dX5_recover_44 : decode cX5_recover 44 = .ok (.ifCond .eq 11, 3) := by decide +kernel
theorem dX5_recover_47 : decode cX5_recover 47 = .ok (.aload_n 0, 1) := by decide +kernel
theorem dX5_recover_48 : decode cX5_recover 48 = .ok (.iload_n 1, 1) := by decide +kernel
theorem dX5_recover_49 : decode cX5_recover 49 = .ok (.invokevirtual 84, 3) := by decide +kernel
theorem dX5_recover_52 : decode cX5_recover 52 = .ok (.goto 25, 3) := by decide +kernel
theorem dX5_recover_55 : decode cX5_recover 55 = .ok (.aload_n 0, 1) := by decide +kernel
theorem dX5_recover_56 : decode cX5_recover 56 = .ok (.getfield 36, 3) := by decide +kernel
theorem dX5_recover_59 : decode cX5_recover 59 = .ok (.iload_n 1, 1) := by decide +kernel
theorem dX5_recover_60 : decode cX5_recover 60 = .ok (.iaload, 1) := by decide +kernel
theorem dX5_recover_61 : decode cX5_recover 61 = .ok (.ifCond .eq 11, 3) := by decide +kernel
theorem dX5_recover_64 : decode cX5_recover 64 = .ok (.aload_n 0, 1) := by decide +kernel
theorem dX5_recover_65 : decode cX5_recover 65 = .ok (.iload_n 1, 1) := by decide +kernel
theorem dX5_recover_66 : decode cX5_recover 66 = .ok (.invokevirtual 87, 3) := by decide +kernel
theorem dX5_recover_69 : decode cX5_recover 69 = .ok (.ifCond .eq 7, 3) := by decide +kernel
theorem dX5_recover_72 : decode cX5_recover 72 = .ok (.iconst 1, 1) := by decide +kernel
theorem dX5_recover_73 : decode cX5_recover 73 = .ok (.goto 4, 3) := by decide +kernel
theorem dX5_recover_76 : decode cX5_recover 76 = .ok (.iconst 0, 1) := by decide +kernel
theorem dX5_recover_77 : decode cX5_recover 77 = .ok (.istore_n 3, 1) := by decide +kernel
theorem dX5_recover_78 : decode cX5_recover 78 = .ok (.iload_n 3, 1) := by decide +kernel
theorem dX5_recover_79 : decode cX5_recover 79 = .ok (.ifCond .ne 6, 3) := by decide +kernel
theorem dX5_recover_82 : decode cX5_recover 82 = .ok (.bipush (-2), 2) := by decide +kernel
theorem dX5_recover_84 : decode cX5_recover 84 = .ok (.ireturn, 1) := by decide +kernel
theorem dX5_recover_85 : decode cX5_recover 85 = .ok (.aload_n 0, 1) := by decide +kernel
theorem dX5_recover_86 : decode cX5_recover 86 = .ok (.getfield 29, 3) := by decide +kernel
theorem dX5_recover_89 : decode cX5_recover 89 = .ok (.iload_n 1, 1) := by decide +kernel
theorem dX5_recover_90 : decode cX5_recover 90 = .ok (.iconst 0, 1) := by decide +kernel
theorem dX5_recover_91 : decode cX5_recover 91 = .ok (.bastore, 1) := by decide +kernel
theorem dX5_recover_92 : decode cX5_recover 92 = .ok (.iload_n 2, 1) := by decide +kernel
theorem dX5_recover_93 : decode cX5_recover 93 = .ok (.ireturn, 1) := by decide +kernel
theorem dX5_collect_0 : decode cX5_collect 0 = .ok (.iload_n 1, 1) := by decide +kernel
theorem dX5_collect_1 : decode cX5_collect 1 = .ok (.invokestatic 90, 3) := by decide +kernel
theorem dX5_collect_4 : decode cX5_collect 4 = .ok (.ifCond .ne 5, 3) := by decide +kernel
theorem dX5_collect_7 : decode cX5_collect 7 = .ok (.iconst (-1), 1) := by decide +kernel
theorem dX5_collect_8 : decode cX5_collect 8 = .ok (.ireturn, 1) := by decide +kernel
theorem dX5_collect_9 : decode cX5_collect 9 = .ok (.aload_n 0, 1) := by decide +kernel
theorem dX5_collect_10 : decode cX5_collect 10 = .ok (.getfield 29, 3) := by decide +kernel
theorem dX5_collect_13 : decode cX5_collect 13 = .ok (.iload_n 1, 1) := by decide +kernel
theorem dX5_collect_14 : decode cX5_collect 14 = .ok (.baload, 1) := by decide +kernel
theorem dX5_collect_15 : decode cX5_collect 15 = .ok (.ifCond .eq 6, 3) := by decide +kernel
theorem dX5_collect_18 : decode cX5_collect 18 = .ok (.bipush (-2), 2) := by decide +kernel
theorem dX5_collect_20 : decode cX5_collect 20 = .ok (.ireturn, 1) := by decide +kernel
theorem dX5_collect_21 : decode cX5_collect 21 = .ok (.aload_n 0, 1) := by decide +kernel
theorem dX5_collect_22 : decode cX5_collect 22 = .ok (.getfield 22, 3) := by decide +kernel
theorem dX5_collect_25 : decode cX5_collect 25 = .ok (.iload_n 1, 1) := by decide +kernel
theorem dX5_collect_26 : decode cX5_collect 26 = .ok (.laload, 1) := by decide +kernel
theorem dX5_collect_27 : decode cX5_collect 27 = .ok (.aload_n 0, 1) := by decide +kernel
theorem dX5_collect_28 : decode cX5_collect 28 = .ok (.aload_n 0, 1) := by decide +kernel
theorem dX5_collect_29 : decode cX5_collect 29 = .ok (.iload_n 1, 1) := by decide +kernel
theorem dX5_collect_30 : decode cX5_collect 30 = .ok (.iconst 0, 1) := by decide +kernel
theorem dX5_collect_31 : decode cX5_collect 31 = .ok (.bipush 7, 2) := by decide +kernel
theorem dX5_collect_33 : decode cX5_collect 33 = .ok (.invokevirtual 118, 3) := by decide +kernel
theorem dX5_collect_36 : decode cX5_collect 36 = .ok (.invokevirtual 114, 3) := by decide +kernel
theorem dX5_collect_39 : decode cX5_collect 39 = .ok (.land, 1) := by decide +kernel
theorem dX5_collect_40 : decode cX5_collect 40 = .ok (.lstore_n 2, 1) := by decide +kernel
theorem dX5_collect_41 : decode cX5_collect 41 = .ok (.aload_n 0, 1) := by decide +kernel
theorem dX5_collect_42 : decode cX5_collect 42 = .ok (.getfield 22, 3) := by decide +kernel
theorem dX5_collect_45 : decode cX5_collect 45 = .ok (.iload_n 1, 1) := by decide +kernel
theorem dX5_collect_46 : decode cX5_collect 46 = .ok (.laload, 1) := by decide +kernel
theorem dX5_collect_47 : decode cX5_collect 47 = .ok (.invokestatic 133, 3) := by decide +kernel
theorem dX5_collect_50 : decode cX5_collect 50 = .ok (.lload_n 2, 1) := by decide +kernel
theorem dX5_collect_51 : decode cX5_collect 51 = .ok (.invokestatic 133, 3) := by decide +kernel
theorem dX5_collect_54 : decode cX5_collect 54 = .ok (.isub, 1) := by decide +kernel
theorem dX5_collect_55 : decode cX5_collect 55 = .ok (.istore 4, 2) := by decide +kernel
theorem dX5_collect_57 : decode cX5_collect 57 = .ok (.aload_n 0, 1) := by decide +kernel
theorem dX5_collect_58 : decode cX5_collect 58 = .ok (.getfield 22, 3) := by decide +kernel
theorem dX5_collect_61 : decode cX5_collect 61 = .ok (.iload_n 1, 1) := by decide +kernel
theorem dX5_collect_62 : decode cX5_collect 62 = .ok (.lload_n 2, 1) := by decide +kernel
theorem dX5_collect_63 : decode cX5_collect 63 = .ok (.lastore, 1) := by decide +kernel
theorem dX5_collect_64 : decode cX5_collect 64 = .ok (.iload 4, 2) := by decide +kernel
theorem dX5_collect_66 : decode cX5_collect 66 = .ok (.ireturn, 1) := by decide +kernel
theorem dX5_up_0 : decode cX5_up 0 = .ok (.iload_n 1, 1) := by decide +kernel
theorem dX5_up_1 : decode cX5_up 1 = .ok (.invokestatic 90, 3) := by decide +kernel
theorem dX5_up_4 : decode cX5_up 4 = .ok (.ifCond .eq 16, 3) := by decide +kernel
theorem dX5_up_7 : decode cX5_up 7 = .ok (.aload_n 0, 1) := by decide +kernel
theorem dX5_up_8 : decode cX5_up 8 = .ok (.getfield 29, 3) := by decide +kernel
theorem dX5_up_11 : decode cX5_up 11 = .ok (.iload_n 1, 1) := by decide +kernel
theorem dX5_up_12 : decode cX5_up 12 = .ok (.baload, 1) := by decide +kernel
theorem dX5_up_13 : decode cX5_up 13 = .ok (.ifCond .ne 7, 3) := by decide +kernel
theorem dX5_up_16 : decode cX5_up 16 = .ok (.iconst 1, 1) := by decide +kernel
theorem dX5_up_17 : decode cX5_up 17 = .ok (.goto 4, 3) := by decide +kernel
theorem dX5_up_20 : decode cX5_up 20 = .ok (.iconst 0, 1) := by decide +kernel
theorem dX5_up_21 : decode cX5_up 21 = .ok (.ireturn, 1) := by decide +kernel
theorem dX5_reference_0 : decode cX5_reference 0 = .ok (.iload_n 1, 1) := by decide +kernel
theorem dX5_reference_1 : decode cX5_reference 1 = .ok (.invokestatic 90, 3) := by decide +kernel
theorem dX5_reference_4 : decode cX5_reference 4 = .ok (.ifCond .eq 13, 3) := by decide +kernel
theorem dX5_reference_7 : decode cX5_reference 7 = .ok (.iload_n 2, 1) := by decide +kernel
theorem dX5_reference_8 : decode cX5_reference 8 = .ok (.ifCond .lt 9, 3) := by decide +kernel
theorem dX5_reference_11 : decode cX5_reference 11 = .ok (.iload_n 2, 1) := by decide +kernel
theorem dX5_reference_12 : decode cX5_reference 12 = .ok (.bipush 7, 2) := by decide +kernel
theorem dX5_reference_14 : decode cX5_reference 14 = .ok (.if_icmp .le 5, 3) := by decide +kernel
theorem dX5_reference_17 : decode cX5_reference 17 = .ok (.iconst (-1), 1) := by decide +kernel
theorem dX5_reference_18 : decode cX5_reference 18 = .ok (.ireturn, 1) := by decide +kernel
theorem dX5_reference_19 : decode cX5_reference 19 = .ok (.aload_n 0, 1) := by decide +kernel
theorem dX5_reference_20 : decode cX5_reference 20 = .ok (.getfield 29, 3) := by decide +kernel
theorem dX5_reference_23 : decode cX5_reference 23 = .ok (.iload_n 1, 1) := by decide +kernel
theorem dX5_reference_24 : decode cX5_reference 24 = .ok (.baload, 1) := by decide +kernel
theorem dX5_reference_25 : decode cX5_reference 25 = .ok (.ifCond .eq 6, 3) := by decide +kernel
theorem dX5_reference_28 : decode cX5_reference 28 = .ok (.bipush (-2), 2) := by decide +kernel
theorem dX5_reference_30 : decode cX5_reference 30 = .ok (.ireturn, 1) := by decide +kernel
theorem dX5_reference_31 : decode cX5_reference 31 = .ok (.aload_n 0, 1) := by decide +kernel
theorem dX5_reference_32 : decode cX5_reference 32 = .ok (.getfield 26, 3) := by decide +kernel
theorem dX5_reference_35 : decode cX5_reference 35 = .ok (.bipush 8, 2) := by decide +kernel
theorem dX5_reference_37 : decode cX5_reference 37 = .ok (.iload_n 1, 1) := by decide +kernel
theorem dX5_reference_38 : decode cX5_reference 38 = .ok (.imul, 1) := by decide +kernel
theorem dX5_reference_39 : decode cX5_reference 39 = .ok (.iload_n 2, 1) := by decide +kernel
theorem dX5_reference_40 : decode cX5_reference 40 = .ok (.iadd, 1) := by decide +kernel
theorem dX5_reference_41 : decode cX5_reference 41 = .ok (.iaload, 1) := by decide +kernel
theorem dX5_reference_42 : decode cX5_reference 42 = .ok (.istore_n 3, 1) := by decide +kernel
theorem dX5_reference_43 : decode cX5_reference 43 = .ok (.iload_n 3, 1) := by decide +kernel
theorem dX5_reference_44 : decode cX5_reference 44 = .ok (.ifCond .ne 8, 3) := by decide +kernel
theorem dX5_reference_47 : decode cX5_reference 47 = .ok (.bipush (-4), 2) := by decide +kernel
theorem dX5_reference_49 : decode cX5_reference 49 = .ok (.goto 6, 3) := by decide +kernel
theorem dX5_reference_52 : decode cX5_reference 52 = .ok (.iload_n 3, 1) := by decide +kernel
theorem dX5_reference_53 : decode cX5_reference 53 = .ok (.iconst 1, 1) := by decide +kernel
theorem dX5_reference_54 : decode cX5_reference 54 = .ok (.isub, 1) := by decide +kernel
theorem dX5_reference_55 : decode cX5_reference 55 = .ok (.ireturn, 1) := by decide +kernel
theorem dX5_holds_0 : decode cX5_holds 0 = .ok (.iload_n 1, 1) := by decide +kernel
theorem dX5_holds_1 : decode cX5_holds 1 = .ok (.invokestatic 90, 3) := by decide +kernel
theorem dX5_holds_4 : decode cX5_holds 4 = .ok (.ifCond .ne 5, 3) := by decide +kernel
theorem dX5_holds_7 : decode cX5_holds 7 = .ok (.iconst (-1), 1) := by decide +kernel
theorem dX5_holds_8 : decode cX5_holds 8 = .ok (.ireturn, 1) := by decide +kernel
theorem dX5_holds_9 : decode cX5_holds 9 = .ok (.aload_n 0, 1) := by decide +kernel
theorem dX5_holds_10 : decode cX5_holds 10 = .ok (.getfield 29, 3) := by decide +kernel
theorem dX5_holds_13 : decode cX5_holds 13 = .ok (.iload_n 1, 1) := by decide +kernel
theorem dX5_holds_14 : decode cX5_holds 14 = .ok (.baload, 1) := by decide +kernel
theorem dX5_holds_15 : decode cX5_holds 15 = .ok (.ifCond .eq 8, 3) := by decide +kernel
theorem dX5_holds_18 : decode cX5_holds 18 = .ok (.bipush (-2), 2) := by decide +kernel
theorem dX5_holds_20 : decode cX5_holds 20 = .ok (.goto 17, 3) := by decide +kernel
theorem dX5_holds_23 : decode cX5_holds 23 = .ok (.aload_n 0, 1) := by decide +kernel
theorem dX5_holds_24 : decode cX5_holds 24 = .ok (.iload_n 1, 1) := by decide +kernel
theorem dX5_holds_25 : decode cX5_holds 25 = .ok (.iload_n 2, 1) := by decide +kernel
theorem dX5_holds_26 : decode cX5_holds 26 = .ok (.invokevirtual 73, 3) := by decide +kernel
theorem dX5_holds_29 : decode cX5_holds 29 = .ok (.ifCond .eq 7, 3) := by decide +kernel
theorem dX5_holds_32 : decode cX5_holds 32 = .ok (.iconst 1, 1) := by decide +kernel
theorem dX5_holds_33 : decode cX5_holds 33 = .ok (.goto 4, 3) := by decide +kernel
theorem dX5_holds_36 : decode cX5_holds 36 = .ok (.iconst 0, 1) := by decide +kernel
theorem dX5_holds_37 : decode cX5_holds 37 = .ok (.ireturn, 1) := by decide +kernel
theorem dX5_count_0 : decode cX5_count 0 = .ok (.iload_n 1, 1) := by decide +kernel
theorem dX5_count_1 : decode cX5_count 1 = .ok (.invokestatic 90, 3) := by decide +kernel
theorem dX5_count_4 : decode cX5_count 4 = .ok (.ifCond .ne 5, 3) := by decide +kernel
theorem dX5_count_7 : decode cX5_count 7 = .ok (.iconst (-1), 1) := by decide +kernel
theorem dX5_count_8 : decode cX5_count 8 = .ok (.ireturn, 1) := by decide +kernel
theorem dX5_count_9 : decode cX5_count 9 = .ok (.aload_n 0, 1) := by decide +kernel
theorem dX5_count_10 : decode cX5_count 10 = .ok (.getfield 29, 3) := by decide +kernel
theorem dX5_count_13 : decode cX5_count 13 = .ok (.iload_n 1, 1) := by decide +kernel
theorem dX5_count_14 : decode cX5_count 14 = .ok (.baload, 1) := by decide +kernel
theorem dX5_count_15 : decode cX5_count 15 = .ok (.ifCond .eq 8, 3) := by decide +kernel
theorem dX5_count_18 : decode cX5_count 18 = .ok (.bipush (-2), 2) := by decide +kernel
theorem dX5_count_20 : decode cX5_count 20 = .ok (.goto 12, 3) := by decide +kernel
theorem dX5_count_23 : decode cX5_count 23 = .ok (.aload_n 0, 1) := by decide +kernel
theorem dX5_count_24 : decode cX5_count 24 = .ok (.getfield 22, 3) := by decide +kernel
theorem dX5_count_27 : decode cX5_count 27 = .ok (.iload_n 1, 1) := by decide +kernel
theorem dX5_count_28 : decode cX5_count 28 = .ok (.laload, 1) := by decide +kernel
theorem dX5_count_29 : decode cX5_count 29 = .ok (.invokestatic 133, 3) := by decide +kernel
theorem dX5_count_32 : decode cX5_count 32 = .ok (.ireturn, 1) := by decide +kernel
theorem dX5_talk_0 : decode cX5_talk 0 = .ok (.iload_n 1, 1) := by decide +kernel
theorem dX5_talk_1 : decode cX5_talk 1 = .ok (.ifCond .lt 8, 3) := by decide +kernel
theorem dX5_talk_4 : decode cX5_talk 4 = .ok (.iload_n 1, 1) := by decide +kernel
theorem dX5_talk_5 : decode cX5_talk 5 = .ok (.iconst 2, 1) := by decide +kernel
theorem dX5_talk_6 : decode cX5_talk 6 = .ok (.if_icmp .le 5, 3) := by decide +kernel
theorem dX5_talk_9 : decode cX5_talk 9 = .ok (.iconst (-1), 1) := by decide +kernel
theorem dX5_talk_10 : decode cX5_talk 10 = .ok (.ireturn, 1) := by decide +kernel
theorem dX5_talk_11 : decode cX5_talk 11 = .ok (.iload_n 1, 1) := by decide +kernel
theorem dX5_talk_12 : decode cX5_talk 12 = .ok (.ifCond .ne 10, 3) := by decide +kernel
theorem dX5_talk_15 : decode cX5_talk 15 = .ok (.aload_n 0, 1) := by decide +kernel
theorem dX5_talk_16 : decode cX5_talk 16 = .ok (.getfield 127, 3) := by decide +kernel
theorem dX5_talk_19 : decode cX5_talk 19 = .ok (.goto 19, 3) := by decide +kernel
theorem dX5_talk_22 : decode cX5_talk 22 = .ok (.iload_n 1, 1) := by decide +kernel
theorem dX5_talk_23 : decode cX5_talk 23 = .ok (.iconst 1, 1) := by decide +kernel
theorem dX5_talk_24 : decode cX5_talk 24 = .ok (.if_icmp .ne 10, 3) := by decide +kernel
theorem dX5_talk_27 : decode cX5_talk 27 = .ok (.aload_n 0, 1) := by decide +kernel
theorem dX5_talk_28 : decode cX5_talk 28 = .ok (.getfield 130, 3) := by decide +kernel
theorem dX5_talk_31 : decode cX5_talk 31 = .ok (.goto 7, 3) := by decide +kernel
theorem dX5_talk_34 : decode cX5_talk 34 = .ok (.aload_n 0, 1) := by decide +kernel
theorem dX5_talk_35 : decode cX5_talk 35 = .ok (.getfield 124, 3) := by decide +kernel
theorem dX5_talk_38 : decode cX5_talk 38 = .ok (.ireturn, 1) := by decide +kernel
theorem dX5_packed_0 : decode cX5_packed 0 = .ok (.aload_n 0, 1) := by decide +kernel
theorem dX5_packed_1 : decode cX5_packed 1 = .ok (.getfield 107, 3) := by decide +kernel
theorem dX5_packed_4 : decode cX5_packed 4 = .ok (.ireturn, 1) := by decide +kernel
theorem dX5_packAt_0 : decode cX5_packAt 0 = .ok (.iload_n 1, 1) := by decide +kernel
theorem dX5_packAt_1 : decode cX5_packAt 1 = .ok (.ifCond .lt 11, 3) := by decide +kernel
theorem dX5_packAt_4 : decode cX5_packAt 4 = .ok (.iload_n 1, 1) := by decide +kernel
theorem dX5_packAt_5 : decode cX5_packAt 5 = .ok (.aload_n 0, 1) := by decide +kernel
theorem dX5_packAt_6 : decode cX5_packAt 6 = .ok (.getfield 107, 3) := by decide +kernel
theorem dX5_packAt_9 : decode cX5_packAt 9 = .ok (.if_icmp .lt 8, 3) := by decide +kernel
theorem dX5_packAt_12 : decode cX5_packAt 12 = .ok (.bipush (-4), 2) := by decide +kernel
theorem dX5_packAt_14 : decode cX5_packAt 14 = .ok (.goto 9, 3) := by decide +kernel
theorem dX5_packAt_17 : decode cX5_packAt 17 = .ok (.aload_n 0, 1) := by decide +kernel
theorem dX5_packAt_18 : decode cX5_packAt 18 = .ok (.getfield 57, 3) := by decide +kernel
theorem dX5_packAt_21 : decode cX5_packAt 21 = .ok (.iload_n 1, 1) := by decide +kernel
theorem dX5_packAt_22 : decode cX5_packAt 22 = .ok (.iaload, 1) := by decide +kernel
theorem dX5_packAt_23 : decode cX5_packAt 23 = .ok (.ireturn, 1) := by decide +kernel
theorem dX5_base_0 : decode cX5_base 0 = .ok (.iload_n 1, 1) := by decide +kernel
theorem dX5_base_1 : decode cX5_base 1 = .ok (.ifCond .lt 11, 3) := by decide +kernel
theorem dX5_base_4 : decode cX5_base 4 = .ok (.iload_n 1, 1) := by decide +kernel
theorem dX5_base_5 : decode cX5_base 5 = .ok (.aload_n 0, 1) := by decide +kernel
theorem dX5_base_6 : decode cX5_base 6 = .ok (.getfield 107, 3) := by decide +kernel
theorem dX5_base_9 : decode cX5_base 9 = .ok (.if_icmp .lt 8, 3) := by decide +kernel
theorem dX5_base_12 : decode cX5_base 12 = .ok (.bipush (-4), 2) := by decide +kernel
theorem dX5_base_14 : decode cX5_base 14 = .ok (.goto 9, 3) := by decide +kernel
theorem dX5_base_17 : decode cX5_base 17 = .ok (.aload_n 0, 1) := by decide +kernel
theorem dX5_base_18 : decode cX5_base 18 = .ok (.getfield 60, 3) := by decide +kernel
theorem dX5_base_21 : decode cX5_base 21 = .ok (.iload_n 1, 1) := by decide +kernel
theorem dX5_base_22 : decode cX5_base 22 = .ok (.iaload, 1) := by decide +kernel
theorem dX5_base_23 : decode cX5_base 23 = .ok (.ireturn, 1) := by decide +kernel
theorem dX5_weight_0 : decode cX5_weight 0 = .ok (.iconst 0, 1) := by decide +kernel
theorem dX5_weight_1 : decode cX5_weight 1 = .ok (.istore_n 1, 1) := by decide +kernel
theorem dX5_weight_2 : decode cX5_weight 2 = .ok (.iconst 0, 1) := by decide +kernel
theorem dX5_weight_3 : decode cX5_weight 3 = .ok (.istore_n 2, 1) := by decide +kernel
theorem dX5_weight_4 : decode cX5_weight 4 = .ok (.iload_n 2, 1) := by decide +kernel
theorem dX5_weight_5 : decode cX5_weight 5 = .ok (.aload_n 0, 1) := by decide +kernel
theorem dX5_weight_6 : decode cX5_weight 6 = .ok (.getfield 107, 3) := by decide +kernel
theorem dX5_weight_9 : decode cX5_weight 9 = .ok (.if_icmp .ge 18, 3) := by decide +kernel
theorem dX5_weight_12 : decode cX5_weight 12 = .ok (.iload_n 1, 1) := by decide +kernel
theorem dX5_weight_13 : decode cX5_weight 13 = .ok (.aload_n 0, 1) := by decide +kernel
theorem dX5_weight_14 : decode cX5_weight 14 = .ok (.getfield 66, 3) := by decide +kernel
theorem dX5_weight_17 : decode cX5_weight 17 = .ok (.iload_n 2, 1) := by decide +kernel
theorem dX5_weight_18 : decode cX5_weight 18 = .ok (.iaload, 1) := by decide +kernel
theorem dX5_weight_19 : decode cX5_weight 19 = .ok (.iadd, 1) := by decide +kernel
theorem dX5_weight_20 : decode cX5_weight 20 = .ok (.istore_n 1, 1) := by decide +kernel
theorem dX5_weight_21 : decode cX5_weight 21 = .ok (.iinc 2 1, 3) := by decide +kernel
theorem dX5_weight_24 : decode cX5_weight 24 = .ok (.goto (-20), 3) := by decide +kernel
theorem dX5_weight_27 : decode cX5_weight 27 = .ok (.iload_n 1, 1) := by decide +kernel
theorem dX5_weight_28 : decode cX5_weight 28 = .ok (.ireturn, 1) := by decide +kernel
theorem dX5_verdict_0 : decode cX5_verdict 0 = .ok (.iload_n 1, 1) := by decide +kernel
theorem dX5_verdict_1 : decode cX5_verdict 1 = .ok (.ifCond .lt 8, 3) := by decide +kernel
theorem dX5_verdict_4 : decode cX5_verdict 4 = .ok (.iload_n 1, 1) := by decide +kernel
theorem dX5_verdict_5 : decode cX5_verdict 5 = .ok (.iconst 3, 1) := by decide +kernel
theorem dX5_verdict_6 : decode cX5_verdict 6 = .ok (.if_icmp .le 7, 3) := by decide +kernel
theorem dX5_verdict_9 : decode cX5_verdict 9 = .ok (.iconst 0, 1) := by decide +kernel
theorem dX5_verdict_10 : decode cX5_verdict 10 = .ok (.goto 9, 3) := by decide +kernel
theorem dX5_verdict_13 : decode cX5_verdict 13 = .ok (.aload_n 0, 1) := by decide +kernel
theorem dX5_verdict_14 : decode cX5_verdict 14 = .ok (.getfield 54, 3) := by decide +kernel
theorem dX5_verdict_17 : decode cX5_verdict 17 = .ok (.iload_n 1, 1) := by decide +kernel
theorem dX5_verdict_18 : decode cX5_verdict 18 = .ok (.iaload, 1) := by decide +kernel
theorem dX5_verdict_19 : decode cX5_verdict 19 = .ok (.ireturn, 1) := by decide +kernel
theorem dX0_init_0 : decode cX0_init 0 = .ok (.aload_n 0, 1) := by decide +kernel
theorem dX0_init_1 : decode cX0_init 1 = .ok (.invokespecial 3, 3) := by decide +kernel
theorem dX0_init_4 : decode cX0_init 4 = .ok (.aload_n 0, 1) := by decide +kernel
theorem dX0_init_5 : decode cX0_init 5 = .ok (.bipush 8, 2) := by decide +kernel
theorem dX0_init_7 : decode cX0_init 7 = .ok (.newarray .int, 2) := by decide +kernel
theorem dX0_init_9 : decode cX0_init 9 = .ok (.putfield 9, 3) := by decide +kernel
theorem dX0_init_12 : decode cX0_init 12 = .ok (.aload_n 0, 1) := by decide +kernel
theorem dX0_init_13 : decode cX0_init 13 = .ok (.bipush 8, 2) := by decide +kernel
theorem dX0_init_15 : decode cX0_init 15 = .ok (.newarray .int, 2) := by decide +kernel
theorem dX0_init_17 : decode cX0_init 17 = .ok (.putfield 15, 3) := by decide +kernel
theorem dX0_init_20 : decode cX0_init 20 = .ok (.aload_n 0, 1) := by decide +kernel
theorem dX0_init_21 : decode cX0_init 21 = .ok (.iconst 0, 1) := by decide +kernel
theorem dX0_init_22 : decode cX0_init 22 = .ok (.putfield 18, 3) := by decide +kernel
theorem dX0_init_25 : decode cX0_init 25 = .ok (.aload_n 0, 1) := by decide +kernel
theorem dX0_init_26 : decode cX0_init 26 = .ok (.iconst 0, 1) := by decide +kernel
theorem dX0_init_27 : decode cX0_init 27 = .ok (.putfield 22, 3) := by decide +kernel
theorem dX0_init_30 : decode cX0_init 30 = .ok (.aload_n 0, 1) := by decide +kernel
theorem dX0_init_31 : decode cX0_init 31 = .ok (.lconst 0, 1) := by decide +kernel
theorem dX0_init_32 : decode cX0_init 32 = .ok (.putfield 26, 3) := by decide +kernel
theorem dX0_init_35 : decode cX0_init 35 = .ok (.aload_n 0, 1) := by decide +kernel
theorem dX0_init_36 : decode cX0_init 36 = .ok (.iconst 1, 1) := by decide +kernel
theorem dX0_init_37 : decode cX0_init 37 = .ok (.putfield 30, 3) := by decide +kernel
theorem dX0_init_40 : decode cX0_init 40 = .ok (.aload_n 0, 1) := by decide +kernel
theorem dX0_init_41 : decode cX0_init 41 = .ok (.iconst (-1), 1) := by decide +kernel
theorem dX0_init_42 : decode cX0_init 42 = .ok (.putfield 33, 3) := by decide +kernel
theorem dX0_init_45 : decode cX0_init 45 = .ok (.iconst 0, 1) := by decide +kernel
theorem dX0_init_46 : decode cX0_init 46 = .ok (.istore_n 1, 1) := by decide +kernel
theorem dX0_init_47 : decode cX0_init 47 = .ok (.iload_n 1, 1) := by decide +kernel
theorem dX0_init_48 : decode cX0_init 48 = .ok (.bipush 8, 2) := by decide +kernel
theorem dX0_init_50 : decode cX0_init 50 = .ok (.if_icmp .ge 24, 3) := by decide +kernel
theorem dX0_init_53 : decode cX0_init 53 = .ok (.aload_n 0, 1) := by decide +kernel
theorem dX0_init_54 : decode cX0_init 54 = .ok (.getfield 9, 3) := by decide +kernel
theorem dX0_init_57 : decode cX0_init 57 = .ok (.iload_n 1, 1) := by decide +kernel
theorem dX0_init_58 : decode cX0_init 58 = .ok (.iconst (-1), 1) := by decide +kernel
theorem dX0_init_59 : decode cX0_init 59 = .ok (.iastore, 1) := by decide +kernel
theorem dX0_init_60 : decode cX0_init 60 = .ok (.aload_n 0, 1) := by decide +kernel
theorem dX0_init_61 : decode cX0_init 61 = .ok (.getfield 15, 3) := by decide +kernel
theorem dX0_init_64 : decode cX0_init 64 = .ok (.iload_n 1, 1) := by decide +kernel
theorem dX0_init_65 : decode cX0_init 65 = .ok (.bipush (-2), 2) := by decide +kernel
theorem dX0_init_67 : decode cX0_init 67 = .ok (.iastore, 1) := by decide +kernel
theorem dX0_init_68 : decode cX0_init 68 = .ok (.iinc 1 1, 3) := by decide +kernel
theorem dX0_init_71 : decode cX0_init 71 = .ok (.goto (-24), 3) := by decide +kernel
theorem dX0_init_74 : decode cX0_init 74 = .ok (.return_, 1) := by decide +kernel
theorem dX1_init_0 : decode cX1_init 0 = .ok (.aload_n 0, 1) := by decide +kernel
theorem dX1_init_1 : decode cX1_init 1 = .ok (.invokespecial 3, 3) := by decide +kernel
theorem dX1_init_4 : decode cX1_init 4 = .ok (.aload_n 0, 1) := by decide +kernel
theorem dX1_init_5 : decode cX1_init 5 = .ok (.bipush 60, 2) := by decide +kernel
theorem dX1_init_7 : decode cX1_init 7 = .ok (.newarray .int, 2) := by decide +kernel
theorem dX1_init_9 : decode cX1_init 9 = .ok (.putfield 9, 3) := by decide +kernel
theorem dX1_init_12 : decode cX1_init 12 = .ok (.aload_n 0, 1) := by decide +kernel
theorem dX1_init_13 : decode cX1_init 13 = .ok (.bipush 60, 2) := by decide +kernel
theorem dX1_init_15 : decode cX1_init 15 = .ok (.newarray .int, 2) := by decide +kernel
theorem dX1_init_17 : decode cX1_init 17 = .ok (.putfield 15, 3) := by decide +kernel
theorem dX1_init_20 : decode cX1_init 20 = .ok (.aload_n 0, 1) := by decide +kernel
theorem dX1_init_21 : decode cX1_init 21 = .ok (.bipush 60, 2) := by decide +kernel
theorem dX1_init_23 : decode cX1_init 23 = .ok (.newarray .int, 2) := by decide +kernel
theorem dX1_init_25 : decode cX1_init 25 = .ok (.putfield 18, 3) := by decide +kernel
theorem dX1_init_28 : decode cX1_init 28 = .ok (.aload_n 0, 1) := by decide +kernel
theorem dX1_init_29 : decode cX1_init 29 = .ok (.lconst 0, 1) := by decide +kernel
theorem dX1_init_30 : decode cX1_init 30 = .ok (.putfield 21, 3) := by decide +kernel
theorem dX1_init_33 : decode cX1_init 33 = .ok (.aload_n 0, 1) := by decide +kernel
theorem dX1_init_34 : decode cX1_init 34 = .ok (.iconst 0, 1) := by decide +kernel
theorem dX1_init_35 : decode cX1_init 35 = .ok (.putfield 25, 3) := by decide +kernel
theorem dX1_init_38 : decode cX1_init 38 = .ok (.aload_n 0, 1) := by decide +kernel
theorem dX1_init_39 : decode cX1_init 39 = .ok (.iconst 0, 1) := by decide +kernel
theorem dX1_init_40 : decode cX1_init 40 = .ok (.putfield 29, 3) := by decide +kernel
theorem dX1_init_43 : decode cX1_init 43 = .ok (.return_, 1) := by decide +kernel
theorem dX2_init_0 : decode cX2_init 0 = .ok (.aload_n 0, 1) := by decide +kernel
theorem dX2_init_1 : decode cX2_init 1 = .ok (.invokespecial 3, 3) := by decide +kernel
theorem dX2_init_4 : decode cX2_init 4 = .ok (.aload_n 0, 1) := by decide +kernel
