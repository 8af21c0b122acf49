theorem dX5_allReach_23 : decode cX5_allReach 23 = .ok (.aload_n 0, 1) := by decide +kernel
theorem dX5_allReach_24 : decode cX5_allReach 24 = .ok (.lconst 1, 1) := by decide +kernel
theorem dX5_allReach_25 : decode cX5_allReach 25 = .ok (.iload 5, 2) := by decide +kernel
theorem dX5_allReach_27 : decode cX5_allReach 27 = .ok (.lshl, 1) := by decide +kernel
theorem dX5_allReach_28 : decode cX5_allReach 28 = .ok (.invokevirtual 114, 3) := by decide +kernel
theorem dX5_allReach_31 : decode cX5_allReach 31 = .ok (.lload_n 3, 1) := by decide +kernel
theorem dX5_allReach_32 : decode cX5_allReach 32 = .ok (.land, 1) := by decide +kernel
theorem dX5_allReach_33 : decode cX5_allReach 33 = .ok (.lconst 0, 1) := by decide +kernel
theorem dX5_allReach_34 : decode cX5_allReach 34 = .ok (.lcmp, 1) := by decide +kernel
theorem dX5_allReach_35 : decode cX5_allReach 35 = .ok (.ifCond .ne 5, 3) := by decide +kernel
theorem dX5_allReach_38 : decode cX5_allReach 38 = .ok (.iconst 0, 1) := by decide +kernel
theorem dX5_allReach_39 : decode cX5_allReach 39 = .ok (.ireturn, 1) := by decide +kernel
theorem dX5_allReach_40 : decode cX5_allReach 40 = .ok (.iinc 5 1, 3) := by decide +kernel
theorem dX5_allReach_43 : decode cX5_allReach 43 = .ok (.goto (-40), 3) := by decide +kernel
theorem dX5_allReach_46 : decode cX5_allReach 46 = .ok (.iconst 1, 1) := by decide +kernel
theorem dX5_allReach_47 : decode cX5_allReach 47 = .ok (.ireturn, 1) := by decide +kernel
theorem dX5_converse_0 : decode cX5_converse 0 = .ok (.lconst 0, 1) := by decide +kernel
theorem dX5_converse_1 : decode cX5_converse 1 = .ok (.lstore 4, 2) := by decide +kernel
theorem dX5_converse_3 : decode cX5_converse 3 = .ok (.lconst 0, 1) := by decide +kernel
theorem dX5_converse_4 : decode cX5_converse 4 = .ok (.lstore 6, 2) := by decide +kernel
theorem dX5_converse_6 : decode cX5_converse 6 = .ok (.aload_n 0, 1) := by decide +kernel
theorem dX5_converse_7 : decode cX5_converse 7 = .ok (.aload_n 0, 1) := by decide +kernel
theorem dX5_converse_8 : decode cX5_converse 8 = .ok (.iload_n 1, 1) := by decide +kernel
theorem dX5_converse_9 : decode cX5_converse 9 = .ok (.iconst 0, 1) := by decide +kernel
theorem dX5_converse_10 : decode cX5_converse 10 = .ok (.bipush 7, 2) := by decide +kernel
theorem dX5_converse_12 : decode cX5_converse 12 = .ok (.invokevirtual 118, 3) := by decide +kernel
theorem dX5_converse_15 : decode cX5_converse 15 = .ok (.invokevirtual 114, 3) := by decide +kernel
theorem dX5_converse_18 : decode cX5_converse 18 = .ok (.lstore 8, 2) := by decide +kernel
theorem dX5_converse_20 : decode cX5_converse 20 = .ok (.iconst 0, 1) := by decide +kernel
theorem dX5_converse_21 : decode cX5_converse 21 = .ok (.istore 10, 2) := by decide +kernel
theorem dX5_converse_23 : decode cX5_converse 23 = .ok (.iload 10, 2) := by decide +kernel
theorem dX5_converse_25 : decode cX5_converse 25 = .ok (.aload_n 0, 1) := by decide +kernel
theorem dX5_converse_26 : decode cX5_converse 26 = .ok (.getfield 69, 3) := by decide +kernel
theorem dX5_converse_29 : decode cX5_converse 29 = .ok (.if_icmp .ge 37, 3) := by decide +kernel
theorem dX5_converse_32 : decode cX5_converse 32 = .ok (.aload_n 0, 1) := by decide +kernel
theorem dX5_converse_33 : decode cX5_converse 33 = .ok (.getfield 7, 3) := by decide +kernel
theorem dX5_converse_36 : decode cX5_converse 36 = .ok (.iload 10, 2) := by decide +kernel
theorem dX5_converse_38 : decode cX5_converse 38 = .ok (.iaload, 1) := by decide +kernel
theorem dX5_converse_39 : decode cX5_converse 39 = .ok (.iconst 2, 1) := by decide +kernel
theorem dX5_converse_40 : decode cX5_converse 40 = .ok (.if_icmp .ne 16, 3) := by decide +kernel
theorem dX5_converse_43 : decode cX5_converse 43 = .ok (.lload 6, 2) := by decide +kernel
theorem dX5_converse_45 : decode cX5_converse 45 = .ok (.lload 8, 2) := by decide +kernel
theorem dX5_converse_47 : decode cX5_converse 47 = .ok (.lconst 1, 1) := by decide +kernel
theorem dX5_converse_48 : decode cX5_converse 48 = .ok (.iload 10, 2) := by decide +kernel
theorem dX5_converse_50 : decode cX5_converse 50 = .ok (.lshl, 1) := by decide +kernel
theorem dX5_converse_51 : decode cX5_converse 51 = .ok (.land, 1) := by decide +kernel
theorem dX5_converse_52 : decode cX5_converse 52 = .ok (.lor, 1) := by decide +kernel
theorem dX5_converse_53 : decode cX5_converse 53 = .ok (.goto 5, 3) := by decide +kernel
theorem dX5_converse_56 : decode cX5_converse 56 = .ok (.lload 6, 2) := by decide +kernel
theorem dX5_converse_58 : decode cX5_converse 58 = .ok (.lstore 6, 2) := by decide +kernel
theorem dX5_converse_60 : decode cX5_converse 60 = .ok (.iinc 10 1, 3) := by decide +kernel
theorem dX5_converse_63 : decode cX5_converse 63 = .ok (.goto (-40), 3) := by decide +kernel
theorem dX5_converse_66 : decode cX5_converse 66 = .ok (.iconst 0, 1) := by decide +kernel
theorem dX5_converse_67 : decode cX5_converse 67 = .ok (.istore 10, 2) := by decide +kernel
theorem dX5_converse_69 : decode cX5_converse 69 = .ok (.iload 10, 2) := by decide +kernel
theorem dX5_converse_71 : decode cX5_converse 71 = .ok (.bipush 60, 2) := by decide +kernel
theorem dX5_converse_73 : decode cX5_converse 73 = .ok (.if_icmp .ge 169, 3) := by decide +kernel
theorem dX5_converse_76 : decode cX5_converse 76 = .ok (.lload 6, 2) := by decide +kernel
theorem dX5_converse_78 : decode cX5_converse 78 = .ok (.lconst 0, 1) := by decide +kernel
theorem dX5_converse_79 : decode cX5_converse 79 = .ok (.lcmp, 1) := by decide +kernel
theorem dX5_converse_80 : decode cX5_converse 80 = .ok (.ifCond .eq 162, 3) := by decide +kernel
theorem dX5_converse_83 : decode cX5_converse 83 = .ok (.iconst 0, 1) := by decide +kernel
theorem dX5_converse_84 : decode cX5_converse 84 = .ok (.istore 11, 2) := by decide +kernel
theorem dX5_converse_86 : decode cX5_converse 86 = .ok (.lconst 0, 1) := by decide +kernel
theorem dX5_converse_87 : decode cX5_converse 87 = .ok (.lstore 12, 2) := by decide +kernel
theorem dX5_converse_89 : decode cX5_converse 89 = .ok (.aload_n 0, 1) := by decide +kernel
theorem dX5_converse_90 : decode cX5_converse 90 = .ok (.getfield 69, 3) := by decide +kernel
theorem dX5_converse_93 : decode cX5_converse 93 = .ok (.iconst 1, 1) := by decide +kernel
theorem dX5_converse_94 : decode cX5_converse 94 = .ok (.isub, 1) := by decide +kernel
theorem dX5_converse_95 : decode cX5_converse 95 = .ok (.istore 14, 2) := by decide +kernel
theorem dX5_converse_97 : decode cX5_converse 97 = .ok (.iload 14, 2) := by decide +kernel
theorem dX5_converse_99 : decode cX5_converse 99 = .ok (.ifCond .lt 67, 3) := by decide +kernel
theorem dX5_converse_102 : decode cX5_converse 102 = .ok (.iload 11, 2) := by decide +kernel
theorem dX5_converse_104 : decode cX5_converse 104 = .ok (.iconst 3, 1) := by decide +kernel
theorem dX5_converse_105 : decode cX5_converse 105 = .ok (.if_icmp .ge 55, 3) := by decide +kernel
theorem dX5_converse_108 : decode cX5_converse 108 = .ok (.lload 6, 2) := by decide +kernel
theorem dX5_converse_110 : decode cX5_converse 110 = .ok (.iload 14, 2) := by decide +kernel
theorem dX5_converse_112 : decode cX5_converse 112 = .ok (.lshr, 1) := by decide +kernel
theorem dX5_converse_113 : decode cX5_converse 113 = .ok (.lconst 1, 1) := by decide +kernel
theorem dX5_converse_114 : decode cX5_converse 114 = .ok (.land, 1) := by decide +kernel
theorem dX5_converse_115 : decode cX5_converse 115 = .ok (.lconst 1, 1) := by decide +kernel
theorem dX5_converse_116 : decode cX5_converse 116 = .ok (.lcmp, 1) := by decide +kernel
theorem dX5_converse_117 : decode cX5_converse 117 = .ok (.ifCond .ne 43, 3) := by decide +kernel
theorem dX5_converse_120 : decode cX5_converse 120 = .ok (.iinc 11 1, 3) := by decide +kernel
theorem dX5_converse_123 : decode cX5_converse 123 = .ok (.lload 6, 2) := by decide +kernel
theorem dX5_converse_125 : decode cX5_converse 125 = .ok (.lconst 1, 1) := by decide +kernel
theorem dX5_converse_126 : decode cX5_converse 126 = .ok (.iload 14, 2) := by decide +kernel
theorem dX5_converse_128 : decode cX5_converse 128 = .ok (.lshl, 1) := by decide +kernel
theorem dX5_converse_129 : decode cX5_converse 129 = .ok (.ldc2_w 122, 3) := by decide +kernel
theorem dX5_converse_132 : decode cX5_converse 132 = .ok (.lxor, 1) := by decide +kernel
theorem dX5_converse_133 : decode cX5_converse 133 = .ok (.land, 1) := by decide +kernel
theorem dX5_converse_134 : decode cX5_converse 134 = .ok (.lstore 6, 2) := by decide +kernel
theorem dX5_converse_136 : decode cX5_converse 136 = .ok (.aload_n 0, 1) := by decide +kernel
theorem dX5_converse_137 : decode cX5_converse 137 = .ok (.iconst 0, 1) := by decide +kernel
theorem dX5_converse_138 : decode cX5_converse 138 = .ok (.iload 14, 2) := by decide +kernel
theorem dX5_converse_140 : decode cX5_converse 140 = .ok (.invokevirtual 73, 3) := by decide +kernel
theorem dX5_converse_143 : decode cX5_converse 143 = .ok (.ifCond .eq 13, 3) := by decide +kernel
theorem dX5_converse_146 : decode cX5_converse 146 = .ok (.lload 12, 2) := by decide +kernel
theorem dX5_converse_148 : decode cX5_converse 148 = .ok (.lconst 1, 1) := by decide +kernel
theorem dX5_converse_149 : decode cX5_converse 149 = .ok (.iload 14, 2) := by decide +kernel
theorem dX5_converse_151 : decode cX5_converse 151 = .ok (.lshl, 1) := by decide +kernel
theorem dX5_converse_152 : decode cX5_converse 152 = .ok (.lor, 1) := by decide +kernel
theorem dX5_converse_153 : decode cX5_converse 153 = .ok (.goto 5, 3) := by decide +kernel
theorem dX5_converse_156 : decode cX5_converse 156 = .ok (.lload 12, 2) := by decide +kernel
theorem dX5_converse_158 : decode cX5_converse 158 = .ok (.lstore 12, 2) := by decide +kernel
theorem dX5_converse_160 : decode cX5_converse 160 = .ok (.iinc 14 (-1), 3) := by decide +kernel
theorem dX5_converse_163 : decode cX5_converse 163 = .ok (.goto (-66), 3) := by decide +kernel
theorem dX5_converse_166 : decode cX5_converse 166 = .ok (.aload_n 0, 1) := by decide +kernel
theorem dX5_converse_167 : decode cX5_converse 167 = .ok (.dup, 1) := by decide +kernel
theorem dX5_converse_168 : decode cX5_converse 168 = .ok (.getfield 124, 3) := by decide +kernel
theorem dX5_converse_171 : decode cX5_converse 171 = .ok (.iconst 1, 1) := by decide +kernel
theorem dX5_converse_172 : decode cX5_converse 172 = .ok (.iadd, 1) := by decide +kernel
theorem dX5_converse_173 : decode cX5_converse 173 = .ok (.putfield 124, 3) := by decide +kernel
theorem dX5_converse_176 : decode cX5_converse 176 = .ok (.aload_n 0, 1) := by decide +kernel
theorem dX5_converse_177 : decode cX5_converse 177 = .ok (.aload_n 0, 1) := by decide +kernel
theorem dX5_converse_178 : decode cX5_converse 178 = .ok (.getfield 127, 3) := by decide +kernel
theorem dX5_converse_181 : decode cX5_converse 181 = .ok (.iload 11, 2) := by decide +kernel
theorem dX5_converse_183 : decode cX5_converse 183 = .ok (.iadd, 1) := by decide +kernel
theorem dX5_converse_184 : decode cX5_converse 184 = .ok (.putfield 127, 3) := by decide +kernel
theorem dX5_converse_187 : decode cX5_converse 187 = .ok (.aload_n 0, 1) := by decide +kernel
theorem dX5_converse_188 : decode cX5_converse 188 = .ok (.aload_n 0, 1) := by decide +kernel
theorem dX5_converse_189 : decode cX5_converse 189 = .ok (.getfield 130, 3) := by decide +kernel
theorem dX5_converse_192 : decode cX5_converse 192 = .ok (.lload 12, 2) := by decide +kernel
theorem dX5_converse_194 : decode cX5_converse 194 = .ok (.invokestatic 133, 3) := by decide +kernel
theorem dX5_converse_197 : decode cX5_converse 197 = .ok (.iadd, 1) := by decide +kernel
theorem dX5_converse_198 : decode cX5_converse 198 = .ok (.putfield 130, 3) := by decide +kernel
theorem dX5_converse_201 : decode cX5_converse 201 = .ok (.lload 4, 2) := by decide +kernel
theorem dX5_converse_203 : decode cX5_converse 203 = .ok (.lload 12, 2) := by decide +kernel
theorem dX5_converse_205 : decode cX5_converse 205 = .ok (.lor, 1) := by decide +kernel
theorem dX5_converse_206 : decode cX5_converse 206 = .ok (.lstore 4, 2) := by decide +kernel
theorem dX5_converse_208 : decode cX5_converse 208 = .ok (.aload_n 0, 1) := by decide +kernel
theorem dX5_converse_209 : decode cX5_converse 209 = .ok (.lload_n 2, 1) := by decide +kernel
theorem dX5_converse_210 : decode cX5_converse 210 = .ok (.lload 4, 2) := by decide +kernel
theorem dX5_converse_212 : decode cX5_converse 212 = .ok (.invokevirtual 137, 3) := by decide +kernel
theorem dX5_converse_215 : decode cX5_converse 215 = .ok (.ifCond .eq 6, 3) := by decide +kernel
theorem dX5_converse_218 : decode cX5_converse 218 = .ok (.lload 4, 2) := by decide +kernel
theorem dX5_converse_220 : decode cX5_converse 220 = .ok (.lreturn, 1) := by decide +kernel
theorem dX5_converse_221 : decode cX5_converse 221 = .ok (.lload 6, 2) := by decide +kernel
theorem dX5_converse_223 : decode cX5_converse 223 = .ok (.aload_n 0, 1) := by decide +kernel
theorem dX5_converse_224 : decode cX5_converse 224 = .ok (.lload 4, 2) := by decide +kernel
theorem dX5_converse_226 : decode cX5_converse 226 = .ok (.invokevirtual 114, 3) := by decide +kernel
theorem dX5_converse_229 : decode cX5_converse 229 = .ok (.ldc2_w 122, 3) := by decide +kernel
theorem dX5_converse_232 : decode cX5_converse 232 = .ok (.lxor, 1) := by decide +kernel
theorem dX5_converse_233 : decode cX5_converse 233 = .ok (.land, 1) := by decide +kernel
theorem dX5_converse_234 : decode cX5_converse 234 = .ok (.lstore 6, 2) := by decide +kernel
theorem dX5_converse_236 : decode cX5_converse 236 = .ok (.iinc 10 1, 3) := by decide +kernel
theorem dX5_converse_239 : decode cX5_converse 239 = .ok (.goto (-170), 3) := by decide +kernel
theorem dX5_converse_242 : decode cX5_converse 242 = .ok (.lload 4, 2) := by decide +kernel
theorem dX5_converse_244 : decode cX5_converse 244 = .ok (.lreturn, 1) := by decide +kernel
theorem dX5_fetch_0 : decode cX5_fetch 0 = .ok (.iload_n 1, 1) := by decide +kernel
theorem dX5_fetch_1 : decode cX5_fetch 1 = .ok (.iconst 1, 1) := by decide +kernel
theorem dX5_fetch_2 : decode cX5_fetch 2 = .ok (.if_icmp .lt 19, 3) := by decide +kernel
theorem dX5_fetch_5 : decode cX5_fetch 5 = .ok (.iload_n 1, 1) := by decide +kernel
theorem dX5_fetch_6 : decode cX5_fetch 6 = .ok (.iconst 2, 1) := by decide +kernel
theorem dX5_fetch_7 : decode cX5_fetch 7 = .ok (.if_icmp .gt 14, 3) := by decide +kernel
theorem dX5_fetch_10 : decode cX5_fetch 10 = .ok (.iload_n 2, 1) := by decide +kernel
theorem dX5_fetch_11 : decode cX5_fetch 11 = .ok (.iconst 1, 1) := by decide +kernel
theorem dX5_fetch_12 : decode cX5_fetch 12 = .ok (.if_icmp .lt 9, 3) := by decide +kernel
theorem dX5_fetch_15 : decode cX5_fetch 15 = .ok (.iload_n 2, 1) := by decide +kernel
theorem dX5_fetch_16 : decode cX5_fetch 16 = .ok (.bipush 15, 2) := by decide +kernel
theorem dX5_fetch_18 : decode cX5_fetch 18 = .ok (.if_icmp .le 5, 3) := by decide +kernel
theorem dX5_fetch_21 : decode cX5_fetch 21 = .ok (.iconst (-1), 1) := by decide +kernel
theorem dX5_fetch_22 : decode cX5_fetch 22 = .ok (.ireturn, 1) := by decide +kernel
theorem dX5_fetch_23 : decode cX5_fetch 23 = .ok (.aload_n 0, 1) := by decide +kernel
theorem dX5_fetch_24 : decode cX5_fetch 24 = .ok (.getfield 29, 3) := by decide +kernel
theorem dX5_fetch_27 : decode cX5_fetch 27 = .ok (.iload_n 1, 1) := by decide +kernel
theorem dX5_fetch_28 : decode cX5_fetch 28 = .ok (.baload, 1) := by decide +kernel
theorem dX5_fetch_29 : decode cX5_fetch 29 = .ok (.ifCond .ne 12, 3) := by decide +kernel
theorem dX5_fetch_32 : decode cX5_fetch 32 = .ok (.aload_n 0, 1) := by decide +kernel
theorem dX5_fetch_33 : decode cX5_fetch 33 = .ok (.getfield 29, 3) := by decide +kernel
theorem dX5_fetch_36 : decode cX5_fetch 36 = .ok (.iconst 0, 1) := by decide +kernel
theorem dX5_fetch_37 : decode cX5_fetch 37 = .ok (.baload, 1) := by decide +kernel
theorem dX5_fetch_38 : decode cX5_fetch 38 = .ok (.ifCond .eq 6, 3) := by decide +kernel
theorem dX5_fetch_41 : decode cX5_fetch 41 = .ok (.bipush (-2), 2) := by decide +kernel
theorem dX5_fetch_43 : decode cX5_fetch 43 = .ok (.ireturn, 1) := by decide +kernel
theorem dX5_fetch_44 : decode cX5_fetch 44 = .ok (.lconst 0, 1) := by decide +kernel
theorem dX5_fetch_45 : decode cX5_fetch 45 = .ok (.lstore_n 3, 1) := by decide +kernel
theorem dX5_fetch_46 : decode cX5_fetch 46 = .ok (.aload_n 0, 1) := by decide +kernel
theorem dX5_fetch_47 : decode cX5_fetch 47 = .ok (.iconst 0, 1) := by decide +kernel
theorem dX5_fetch_48 : decode cX5_fetch 48 = .ok (.putfield 81, 3) := by decide +kernel
theorem dX5_fetch_51 : decode cX5_fetch 51 = .ok (.iconst 0, 1) := by decide +kernel
theorem dX5_fetch_52 : decode cX5_fetch 52 = .ok (.istore 5, 2) := by decide +kernel
theorem dX5_fetch_54 : decode cX5_fetch 54 = .ok (.iload 5, 2) := by decide +kernel
theorem dX5_fetch_56 : decode cX5_fetch 56 = .ok (.iconst 4, 1) := by decide +kernel
theorem dX5_fetch_57 : decode cX5_fetch 57 = .ok (.if_icmp .ge 79, 3) := by decide +kernel
theorem dX5_fetch_60 : decode cX5_fetch 60 = .ok (.iload_n 2, 1) := by decide +kernel
theorem dX5_fetch_61 : decode cX5_fetch 61 = .ok (.iload 5, 2) := by decide +kernel
theorem dX5_fetch_63 : decode cX5_fetch 63 = .ok (.ishr, 1) := by decide +kernel
theorem dX5_fetch_64 : decode cX5_fetch 64 = .ok (.iconst 1, 1) := by decide +kernel
theorem dX5_fetch_65 : decode cX5_fetch 65 = .ok (.iand, 1) := by decide +kernel
theorem dX5_fetch_66 : decode cX5_fetch 66 = .ok (.iconst 1, 1) := by decide +kernel
theorem dX5_fetch_67 : decode cX5_fetch 67 = .ok (.if_icmp .ne 63, 3) := by decide +kernel
theorem dX5_fetch_70 : decode cX5_fetch 70 = .ok (.aload_n 0, 1) := by decide +kernel
theorem dX5_fetch_71 : decode cX5_fetch 71 = .ok (.getfield 26, 3) := by decide +kernel
theorem dX5_fetch_74 : decode cX5_fetch 74 = .ok (.iload 5, 2) := by decide +kernel
theorem dX5_fetch_76 : decode cX5_fetch 76 = .ok (.iaload, 1) := by decide +kernel
theorem dX5_fetch_77 : decode cX5_fetch 77 = .ok (.ifCond .le 53, 3) := by decide +kernel
theorem dX5_fetch_80 : decode cX5_fetch 80 = .ok (.aload_n 0, 1) := by decide +kernel
theorem dX5_fetch_81 : decode cX5_fetch 81 = .ok (.iconst 4, 1) := by decide +kernel
theorem dX5_fetch_82 : decode cX5_fetch 82 = .ok (.iload 5, 2) := by decide +kernel
theorem dX5_fetch_84 : decode cX5_fetch 84 = .ok (.iadd, 1) := by decide +kernel
theorem dX5_fetch_85 : decode cX5_fetch 85 = .ok (.aload_n 0, 1) := by decide +kernel
theorem dX5_fetch_86 : decode cX5_fetch 86 = .ok (.getfield 26, 3) := by decide +kernel
theorem dX5_fetch_89 : decode cX5_fetch 89 = .ok (.iload 5, 2) := by decide +kernel
theorem dX5_fetch_91 : decode cX5_fetch 91 = .ok (.iaload, 1) := by decide +kernel
theorem dX5_fetch_92 : decode cX5_fetch 92 = .ok (.invokevirtual 100, 3) := by decide +kernel
theorem dX5_fetch_95 : decode cX5_fetch 95 = .ok (.aload_n 0, 1) := by decide +kernel
theorem dX5_fetch_96 : decode cX5_fetch 96 = .ok (.iload_n 1, 1) := by decide +kernel
theorem dX5_fetch_97 : decode cX5_fetch 97 = .ok (.aload_n 0, 1) := by decide +kernel
theorem dX5_fetch_98 : decode cX5_fetch 98 = .ok (.getfield 26, 3) := by decide +kernel
theorem dX5_fetch_101 : decode cX5_fetch 101 = .ok (.iload 5, 2) := by decide +kernel
theorem dX5_fetch_103 : decode cX5_fetch 103 = .ok (.iaload, 1) := by decide +kernel
theorem dX5_fetch_104 : decode cX5_fetch 104 = .ok (.iconst 1, 1) := by decide +kernel
theorem dX5_fetch_105 : decode cX5_fetch 105 = .ok (.isub, 1) := by decide +kernel
theorem dX5_fetch_106 : decode cX5_fetch 106 = .ok (.invokevirtual 73, 3) := by decide +kernel
theorem dX5_fetch_109 : decode cX5_fetch 109 = .ok (.ifCond .eq 7, 3) := by decide +kernel
theorem dX5_fetch_112 : decode cX5_fetch 112 = .ok (.lload_n 3, 1) := by decide +kernel
theorem dX5_fetch_113 : decode cX5_fetch 113 = .ok (.goto 16, 3) := by decide +kernel
theorem dX5_fetch_116 : decode cX5_fetch 116 = .ok (.lload_n 3, 1) := by decide +kernel
theorem dX5_fetch_117 : decode cX5_fetch 117 = .ok (.lconst 1, 1) := by decide +kernel
theorem dX5_fetch_118 : decode cX5_fetch 118 = .ok (.aload_n 0, 1) := by decide +kernel
theorem dX5_fetch_119 : decode cX5_fetch 119 = .ok (.getfield 26, 3) := by decide +kernel
theorem dX5_fetch_122 : decode cX5_fetch 122 = .ok (.iload 5, 2) := by decide +kernel
theorem dX5_fetch_124 : decode cX5_fetch 124 = .ok (.iaload, 1) := by decide +kernel
theorem dX5_fetch_125 : decode cX5_fetch 125 = .ok (.iconst 1, 1) := by decide +kernel
theorem dX5_fetch_126 : decode cX5_fetch 126 = .ok (.isub, 1) := by decide +kernel
theorem dX5_fetch_127 : decode cX5_fetch 127 = .ok (.lshl, 1) := by decide +kernel
theorem dX5_fetch_128 : decode cX5_fetch 128 = .ok (.lor, 1) := by decide +kernel
theorem dX5_fetch_129 : decode cX5_fetch 129 = .ok (.lstore_n 3, 1) := by decide +kernel
theorem dX5_fetch_130 : decode cX5_fetch 130 = .ok (.iinc 5 1, 3) := by decide +kernel
theorem dX5_fetch_133 : decode cX5_fetch 133 = .ok (.goto (-79), 3) := by decide +kernel
theorem dX5_fetch_136 : decode cX5_fetch 136 = .ok (.aload_n 0, 1) := by decide +kernel
theorem dX5_fetch_137 : decode cX5_fetch 137 = .ok (.iconst 0, 1) := by decide +kernel
theorem dX5_fetch_138 : decode cX5_fetch 138 = .ok (.putfield 127, 3) := by decide +kernel
theorem dX5_fetch_141 : decode cX5_fetch 141 = .ok (.aload_n 0, 1) := by decide +kernel
theorem dX5_fetch_142 : decode cX5_fetch 142 = .ok (.iconst 0, 1) := by decide +kernel
theorem dX5_fetch_143 : decode cX5_fetch 143 = .ok (.putfield 130, 3) := by decide +kernel
theorem dX5_fetch_146 : decode cX5_fetch 146 = .ok (.aload_n 0, 1) := by decide +kernel
theorem dX5_fetch_147 : decode cX5_fetch 147 = .ok (.iconst 0, 1) := by decide +kernel
theorem dX5_fetch_148 : decode cX5_fetch 148 = .ok (.putfield 124, 3) := by decide +kernel
theorem dX5_fetch_151 : decode cX5_fetch 151 = .ok (.lload_n 3, 1) := by decide +kernel
theorem dX5_fetch_152 : decode cX5_fetch 152 = .ok (.lconst 0, 1) := by decide +kernel
theorem dX5_fetch_153 : decode cX5_fetch 153 = .ok (.lcmp, 1) := by decide +kernel
theorem dX5_fetch_154 : decode cX5_fetch 154 = .ok (.ifCond .ne 7, 3) := by decide +kernel
theorem dX5_fetch_157 : decode cX5_fetch 157 = .ok (.lconst 0, 1) := by decide +kernel
theorem dX5_fetch_158 : decode cX5_fetch 158 = .ok (.goto 9, 3) := by decide +kernel
theorem dX5_fetch_161 : decode cX5_fetch 161 = .ok (.aload_n 0, 1) := by decide +kernel
theorem dX5_fetch_162 : decode cX5_fetch 162 = .ok (.iload_n 1, 1) := by decide +kernel
theorem dX5_fetch_163 : decode cX5_fetch 163 = .ok (.lload_n 3, 1) := by decide +kernel
theorem dX5_fetch_164 : decode cX5_fetch 164 = .ok (.invokevirtual 141, 3) := by decide +kernel
theorem dX5_fetch_167 : decode cX5_fetch 167 = .ok (.lstore 5, 2) := by decide +kernel
theorem dX5_fetch_169 : decode cX5_fetch 169 = .ok (.aload_n 0, 1) := by decide +kernel
theorem dX5_fetch_170 : decode cX5_fetch 170 = .ok (.lload_n 3, 1) := by decide +kernel
theorem dX5_fetch_171 : decode cX5_fetch 171 = .ok (.invokevirtual 114, 3) := by decide +kernel
theorem dX5_fetch_174 : decode cX5_fetch 174 = .ok (.aload_n 0, 1) := by decide +kernel
theorem dX5_fetch_175 : decode cX5_fetch 175 = .ok (.lload 5, 2) := by decide +kernel
theorem dX5_fetch_177 : decode cX5_fetch 177 = .ok (.invokevirtual 114, 3) := by decide +kernel
theorem dX5_fetch_180 : decode cX5_fetch 180 = .ok (.ldc2_w 122, 3) := by decide +kernel
theorem dX5_fetch_183 : decode cX5_fetch 183 = .ok (.lxor, 1) := by decide +kernel
theorem dX5_fetch_184 : decode cX5_fetch 184 = .ok (.land, 1) := by decide +kernel
theorem dX5_fetch_185 : decode cX5_fetch 185 = .ok (.lstore 7, 2) := by decide +kernel
theorem dX5_fetch_187 : decode cX5_fetch 187 = .ok (.aload_n 0, 1) := by decide +kernel
theorem dX5_fetch_188 : decode cX5_fetch 188 = .ok (.lload 7, 2) := by decide +kernel
theorem dX5_fetch_190 : decode cX5_fetch 190 = .ok (.invokevirtual 145, 3) := by decide +kernel
theorem dX5_fetch_193 : decode cX5_fetch 193 = .ok (.aload_n 0, 1) := by decide +kernel
theorem dX5_fetch_194 : decode cX5_fetch 194 = .ok (.iload_n 1, 1) := by decide +kernel
theorem dX5_fetch_195 : decode cX5_fetch 195 = .ok (.lload 7, 2) := by decide +kernel
theorem dX5_fetch_197 : decode cX5_fetch 197 = .ok (.invokevirtual 149, 3) := by decide +kernel
theorem dX5_fetch_200 : decode cX5_fetch 200 = .ok (.ifCond .eq 18, 3) := by decide +kernel
theorem dX5_fetch_203 : decode cX5_fetch 203 = .ok (.aload_n 0, 1) := by decide +kernel
theorem dX5_fetch_204 : decode cX5_fetch 204 = .ok (.iload_n 1, 1) := by decide +kernel
theorem dX5_fetch_205 : decode cX5_fetch 205 = .ok (.invokevirtual 104, 3) := by decide +kernel
theorem dX5_fetch_208 : decode cX5_fetch 208 = .ok (.ifCond .eq 10, 3) := by decide +kernel
theorem dX5_fetch_211 : decode cX5_fetch 211 = .ok (.aload_n 0, 1) := by decide +kernel
theorem dX5_fetch_212 : decode cX5_fetch 212 = .ok (.getfield 107, 3) := by decide +kernel
theorem dX5_fetch_215 : decode cX5_fetch 215 = .ok (.goto 5, 3) := by decide +kernel
theorem dX5_fetch_218 : decode cX5_fetch 218 = .ok (.bipush (-2), 2) := by decide +kernel
theorem dX5_fetch_220 : decode cX5_fetch 220 = .ok (.ireturn, 1) := by decide +kernel
theorem dX5_judge_0 : decode cX5_judge 0 = .ok (.aload_n 0, 1) := by decide +kernel
theorem dX5_judge_1 : decode cX5_judge 1 = .ok (.getfield 26, 3) := by decide +kernel
theorem dX5_judge_4 : decode cX5_judge 4 = .ok (.iload_n 1, 1) := by decide +kernel
theorem dX5_judge_5 : decode cX5_judge 5 = .ok (.iaload, 1) := by decide +kernel
theorem dX5_judge_6 : decode cX5_judge 6 = .ok (.iload_n 2, 1) := by decide +kernel
theorem dX5_judge_7 : decode cX5_judge 7 = .ok (.if_icmp .eq 5, 3) := by decide +kernel
theorem dX5_judge_10 : decode cX5_judge 10 = .ok (.iconst 2, 1) := by decide +kernel
theorem dX5_judge_11 : decode cX5_judge 11 = .ok (.ireturn, 1) := by decide +kernel
theorem dX5_judge_12 : decode cX5_judge 12 = .ok (.iload_n 2, 1) := by decide +kernel
theorem dX5_judge_13 : decode cX5_judge 13 = .ok (.ifCond .le 27, 3) := by decide +kernel
theorem dX5_judge_16 : decode cX5_judge 16 = .ok (.aload_n 0, 1) := by decide +kernel
theorem dX5_judge_17 : decode cX5_judge 17 = .ok (.lconst 1, 1) := by decide +kernel
theorem dX5_judge_18 : decode cX5_judge 18 = .ok (.iload_n 3, 1) := by decide +kernel
theorem dX5_judge_19 : decode cX5_judge 19 = .ok (.iconst 1, 1) := by decide +kernel
theorem dX5_judge_20 : decode cX5_judge 20 = .ok (.isub, 1) := by decide +kernel
theorem dX5_judge_21 : decode cX5_judge 21 = .ok (.lshl, 1) := by decide +kernel
theorem dX5_judge_22 : decode cX5_judge 22 = .ok (.invokevirtual 114, 3) := by decide +kernel
theorem dX5_judge_25 : decode cX5_judge 25 = .ok (.iload_n 2, 1) := by decide +kernel
theorem dX5_judge_26 : decode cX5_judge 26 = .ok (.iconst 1, 1) := by decide +kernel
theorem dX5_judge_27 : decode cX5_judge 27 = .ok (.isub, 1) := by decide +kernel
theorem dX5_judge_28 : decode cX5_judge 28 = .ok (.lshr, 1) := by decide +kernel
theorem dX5_judge_29 : decode cX5_judge 29 = .ok (.lconst 1, 1) := by decide +kernel
theorem dX5_judge_30 : decode cX5_judge 30 = .ok (.land, 1) := by decide +kernel
theorem dX5_judge_31 : decode cX5_judge 31 = .ok (.lconst 0, 1) := by decide +kernel
theorem dX5_judge_32 : decode cX5_judge 32 = .ok (.lcmp, 1) := by decide +kernel
theorem dX5_judge_33 : decode cX5_judge 33 = .ok (.ifCond .ne 7, 3) := by decide +kernel
theorem dX5_judge_36 : decode cX5_judge 36 = .ok (.iconst 3, 1) := by decide +kernel
theorem dX5_judge_37 : decode cX5_judge 37 = .ok (.goto 4, 3) := by decide +kernel
theorem dX5_judge_40 : decode cX5_judge 40 = .ok (.iconst 1, 1) := by decide +kernel
theorem dX5_judge_41 : decode cX5_judge 41 = .ok (.ireturn, 1) := by decide +kernel
theorem dX5_carry_0 : decode cX5_carry 0 = .ok (.lconst 0, 1) := by decide +kernel
theorem dX5_carry_1 : decode cX5_carry 1 = .ok (.lstore_n 3, 1) := by decide +kernel
theorem dX5_carry_2 : decode cX5_carry 2 = .ok (.iconst 0, 1) := by decide +kernel
theorem dX5_carry_3 : decode cX5_carry 3 = .ok (.istore 5, 2) := by decide +kernel
theorem dX5_carry_5 : decode cX5_carry 5 = .ok (.iload 5, 2) := by decide +kernel
theorem dX5_carry_7 : decode cX5_carry 7 = .ok (.iconst 4, 1) := by decide +kernel
theorem dX5_carry_8 : decode cX5_carry 8 = .ok (.if_icmp .ge 42, 3) := by decide +kernel
theorem dX5_carry_11 : decode cX5_carry 11 = .ok (.iload_n 2, 1) := by decide +kernel
theorem dX5_carry_12 : decode cX5_carry 12 = .ok (.iload 5, 2) := by decide +kernel
theorem dX5_carry_14 : decode cX5_carry 14 = .ok (.ishr, 1) := by decide +kernel
theorem dX5_carry_15 : decode cX5_carry 15 = .ok (.iconst 1, 1) := by decide +kernel
theorem dX5_carry_16 : decode cX5_carry 16 = .ok (.iand, 1) := by decide +kernel
theorem dX5_carry_17 : decode cX5_carry 17 = .ok (.iconst 1, 1) := by decide +kernel
theorem dX5_carry_18 : decode cX5_carry 18 = .ok (.if_icmp .ne 24, 3) := by decide +kernel
theorem dX5_carry_21 : decode cX5_carry 21 = .ok (.lload_n 3, 1) := by decide +kernel
theorem dX5_carry_22 : decode cX5_carry 22 = .ok (.lconst 1, 1) := by decide +kernel
theorem dX5_carry_23 : decode cX5_carry 23 = .ok (.aload_n 0, 1) := by decide +kernel
theorem dX5_carry_24 : decode cX5_carry 24 = .ok (.getfield 26, 3) := by decide +kernel
theorem dX5_carry_27 : decode cX5_carry 27 = .ok (.bipush 8, 2) := by decide +kernel
theorem dX5_carry_29 : decode cX5_carry 29 = .ok (.iload_n 1, 1) := by decide +kernel
theorem dX5_carry_30 : decode cX5_carry 30 = .ok (.imul, 1) := by decide +kernel
theorem dX5_carry_31 : decode cX5_carry 31 = .ok (.iload 5, 2) := by decide +kernel
theorem dX5_carry_33 : decode cX5_carry 33 = .ok (.iadd, 1) := by decide +kernel
theorem dX5_carry_34 : decode cX5_carry 34 = .ok (.iaload, 1) := by decide +kernel
theorem dX5_carry_35 : decode cX5_carry 35 = .ok (.iconst 1, 1) := by decide +kernel
theorem dX5_carry_36 : decode cX5_carry 36 = .ok (.isub, 1) := by decide +kernel
theorem dX5_carry_37 : decode cX5_carry 37 = .ok (.lshl, 1) := by decide +kernel
theorem dX5_carry_38 : decode cX5_carry 38 = .ok (.lor, 1) := by decide +kernel
theorem dX5_carry_39 : decode cX5_carry 39 = .ok (.goto 4, 3) := by decide +kernel
theorem dX5_carry_42 : decode cX5_carry 42 = .ok (.lload_n 3, 1) := by decide +kernel
theorem dX5_carry_43 : decode cX5_carry 43 = .ok (.lstore_n 3, 1) := by decide +kernel
theorem dX5_carry_44 : decode cX5_carry 44 = .ok (.iinc 5 1, 3) := by decide +kernel
theorem dX5_carry_47 : decode cX5_carry 47 = .ok (.goto (-42), 3) := by decide +kernel
theorem dX5_carry_50 : decode cX5_carry 50 = .ok (.aload_n 0, 1) := by decide +kernel
theorem dX5_carry_51 : decode cX5_carry 51 = .ok (.iconst 0, 1) := by decide +kernel
theorem dX5_carry_52 : decode cX5_carry 52 = .ok (.iconst 0, 1) := by decide +kernel
theorem dX5_carry_53 : decode cX5_carry 53 = .ok (.iconst 3, 1) := by decide +kernel
theorem dX5_carry_54 : decode cX5_carry 54 = .ok (.invokevirtual 118, 3) := by decide +kernel
theorem dX5_carry_57 : decode cX5_carry 57 = .ok (.aload_n 0, 1) := by decide +kernel
theorem dX5_carry_58 : decode cX5_carry 58 = .ok (.getfield 22, 3) := by decide +kernel
theorem dX5_carry_61 : decode cX5_carry 61 = .ok (.iload_n 1, 1) := by decide +kernel
theorem dX5_carry_62 : decode cX5_carry 62 = .ok (.laload, 1) := by decide +kernel
theorem dX5_carry_63 : decode cX5_carry 63 = .ok (.land, 1) := by decide +kernel
theorem dX5_carry_64 : decode cX5_carry 64 = .ok (.lstore 5, 2) := by decide +kernel
theorem dX5_carry_66 : decode cX5_carry 66 = .ok (.aload_n 0, 1) := by decide +kernel
theorem dX5_carry_67 : decode cX5_carry 67 = .ok (.lload_n 3, 1) := by decide +kernel
theorem dX5_carry_68 : decode cX5_carry 68 = .ok (.invokevirtual 114, 3) := by decide +kernel
theorem dX5_carry_71 : decode cX5_carry 71 = .ok (.aload_n 0, 1) := by decide +kernel
theorem dX5_carry_72 : decode cX5_carry 72 = .ok (.lload 5, 2) := by decide +kernel
theorem dX5_carry_74 : decode cX5_carry 74 = .ok (.invokevirtual 114, 3) := by decide +kernel
theorem dX5_carry_77 : decode cX5_carry 77 = .ok (.ldc2_w 122, 3) := by decide +kernel
theorem dX5_carry_80 : decode cX5_carry 80 = .ok (.lxor, 1) := by decide +kernel
theorem dX5_carry_81 : decode cX5_carry 81 = .ok (.land, 1) := by decide +kernel
theorem dX5_carry_82 : decode cX5_carry 82 = .ok (.lstore 7, 2) := by decide +kernel
theorem dX5_carry_84 : decode cX5_carry 84 = .ok (.aload_n 0, 1) := by decide +kernel
theorem dX5_carry_85 : decode cX5_carry 85 = .ok (.lload 7, 2) := by decide +kernel
theorem dX5_carry_87 : decode cX5_carry 87 = .ok (.invokevirtual 145, 3) := by decide +kernel
theorem dX5_carry_90 : decode cX5_carry 90 = .ok (.iconst 0, 1) := by decide +kernel
theorem dX5_carry_91 : decode cX5_carry 91 = .ok (.istore 9, 2) := by decide +kernel
theorem dX5_carry_93 : decode cX5_carry 93 = .ok (.iload 9, 2) := by decide +kernel
theorem dX5_carry_95 : decode cX5_carry 95 = .ok (.iconst 2, 1) := by decide +kernel
theorem dX5_carry_96 : decode cX5_carry 96 = .ok (.if_icmp .ge 107, 3) := by decide +kernel
theorem dX5_carry_99 : decode cX5_carry 99 = .ok (.iload 9, 2) := by decide +kernel
theorem dX5_carry_101 : decode cX5_carry 101 = .ok (.ifCond .ne 7, 3) := by decide +kernel
theorem dX5_carry_104 : decode cX5_carry 104 = .ok (.iconst 0, 1) := by decide +kernel
theorem dX5_carry_105 : decode cX5_carry 105 = .ok (.goto 4, 3) := by decide +kernel
theorem dX5_carry_108 : decode cX5_carry 108 = .ok (.iload_n 1, 1) := by decide +kernel
theorem dX5_carry_109 : decode cX5_carry 109 = .ok (.istore 10, 2) := by decide +kernel
theorem dX5_carry_111 : decode cX5_carry 111 = .ok (.aload_n 0, 1) := by decide +kernel
theorem dX5_carry_112 : decode cX5_carry 112 = .ok (.iconst 0, 1) := by decide +kernel
theorem dX5_carry_113 : decode cX5_carry 113 = .ok (.putfield 81, 3) := by decide +kernel
theorem dX5_carry_116 : decode cX5_carry 116 = .ok (.iconst 0, 1) := by decide +kernel
theorem dX5_carry_117 : decode cX5_carry 117 = .ok (.istore 11, 2) := by decide +kernel
theorem dX5_carry_119 : decode cX5_carry 119 = .ok (.iload 11, 2) := by decide +kernel
theorem dX5_carry_121 : decode cX5_carry 121 = .ok (.iconst 4, 1) := by decide +kernel
theorem dX5_carry_122 : decode cX5_carry 122 = .ok (.if_icmp .ge 49, 3) := by decide +kernel
theorem dX5_carry_125 : decode cX5_carry 125 = .ok (.iload_n 2, 1) := by decide +kernel
theorem dX5_carry_126 : decode cX5_carry 126 = .ok (.iload 11, 2) := by decide +kernel
theorem dX5_carry_128 : decode cX5_carry 128 = .ok (.ishr, 1) := by decide +kernel
theorem dX5_carry_129 : decode cX5_carry 129 = .ok (.iconst 1, 1) := by decide +kernel
theorem dX5_carry_130 : decode cX5_carry 130 = .ok (.iand, 1) := by decide +kernel
theorem dX5_carry_131 : decode cX5_carry 131 = .ok (.iconst 1, 1) := by decide +kernel
theorem dX5_carry_132 : decode cX5_carry 132 = .ok (.if_icmp .ne 33, 3) := by decide +kernel
theorem dX5_carry_135 : decode cX5_carry 135 = .ok (.aload_n 0, 1) := by decide +kernel
theorem dX5_carry_136 : decode cX5_carry 136 = .ok (.iload 9, 2) := by decide +kernel
theorem dX5_carry_138 : decode cX5_carry 138 = .ok (.ifCond .ne 8, 3) := by decide +kernel
theorem dX5_carry_141 : decode cX5_carry 141 = .ok (.iload 11, 2) := by decide +kernel
theorem dX5_carry_143 : decode cX5_carry 143 = .ok (.goto 7, 3) := by decide +kernel
theorem dX5_carry_146 : decode cX5_carry 146 = .ok (.iconst 4, 1) := by decide +kernel
theorem dX5_carry_147 : decode cX5_carry 147 = .ok (.iload 11, 2) := by decide +kernel
theorem dX5_carry_149 : decode cX5_carry 149 = .ok (.iadd, 1) := by decide +kernel
theorem dX5_carry_150 : decode cX5_carry 150 = .ok (.aload_n 0, 1) := by decide +kernel
theorem dX5_carry_151 : decode cX5_carry 151 = .ok (.getfield 26, 3) := by decide +kernel
theorem dX5_carry_154 : decode cX5_carry 154 = .ok (.bipush 8, 2) := by decide +kernel
theorem dX5_carry_156 : decode cX5_carry 156 = .ok (.iload_n 1, 1) := by decide +kernel
theorem dX5_carry_157 : decode cX5_carry 157 = .ok (.imul, 1) := by decide +kernel
theorem dX5_carry_158 : decode cX5_carry 158 = .ok (.iload 11, 2) := by decide +kernel
theorem dX5_carry_160 : decode cX5_carry 160 = .ok (.iadd, 1) := by decide +kernel
theorem dX5_carry_161 : decode cX5_carry 161 = .ok (.iaload, 1) := by decide +kernel
theorem dX5_carry_162 : decode cX5_carry 162 = .ok (.invokevirtual 100, 3) := by decide +kernel
theorem dX5_carry_165 : decode cX5_carry 165 = .ok (.iinc 11 1, 3) := by decide +kernel
theorem dX5_carry_168 : decode cX5_carry 168 = .ok (.goto (-49), 3) := by decide +kernel
theorem dX5_carry_171 : decode cX5_carry 171 = .ok (.iload 9, 2) := by decide +kernel
theorem dX5_carry_173 : decode cX5_carry 173 = .ok (.ifCond .ne 13, 3) := by decide +kernel
theorem dX5_carry_176 : decode cX5_carry 176 = .ok (.aload_n 0, 1) := by decide +kernel
theorem dX5_carry_177 : decode cX5_carry 177 = .ok (.iconst 0, 1) := by decide +kernel
theorem dX5_carry_178 : decode cX5_carry 178 = .ok (.lload 7, 2) := by decide +kernel
theorem dX5_carry_180 : decode cX5_carry 180 = .ok (.invokevirtual 149, 3) := by decide +kernel
theorem dX5_carry_183 : decode cX5_carry 183 = .ok (.ifCond .eq 12, 3) := by decide +kernel
theorem dX5_carry_186 : decode cX5_carry 186 = .ok (.aload_n 0, 1) := by decide +kernel
theorem dX5_carry_187 : decode cX5_carry 187 = .ok (.iload 10, 2) := by decide +kernel
theorem dX5_carry_189 : decode cX5_carry 189 = .ok (.invokevirtual 104, 3) := by decide +kernel
theorem dX5_carry_192 : decode cX5_carry 192 = .ok (.ifCond .ne 5, 3) := by decide +kernel
theorem dX5_carry_195 : decode cX5_carry 195 = .ok (.iconst 0, 1) := by decide +kernel
theorem dX5_carry_196 : decode cX5_carry 196 = .ok (.ireturn, 1) := by decide +kernel
theorem dX5_carry_197 : decode cX5_carry 197 = .ok (.iinc 9 1, 3) := by decide +kernel
theorem dX5_carry_200 : decode cX5_carry 200 = .ok (.goto (-107), 3) := by decide +kernel
theorem dX5_carry_203 : decode cX5_carry 203 = .ok (.iconst 1, 1) := by decide +kernel
theorem dX5_carry_204 : decode cX5_carry 204 = .ok (.ireturn, 1) := by decide +kernel
theorem dX5_push_0 : decode cX5_push 0 = .ok (.iload_n 1, 1) := by decide +kernel
theorem dX5_push_1 : decode cX5_push 1 = .ok (.iconst 1, 1) := by decide +kernel
theorem dX5_push_2 : decode cX5_push 2 = .ok (.if_icmp .lt 19, 3) := by decide +kernel
theorem dX5_push_5 : decode cX5_push 5 = .ok (.iload_n 1, 1) := by decide +kernel
theorem dX5_push_6 : decode cX5_push 6 = .ok (.iconst 2, 1) := by decide +kernel
theorem dX5_push_7 : decode cX5_push 7 = .ok (.if_icmp .gt 14, 3) := by decide +kernel
theorem dX5_push_10 : decode cX5_push 10 = .ok (.iload_n 2, 1) := by decide +kernel
theorem dX5_push_11 : decode cX5_push 11 = .ok (.iconst 1, 1) := by decide +kernel
theorem dX5_push_12 : decode cX5_push 12 = .ok (.if_icmp .lt 9, 3) := by decide +kernel
theorem dX5_push_15 : decode cX5_push 15 = .ok (.iload_n 2, 1) := by decide +kernel
theorem dX5_push_16 : decode cX5_push 16 = .ok (.bipush 15, 2) := by decide +kernel
theorem dX5_push_18 : decode cX5_push 18 = .ok (.if_icmp .le 5, 3) := by decide +kernel
theorem dX5_push_21 : decode cX5_push 21 = .ok (.iconst (-1), 1) := by decide +kernel
theorem dX5_push_22 : decode cX5_push 22 = .ok (.ireturn, 1) := by decide +kernel
theorem dX5_push_23 : decode cX5_push 23 = .ok (.aload_n 0, 1) := by decide +kernel
theorem dX5_push_24 : decode cX5_push 24 = .ok (.getfield 29, 3) := by decide +kernel
theorem dX5_push_27 : decode cX5_push 27 = .ok (.iload_n 1, 1) := by decide +kernel
theorem dX5_push_28 : decode cX5_push 28 = .ok (.baload, 1) := by decide +kernel
theorem dX5_push_29 : decode cX5_push 29 = .ok (.ifCond .ne 12, 3) := by decide +kernel
theorem dX5_push_32 : decode cX5_push 32 = .ok (.aload_n 0, 1) := by decide +kernel
theorem dX5_push_33 : decode cX5_push 33 = .ok (.getfield 29, 3) := by decide +kernel
theorem dX5_push_36 : decode cX5_push 36 = .ok (.iconst 0, 1) := by decide +kernel
theorem dX5_push_37 : decode cX5_push 37 = .ok (.baload, 1) := by decide +kernel
