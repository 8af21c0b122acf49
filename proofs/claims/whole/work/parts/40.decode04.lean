theorem dX4_commit_126 : decode cX4_commit 126 = .ok (.iload 7, 2) := by decide +kernel
theorem dX4_commit_128 : decode cX4_commit 128 = .ok (.invokevirtual 74, 3) := by decide +kernel
theorem dX4_commit_131 : decode cX4_commit 131 = .ok (.aload 5, 2) := by decide +kernel
theorem dX4_commit_133 : decode cX4_commit 133 = .ok (.aload_n 0, 1) := by decide +kernel
theorem dX4_commit_134 : decode cX4_commit 134 = .ok (.getfield 41, 3) := by decide +kernel
theorem dX4_commit_137 : decode cX4_commit 137 = .ok (.invokevirtual 78, 3) := by decide +kernel
theorem dX4_commit_140 : decode cX4_commit 140 = .ok (.ifCond .eq 8, 3) := by decide +kernel
theorem dX4_commit_143 : decode cX4_commit 143 = .ok (.iload 7, 2) := by decide +kernel
theorem dX4_commit_145 : decode cX4_commit 145 = .ok (.goto 5, 3) := by decide +kernel
theorem dX4_commit_148 : decode cX4_commit 148 = .ok (.bipush (-2), 2) := by decide +kernel
theorem dX4_commit_150 : decode cX4_commit 150 = .ok (.ireturn, 1) := by decide +kernel
theorem dX4_point_0 : decode cX4_point 0 = .ok (.iload_n 1, 1) := by decide +kernel
theorem dX4_point_1 : decode cX4_point 1 = .ok (.invokestatic 44, 3) := by decide +kernel
theorem dX4_point_4 : decode cX4_point 4 = .ok (.ifCond .eq 10, 3) := by decide +kernel
theorem dX4_point_7 : decode cX4_point 7 = .ok (.iload_n 2, 1) := by decide +kernel
theorem dX4_point_8 : decode cX4_point 8 = .ok (.invokestatic 60, 3) := by decide +kernel
theorem dX4_point_11 : decode cX4_point 11 = .ok (.ifCond .ne 5, 3) := by decide +kernel
theorem dX4_point_14 : decode cX4_point 14 = .ok (.iconst (-1), 1) := by decide +kernel
theorem dX4_point_15 : decode cX4_point 15 = .ok (.ireturn, 1) := by decide +kernel
theorem dX4_point_16 : decode cX4_point 16 = .ok (.aload_n 0, 1) := by decide +kernel
theorem dX4_point_17 : decode cX4_point 17 = .ok (.getfield 18, 3) := by decide +kernel
theorem dX4_point_20 : decode cX4_point 20 = .ok (.iload_n 1, 1) := by decide +kernel
theorem dX4_point_21 : decode cX4_point 21 = .ok (.aaload, 1) := by decide +kernel
theorem dX4_point_22 : decode cX4_point 22 = .ok (.astore 4, 2) := by decide +kernel
theorem dX4_point_24 : decode cX4_point 24 = .ok (.aload 4, 2) := by decide +kernel
theorem dX4_point_26 : decode cX4_point 26 = .ok (.invokevirtual 48, 3) := by decide +kernel
theorem dX4_point_29 : decode cX4_point 29 = .ok (.ifCond .ne 6, 3) := by decide +kernel
theorem dX4_point_32 : decode cX4_point 32 = .ok (.bipush (-2), 2) := by decide +kernel
theorem dX4_point_34 : decode cX4_point 34 = .ok (.ireturn, 1) := by decide +kernel
theorem dX4_point_35 : decode cX4_point 35 = .ok (.aload_n 0, 1) := by decide +kernel
theorem dX4_point_36 : decode cX4_point 36 = .ok (.aload 4, 2) := by decide +kernel
theorem dX4_point_38 : decode cX4_point 38 = .ok (.iload_n 3, 1) := by decide +kernel
theorem dX4_point_39 : decode cX4_point 39 = .ok (.invokevirtual 71, 3) := by decide +kernel
theorem dX4_point_42 : decode cX4_point 42 = .ok (.ifCond .ne 5, 3) := by decide +kernel
theorem dX4_point_45 : decode cX4_point 45 = .ok (.iconst (-1), 1) := by decide +kernel
theorem dX4_point_46 : decode cX4_point 46 = .ok (.ireturn, 1) := by decide +kernel
theorem dX4_point_47 : decode cX4_point 47 = .ok (.aload 4, 2) := by decide +kernel
theorem dX4_point_49 : decode cX4_point 49 = .ok (.iload_n 2, 1) := by decide +kernel
theorem dX4_point_50 : decode cX4_point 50 = .ok (.invokevirtual 63, 3) := by decide +kernel
theorem dX4_point_53 : decode cX4_point 53 = .ok (.iload_n 3, 1) := by decide +kernel
theorem dX4_point_54 : decode cX4_point 54 = .ok (.if_icmp .ne 5, 3) := by decide +kernel
theorem dX4_point_57 : decode cX4_point 57 = .ok (.iconst 0, 1) := by decide +kernel
theorem dX4_point_58 : decode cX4_point 58 = .ok (.ireturn, 1) := by decide +kernel
theorem dX4_point_59 : decode cX4_point 59 = .ok (.aload_n 0, 1) := by decide +kernel
theorem dX4_point_60 : decode cX4_point 60 = .ok (.iload_n 2, 1) := by decide +kernel
theorem dX4_point_61 : decode cX4_point 61 = .ok (.iload_n 3, 1) := by decide +kernel
theorem dX4_point_62 : decode cX4_point 62 = .ok (.invokevirtual 74, 3) := by decide +kernel
theorem dX4_point_65 : decode cX4_point 65 = .ok (.aload 4, 2) := by decide +kernel
theorem dX4_point_67 : decode cX4_point 67 = .ok (.aload_n 0, 1) := by decide +kernel
theorem dX4_point_68 : decode cX4_point 68 = .ok (.getfield 41, 3) := by decide +kernel
theorem dX4_point_71 : decode cX4_point 71 = .ok (.invokevirtual 78, 3) := by decide +kernel
theorem dX4_point_74 : decode cX4_point 74 = .ok (.ifCond .eq 7, 3) := by decide +kernel
theorem dX4_point_77 : decode cX4_point 77 = .ok (.iconst 1, 1) := by decide +kernel
theorem dX4_point_78 : decode cX4_point 78 = .ok (.goto 5, 3) := by decide +kernel
theorem dX4_point_81 : decode cX4_point 81 = .ok (.bipush (-2), 2) := by decide +kernel
theorem dX4_point_83 : decode cX4_point 83 = .ok (.ireturn, 1) := by decide +kernel
theorem dX4_fetch_0 : decode cX4_fetch 0 = .ok (.iload_n 1, 1) := by decide +kernel
theorem dX4_fetch_1 : decode cX4_fetch 1 = .ok (.invokestatic 82, 3) := by decide +kernel
theorem dX4_fetch_4 : decode cX4_fetch 4 = .ok (.ifCond .eq 10, 3) := by decide +kernel
theorem dX4_fetch_7 : decode cX4_fetch 7 = .ok (.iload_n 2, 1) := by decide +kernel
theorem dX4_fetch_8 : decode cX4_fetch 8 = .ok (.invokestatic 85, 3) := by decide +kernel
theorem dX4_fetch_11 : decode cX4_fetch 11 = .ok (.ifCond .ne 5, 3) := by decide +kernel
theorem dX4_fetch_14 : decode cX4_fetch 14 = .ok (.iconst (-1), 1) := by decide +kernel
theorem dX4_fetch_15 : decode cX4_fetch 15 = .ok (.ireturn, 1) := by decide +kernel
theorem dX4_fetch_16 : decode cX4_fetch 16 = .ok (.aload_n 0, 1) := by decide +kernel
theorem dX4_fetch_17 : decode cX4_fetch 17 = .ok (.getfield 18, 3) := by decide +kernel
theorem dX4_fetch_20 : decode cX4_fetch 20 = .ok (.iconst 0, 1) := by decide +kernel
theorem dX4_fetch_21 : decode cX4_fetch 21 = .ok (.aaload, 1) := by decide +kernel
theorem dX4_fetch_22 : decode cX4_fetch 22 = .ok (.astore_n 3, 1) := by decide +kernel
theorem dX4_fetch_23 : decode cX4_fetch 23 = .ok (.aload_n 0, 1) := by decide +kernel
theorem dX4_fetch_24 : decode cX4_fetch 24 = .ok (.getfield 18, 3) := by decide +kernel
theorem dX4_fetch_27 : decode cX4_fetch 27 = .ok (.iload_n 1, 1) := by decide +kernel
theorem dX4_fetch_28 : decode cX4_fetch 28 = .ok (.aaload, 1) := by decide +kernel
theorem dX4_fetch_29 : decode cX4_fetch 29 = .ok (.astore 4, 2) := by decide +kernel
theorem dX4_fetch_31 : decode cX4_fetch 31 = .ok (.aload 4, 2) := by decide +kernel
theorem dX4_fetch_33 : decode cX4_fetch 33 = .ok (.invokevirtual 48, 3) := by decide +kernel
theorem dX4_fetch_36 : decode cX4_fetch 36 = .ok (.ifCond .eq 10, 3) := by decide +kernel
theorem dX4_fetch_39 : decode cX4_fetch 39 = .ok (.aload_n 3, 1) := by decide +kernel
theorem dX4_fetch_40 : decode cX4_fetch 40 = .ok (.invokevirtual 48, 3) := by decide +kernel
theorem dX4_fetch_43 : decode cX4_fetch 43 = .ok (.ifCond .ne 6, 3) := by decide +kernel
theorem dX4_fetch_46 : decode cX4_fetch 46 = .ok (.bipush (-2), 2) := by decide +kernel
theorem dX4_fetch_48 : decode cX4_fetch 48 = .ok (.ireturn, 1) := by decide +kernel
theorem dX4_fetch_49 : decode cX4_fetch 49 = .ok (.aload_n 3, 1) := by decide +kernel
theorem dX4_fetch_50 : decode cX4_fetch 50 = .ok (.iload_n 2, 1) := by decide +kernel
theorem dX4_fetch_51 : decode cX4_fetch 51 = .ok (.invokevirtual 88, 3) := by decide +kernel
theorem dX4_fetch_54 : decode cX4_fetch 54 = .ok (.aload 4, 2) := by decide +kernel
theorem dX4_fetch_56 : decode cX4_fetch 56 = .ok (.invokevirtual 92, 3) := by decide +kernel
theorem dX4_fetch_59 : decode cX4_fetch 59 = .ok (.ldc2_w 96, 3) := by decide +kernel
theorem dX4_fetch_62 : decode cX4_fetch 62 = .ok (.lxor, 1) := by decide +kernel
theorem dX4_fetch_63 : decode cX4_fetch 63 = .ok (.land, 1) := by decide +kernel
theorem dX4_fetch_64 : decode cX4_fetch 64 = .ok (.lstore 5, 2) := by decide +kernel
theorem dX4_fetch_66 : decode cX4_fetch 66 = .ok (.aload_n 0, 1) := by decide +kernel
theorem dX4_fetch_67 : decode cX4_fetch 67 = .ok (.getfield 10, 3) := by decide +kernel
theorem dX4_fetch_70 : decode cX4_fetch 70 = .ok (.aload 4, 2) := by decide +kernel
theorem dX4_fetch_72 : decode cX4_fetch 72 = .ok (.sipush 255, 3) := by decide +kernel
theorem dX4_fetch_75 : decode cX4_fetch 75 = .ok (.invokevirtual 88, 3) := by decide +kernel
theorem dX4_fetch_78 : decode cX4_fetch 78 = .ok (.invokevirtual 98, 3) := by decide +kernel
theorem dX4_fetch_81 : decode cX4_fetch 81 = .ok (.aload_n 0, 1) := by decide +kernel
theorem dX4_fetch_82 : decode cX4_fetch 82 = .ok (.getfield 10, 3) := by decide +kernel
theorem dX4_fetch_85 : decode cX4_fetch 85 = .ok (.iconst 2, 1) := by decide +kernel
theorem dX4_fetch_86 : decode cX4_fetch 86 = .ok (.invokevirtual 102, 3) := by decide +kernel
theorem dX4_fetch_89 : decode cX4_fetch 89 = .ok (.land, 1) := by decide +kernel
theorem dX4_fetch_90 : decode cX4_fetch 90 = .ok (.lstore 7, 2) := by decide +kernel
theorem dX4_fetch_92 : decode cX4_fetch 92 = .ok (.aload_n 0, 1) := by decide +kernel
theorem dX4_fetch_93 : decode cX4_fetch 93 = .ok (.getfield 26, 3) := by decide +kernel
theorem dX4_fetch_96 : decode cX4_fetch 96 = .ok (.aload_n 0, 1) := by decide +kernel
theorem dX4_fetch_97 : decode cX4_fetch 97 = .ok (.getfield 10, 3) := by decide +kernel
theorem dX4_fetch_100 : decode cX4_fetch 100 = .ok (.lload 5, 2) := by decide +kernel
theorem dX4_fetch_102 : decode cX4_fetch 102 = .ok (.lload 7, 2) := by decide +kernel
theorem dX4_fetch_104 : decode cX4_fetch 104 = .ok (.aload_n 3, 1) := by decide +kernel
theorem dX4_fetch_105 : decode cX4_fetch 105 = .ok (.invokevirtual 92, 3) := by decide +kernel
theorem dX4_fetch_108 : decode cX4_fetch 108 = .ok (.invokevirtual 105, 3) := by decide +kernel
theorem dX4_fetch_111 : decode cX4_fetch 111 = .ok (.lstore 9, 2) := by decide +kernel
theorem dX4_fetch_113 : decode cX4_fetch 113 = .ok (.aload_n 0, 1) := by decide +kernel
theorem dX4_fetch_114 : decode cX4_fetch 114 = .ok (.getfield 33, 3) := by decide +kernel
theorem dX4_fetch_117 : decode cX4_fetch 117 = .ok (.aload_n 0, 1) := by decide +kernel
theorem dX4_fetch_118 : decode cX4_fetch 118 = .ok (.getfield 10, 3) := by decide +kernel
theorem dX4_fetch_121 : decode cX4_fetch 121 = .ok (.aload_n 0, 1) := by decide +kernel
theorem dX4_fetch_122 : decode cX4_fetch 122 = .ok (.getfield 10, 3) := by decide +kernel
theorem dX4_fetch_125 : decode cX4_fetch 125 = .ok (.lload 5, 2) := by decide +kernel
theorem dX4_fetch_127 : decode cX4_fetch 127 = .ok (.invokevirtual 98, 3) := by decide +kernel
theorem dX4_fetch_130 : decode cX4_fetch 130 = .ok (.aload_n 0, 1) := by decide +kernel
theorem dX4_fetch_131 : decode cX4_fetch 131 = .ok (.getfield 10, 3) := by decide +kernel
theorem dX4_fetch_134 : decode cX4_fetch 134 = .ok (.lload 9, 2) := by decide +kernel
theorem dX4_fetch_136 : decode cX4_fetch 136 = .ok (.invokevirtual 98, 3) := by decide +kernel
theorem dX4_fetch_139 : decode cX4_fetch 139 = .ok (.ldc2_w 96, 3) := by decide +kernel
theorem dX4_fetch_142 : decode cX4_fetch 142 = .ok (.lxor, 1) := by decide +kernel
theorem dX4_fetch_143 : decode cX4_fetch 143 = .ok (.land, 1) := by decide +kernel
theorem dX4_fetch_144 : decode cX4_fetch 144 = .ok (.invokevirtual 109, 3) := by decide +kernel
theorem dX4_fetch_147 : decode cX4_fetch 147 = .ok (.aload 4, 2) := by decide +kernel
theorem dX4_fetch_149 : decode cX4_fetch 149 = .ok (.aload_n 0, 1) := by decide +kernel
theorem dX4_fetch_150 : decode cX4_fetch 150 = .ok (.getfield 33, 3) := by decide +kernel
theorem dX4_fetch_153 : decode cX4_fetch 153 = .ok (.invokevirtual 113, 3) := by decide +kernel
theorem dX4_fetch_156 : decode cX4_fetch 156 = .ok (.invokevirtual 116, 3) := by decide +kernel
theorem dX4_fetch_159 : decode cX4_fetch 159 = .ok (.ifCond .ne 6, 3) := by decide +kernel
theorem dX4_fetch_162 : decode cX4_fetch 162 = .ok (.bipush (-2), 2) := by decide +kernel
theorem dX4_fetch_164 : decode cX4_fetch 164 = .ok (.ireturn, 1) := by decide +kernel
theorem dX4_fetch_165 : decode cX4_fetch 165 = .ok (.aload_n 0, 1) := by decide +kernel
theorem dX4_fetch_166 : decode cX4_fetch 166 = .ok (.aload_n 3, 1) := by decide +kernel
theorem dX4_fetch_167 : decode cX4_fetch 167 = .ok (.iload_n 2, 1) := by decide +kernel
theorem dX4_fetch_168 : decode cX4_fetch 168 = .ok (.iconst 4, 1) := by decide +kernel
theorem dX4_fetch_169 : decode cX4_fetch 169 = .ok (.invokevirtual 120, 3) := by decide +kernel
theorem dX4_fetch_172 : decode cX4_fetch 172 = .ok (.aload 4, 2) := by decide +kernel
theorem dX4_fetch_174 : decode cX4_fetch 174 = .ok (.aload_n 0, 1) := by decide +kernel
theorem dX4_fetch_175 : decode cX4_fetch 175 = .ok (.getfield 41, 3) := by decide +kernel
theorem dX4_fetch_178 : decode cX4_fetch 178 = .ok (.invokevirtual 78, 3) := by decide +kernel
theorem dX4_fetch_181 : decode cX4_fetch 181 = .ok (.ifCond .eq 13, 3) := by decide +kernel
theorem dX4_fetch_184 : decode cX4_fetch 184 = .ok (.aload_n 0, 1) := by decide +kernel
theorem dX4_fetch_185 : decode cX4_fetch 185 = .ok (.getfield 33, 3) := by decide +kernel
theorem dX4_fetch_188 : decode cX4_fetch 188 = .ok (.invokevirtual 124, 3) := by decide +kernel
theorem dX4_fetch_191 : decode cX4_fetch 191 = .ok (.goto 5, 3) := by decide +kernel
theorem dX4_fetch_194 : decode cX4_fetch 194 = .ok (.bipush (-2), 2) := by decide +kernel
theorem dX4_fetch_196 : decode cX4_fetch 196 = .ok (.ireturn, 1) := by decide +kernel
theorem dX4_push_0 : decode cX4_push 0 = .ok (.iload_n 1, 1) := by decide +kernel
theorem dX4_push_1 : decode cX4_push 1 = .ok (.invokestatic 82, 3) := by decide +kernel
theorem dX4_push_4 : decode cX4_push 4 = .ok (.ifCond .eq 10, 3) := by decide +kernel
theorem dX4_push_7 : decode cX4_push 7 = .ok (.iload_n 2, 1) := by decide +kernel
theorem dX4_push_8 : decode cX4_push 8 = .ok (.invokestatic 85, 3) := by decide +kernel
theorem dX4_push_11 : decode cX4_push 11 = .ok (.ifCond .ne 5, 3) := by decide +kernel
theorem dX4_push_14 : decode cX4_push 14 = .ok (.iconst (-1), 1) := by decide +kernel
theorem dX4_push_15 : decode cX4_push 15 = .ok (.ireturn, 1) := by decide +kernel
theorem dX4_push_16 : decode cX4_push 16 = .ok (.aload_n 0, 1) := by decide +kernel
theorem dX4_push_17 : decode cX4_push 17 = .ok (.getfield 18, 3) := by decide +kernel
theorem dX4_push_20 : decode cX4_push 20 = .ok (.iconst 0, 1) := by decide +kernel
theorem dX4_push_21 : decode cX4_push 21 = .ok (.aaload, 1) := by decide +kernel
theorem dX4_push_22 : decode cX4_push 22 = .ok (.astore_n 3, 1) := by decide +kernel
theorem dX4_push_23 : decode cX4_push 23 = .ok (.aload_n 0, 1) := by decide +kernel
theorem dX4_push_24 : decode cX4_push 24 = .ok (.getfield 18, 3) := by decide +kernel
theorem dX4_push_27 : decode cX4_push 27 = .ok (.iload_n 1, 1) := by decide +kernel
theorem dX4_push_28 : decode cX4_push 28 = .ok (.aaload, 1) := by decide +kernel
theorem dX4_push_29 : decode cX4_push 29 = .ok (.astore 4, 2) := by decide +kernel
theorem dX4_push_31 : decode cX4_push 31 = .ok (.aload 4, 2) := by decide +kernel
theorem dX4_push_33 : decode cX4_push 33 = .ok (.invokevirtual 48, 3) := by decide +kernel
theorem dX4_push_36 : decode cX4_push 36 = .ok (.ifCond .eq 10, 3) := by decide +kernel
theorem dX4_push_39 : decode cX4_push 39 = .ok (.aload_n 3, 1) := by decide +kernel
theorem dX4_push_40 : decode cX4_push 40 = .ok (.invokevirtual 48, 3) := by decide +kernel
theorem dX4_push_43 : decode cX4_push 43 = .ok (.ifCond .ne 6, 3) := by decide +kernel
theorem dX4_push_46 : decode cX4_push 46 = .ok (.bipush (-2), 2) := by decide +kernel
theorem dX4_push_48 : decode cX4_push 48 = .ok (.ireturn, 1) := by decide +kernel
theorem dX4_push_49 : decode cX4_push 49 = .ok (.aload 4, 2) := by decide +kernel
theorem dX4_push_51 : decode cX4_push 51 = .ok (.iload_n 2, 1) := by decide +kernel
theorem dX4_push_52 : decode cX4_push 52 = .ok (.invokevirtual 128, 3) := by decide +kernel
theorem dX4_push_55 : decode cX4_push 55 = .ok (.ifCond .ne 5, 3) := by decide +kernel
theorem dX4_push_58 : decode cX4_push 58 = .ok (.iconst (-1), 1) := by decide +kernel
theorem dX4_push_59 : decode cX4_push 59 = .ok (.ireturn, 1) := by decide +kernel
theorem dX4_push_60 : decode cX4_push 60 = .ok (.aload_n 0, 1) := by decide +kernel
theorem dX4_push_61 : decode cX4_push 61 = .ok (.aload 4, 2) := by decide +kernel
theorem dX4_push_63 : decode cX4_push 63 = .ok (.aload_n 3, 1) := by decide +kernel
theorem dX4_push_64 : decode cX4_push 64 = .ok (.iload_n 2, 1) := by decide +kernel
theorem dX4_push_65 : decode cX4_push 65 = .ok (.invokevirtual 131, 3) := by decide +kernel
theorem dX4_push_68 : decode cX4_push 68 = .ok (.ifCond .ne 17, 3) := by decide +kernel
theorem dX4_push_71 : decode cX4_push 71 = .ok (.aload_n 0, 1) := by decide +kernel
theorem dX4_push_72 : decode cX4_push 72 = .ok (.getfield 33, 3) := by decide +kernel
theorem dX4_push_75 : decode cX4_push 75 = .ok (.aload_n 0, 1) := by decide +kernel
theorem dX4_push_76 : decode cX4_push 76 = .ok (.getfield 10, 3) := by decide +kernel
theorem dX4_push_79 : decode cX4_push 79 = .ok (.lconst 0, 1) := by decide +kernel
theorem dX4_push_80 : decode cX4_push 80 = .ok (.invokevirtual 109, 3) := by decide +kernel
theorem dX4_push_83 : decode cX4_push 83 = .ok (.iconst 0, 1) := by decide +kernel
theorem dX4_push_84 : decode cX4_push 84 = .ok (.ireturn, 1) := by decide +kernel
theorem dX4_push_85 : decode cX4_push 85 = .ok (.aload_n 3, 1) := by decide +kernel
theorem dX4_push_86 : decode cX4_push 86 = .ok (.bipush 15, 2) := by decide +kernel
theorem dX4_push_88 : decode cX4_push 88 = .ok (.invokevirtual 88, 3) := by decide +kernel
theorem dX4_push_91 : decode cX4_push 91 = .ok (.aload 4, 2) := by decide +kernel
theorem dX4_push_93 : decode cX4_push 93 = .ok (.invokevirtual 92, 3) := by decide +kernel
theorem dX4_push_96 : decode cX4_push 96 = .ok (.land, 1) := by decide +kernel
theorem dX4_push_97 : decode cX4_push 97 = .ok (.lstore 5, 2) := by decide +kernel
theorem dX4_push_99 : decode cX4_push 99 = .ok (.aload_n 0, 1) := by decide +kernel
theorem dX4_push_100 : decode cX4_push 100 = .ok (.getfield 33, 3) := by decide +kernel
theorem dX4_push_103 : decode cX4_push 103 = .ok (.aload_n 0, 1) := by decide +kernel
theorem dX4_push_104 : decode cX4_push 104 = .ok (.getfield 10, 3) := by decide +kernel
theorem dX4_push_107 : decode cX4_push 107 = .ok (.aload_n 0, 1) := by decide +kernel
theorem dX4_push_108 : decode cX4_push 108 = .ok (.getfield 10, 3) := by decide +kernel
theorem dX4_push_111 : decode cX4_push 111 = .ok (.aload 4, 2) := by decide +kernel
theorem dX4_push_113 : decode cX4_push 113 = .ok (.iload_n 2, 1) := by decide +kernel
theorem dX4_push_114 : decode cX4_push 114 = .ok (.invokevirtual 88, 3) := by decide +kernel
theorem dX4_push_117 : decode cX4_push 117 = .ok (.invokevirtual 98, 3) := by decide +kernel
theorem dX4_push_120 : decode cX4_push 120 = .ok (.aload_n 0, 1) := by decide +kernel
theorem dX4_push_121 : decode cX4_push 121 = .ok (.getfield 10, 3) := by decide +kernel
theorem dX4_push_124 : decode cX4_push 124 = .ok (.lload 5, 2) := by decide +kernel
theorem dX4_push_126 : decode cX4_push 126 = .ok (.invokevirtual 98, 3) := by decide +kernel
theorem dX4_push_129 : decode cX4_push 129 = .ok (.ldc2_w 96, 3) := by decide +kernel
theorem dX4_push_132 : decode cX4_push 132 = .ok (.lxor, 1) := by decide +kernel
theorem dX4_push_133 : decode cX4_push 133 = .ok (.land, 1) := by decide +kernel
theorem dX4_push_134 : decode cX4_push 134 = .ok (.invokevirtual 109, 3) := by decide +kernel
theorem dX4_push_137 : decode cX4_push 137 = .ok (.aload_n 0, 1) := by decide +kernel
theorem dX4_push_138 : decode cX4_push 138 = .ok (.aload 4, 2) := by decide +kernel
theorem dX4_push_140 : decode cX4_push 140 = .ok (.aload_n 3, 1) := by decide +kernel
theorem dX4_push_141 : decode cX4_push 141 = .ok (.iload_n 2, 1) := by decide +kernel
theorem dX4_push_142 : decode cX4_push 142 = .ok (.invokevirtual 135, 3) := by decide +kernel
theorem dX4_push_145 : decode cX4_push 145 = .ok (.ifCond .eq 7, 3) := by decide +kernel
theorem dX4_push_148 : decode cX4_push 148 = .ok (.iconst 1, 1) := by decide +kernel
theorem dX4_push_149 : decode cX4_push 149 = .ok (.goto 5, 3) := by decide +kernel
theorem dX4_push_152 : decode cX4_push 152 = .ok (.bipush (-2), 2) := by decide +kernel
theorem dX4_push_154 : decode cX4_push 154 = .ok (.ireturn, 1) := by decide +kernel
theorem dX4_arm_0 : decode cX4_arm 0 = .ok (.iload_n 1, 1) := by decide +kernel
theorem dX4_arm_1 : decode cX4_arm 1 = .ok (.invokestatic 44, 3) := by decide +kernel
theorem dX4_arm_4 : decode cX4_arm 4 = .ok (.ifCond .eq 14, 3) := by decide +kernel
theorem dX4_arm_7 : decode cX4_arm 7 = .ok (.iload_n 2, 1) := by decide +kernel
theorem dX4_arm_8 : decode cX4_arm 8 = .ok (.iconst (-1), 1) := by decide +kernel
theorem dX4_arm_9 : decode cX4_arm 9 = .ok (.if_icmp .lt 9, 3) := by decide +kernel
theorem dX4_arm_12 : decode cX4_arm 12 = .ok (.iload_n 2, 1) := by decide +kernel
theorem dX4_arm_13 : decode cX4_arm 13 = .ok (.bipush 100, 2) := by decide +kernel
theorem dX4_arm_15 : decode cX4_arm 15 = .ok (.if_icmp .le 5, 3) := by decide +kernel
theorem dX4_arm_18 : decode cX4_arm 18 = .ok (.iconst 0, 1) := by decide +kernel
theorem dX4_arm_19 : decode cX4_arm 19 = .ok (.ireturn, 1) := by decide +kernel
theorem dX4_arm_20 : decode cX4_arm 20 = .ok (.aload_n 0, 1) := by decide +kernel
theorem dX4_arm_21 : decode cX4_arm 21 = .ok (.getfield 18, 3) := by decide +kernel
theorem dX4_arm_24 : decode cX4_arm 24 = .ok (.iload_n 1, 1) := by decide +kernel
theorem dX4_arm_25 : decode cX4_arm 25 = .ok (.aaload, 1) := by decide +kernel
theorem dX4_arm_26 : decode cX4_arm 26 = .ok (.iload_n 2, 1) := by decide +kernel
theorem dX4_arm_27 : decode cX4_arm 27 = .ok (.invokevirtual 138, 3) := by decide +kernel
theorem dX4_arm_30 : decode cX4_arm 30 = .ok (.iconst 1, 1) := by decide +kernel
theorem dX4_arm_31 : decode cX4_arm 31 = .ok (.ireturn, 1) := by decide +kernel
theorem dX4_recover_0 : decode cX4_recover 0 = .ok (.iload_n 1, 1) := by decide +kernel
theorem dX4_recover_1 : decode cX4_recover 1 = .ok (.invokestatic 44, 3) := by decide +kernel
theorem dX4_recover_4 : decode cX4_recover 4 = .ok (.ifCond .eq 15, 3) := by decide +kernel
theorem dX4_recover_7 : decode cX4_recover 7 = .ok (.aload_n 0, 1) := by decide +kernel
theorem dX4_recover_8 : decode cX4_recover 8 = .ok (.getfield 18, 3) := by decide +kernel
theorem dX4_recover_11 : decode cX4_recover 11 = .ok (.iload_n 1, 1) := by decide +kernel
theorem dX4_recover_12 : decode cX4_recover 12 = .ok (.aaload, 1) := by decide +kernel
theorem dX4_recover_13 : decode cX4_recover 13 = .ok (.invokevirtual 48, 3) := by decide +kernel
theorem dX4_recover_16 : decode cX4_recover 16 = .ok (.ifCond .eq 5, 3) := by decide +kernel
theorem dX4_recover_19 : decode cX4_recover 19 = .ok (.iconst (-1), 1) := by decide +kernel
theorem dX4_recover_20 : decode cX4_recover 20 = .ok (.ireturn, 1) := by decide +kernel
theorem dX4_recover_21 : decode cX4_recover 21 = .ok (.aload_n 0, 1) := by decide +kernel
theorem dX4_recover_22 : decode cX4_recover 22 = .ok (.getfield 18, 3) := by decide +kernel
theorem dX4_recover_25 : decode cX4_recover 25 = .ok (.iload_n 1, 1) := by decide +kernel
theorem dX4_recover_26 : decode cX4_recover 26 = .ok (.aaload, 1) := by decide +kernel
theorem dX4_recover_27 : decode cX4_recover 27 = .ok (.invokevirtual 142, 3) := by decide +kernel
theorem dX4_recover_30 : decode cX4_recover 30 = .ok (.ireturn, 1) := by decide +kernel
theorem dX4_collect_0 : decode cX4_collect 0 = .ok (.iload_n 1, 1) := by decide +kernel
theorem dX4_collect_1 : decode cX4_collect 1 = .ok (.invokestatic 44, 3) := by decide +kernel
theorem dX4_collect_4 : decode cX4_collect 4 = .ok (.ifCond .ne 5, 3) := by decide +kernel
theorem dX4_collect_7 : decode cX4_collect 7 = .ok (.iconst (-1), 1) := by decide +kernel
theorem dX4_collect_8 : decode cX4_collect 8 = .ok (.ireturn, 1) := by decide +kernel
theorem dX4_collect_9 : decode cX4_collect 9 = .ok (.aload_n 0, 1) := by decide +kernel
theorem dX4_collect_10 : decode cX4_collect 10 = .ok (.getfield 18, 3) := by decide +kernel
theorem dX4_collect_13 : decode cX4_collect 13 = .ok (.iload_n 1, 1) := by decide +kernel
theorem dX4_collect_14 : decode cX4_collect 14 = .ok (.aaload, 1) := by decide +kernel
theorem dX4_collect_15 : decode cX4_collect 15 = .ok (.astore_n 2, 1) := by decide +kernel
theorem dX4_collect_16 : decode cX4_collect 16 = .ok (.aload_n 2, 1) := by decide +kernel
theorem dX4_collect_17 : decode cX4_collect 17 = .ok (.invokevirtual 48, 3) := by decide +kernel
theorem dX4_collect_20 : decode cX4_collect 20 = .ok (.ifCond .ne 6, 3) := by decide +kernel
theorem dX4_collect_23 : decode cX4_collect 23 = .ok (.bipush (-2), 2) := by decide +kernel
theorem dX4_collect_25 : decode cX4_collect 25 = .ok (.ireturn, 1) := by decide +kernel
theorem dX4_collect_26 : decode cX4_collect 26 = .ok (.aload_n 2, 1) := by decide +kernel
theorem dX4_collect_27 : decode cX4_collect 27 = .ok (.aload_n 0, 1) := by decide +kernel
theorem dX4_collect_28 : decode cX4_collect 28 = .ok (.getfield 10, 3) := by decide +kernel
theorem dX4_collect_31 : decode cX4_collect 31 = .ok (.aload_n 2, 1) := by decide +kernel
theorem dX4_collect_32 : decode cX4_collect 32 = .ok (.sipush 255, 3) := by decide +kernel
theorem dX4_collect_35 : decode cX4_collect 35 = .ok (.invokevirtual 88, 3) := by decide +kernel
theorem dX4_collect_38 : decode cX4_collect 38 = .ok (.invokevirtual 98, 3) := by decide +kernel
theorem dX4_collect_41 : decode cX4_collect 41 = .ok (.invokevirtual 145, 3) := by decide +kernel
theorem dX4_collect_44 : decode cX4_collect 44 = .ok (.ireturn, 1) := by decide +kernel
theorem dX4_up_0 : decode cX4_up 0 = .ok (.iload_n 1, 1) := by decide +kernel
theorem dX4_up_1 : decode cX4_up 1 = .ok (.invokestatic 44, 3) := by decide +kernel
theorem dX4_up_4 : decode cX4_up 4 = .ok (.ifCond .eq 19, 3) := by decide +kernel
theorem dX4_up_7 : decode cX4_up 7 = .ok (.aload_n 0, 1) := by decide +kernel
theorem dX4_up_8 : decode cX4_up 8 = .ok (.getfield 18, 3) := by decide +kernel
theorem dX4_up_11 : decode cX4_up 11 = .ok (.iload_n 1, 1) := by decide +kernel
theorem dX4_up_12 : decode cX4_up 12 = .ok (.aaload, 1) := by decide +kernel
theorem dX4_up_13 : decode cX4_up 13 = .ok (.invokevirtual 48, 3) := by decide +kernel
theorem dX4_up_16 : decode cX4_up 16 = .ok (.ifCond .eq 7, 3) := by decide +kernel
theorem dX4_up_19 : decode cX4_up 19 = .ok (.iconst 1, 1) := by decide +kernel
theorem dX4_up_20 : decode cX4_up 20 = .ok (.goto 4, 3) := by decide +kernel
theorem dX4_up_23 : decode cX4_up 23 = .ok (.iconst 0, 1) := by decide +kernel
theorem dX4_up_24 : decode cX4_up 24 = .ok (.ireturn, 1) := by decide +kernel
theorem dX4_reference_0 : decode cX4_reference 0 = .ok (.iload_n 1, 1) := by decide +kernel
theorem dX4_reference_1 : decode cX4_reference 1 = .ok (.invokestatic 44, 3) := by decide +kernel
theorem dX4_reference_4 : decode cX4_reference 4 = .ok (.ifCond .eq 13, 3) := by decide +kernel
theorem dX4_reference_7 : decode cX4_reference 7 = .ok (.iload_n 2, 1) := by decide +kernel
theorem dX4_reference_8 : decode cX4_reference 8 = .ok (.ifCond .lt 9, 3) := by decide +kernel
theorem dX4_reference_11 : decode cX4_reference 11 = .ok (.iload_n 2, 1) := by decide +kernel
theorem dX4_reference_12 : decode cX4_reference 12 = .ok (.bipush 8, 2) := by decide +kernel
theorem dX4_reference_14 : decode cX4_reference 14 = .ok (.if_icmp .lt 5, 3) := by decide +kernel
theorem dX4_reference_17 : decode cX4_reference 17 = .ok (.iconst (-1), 1) := by decide +kernel
theorem dX4_reference_18 : decode cX4_reference 18 = .ok (.ireturn, 1) := by decide +kernel
theorem dX4_reference_19 : decode cX4_reference 19 = .ok (.aload_n 0, 1) := by decide +kernel
theorem dX4_reference_20 : decode cX4_reference 20 = .ok (.getfield 18, 3) := by decide +kernel
theorem dX4_reference_23 : decode cX4_reference 23 = .ok (.iload_n 1, 1) := by decide +kernel
theorem dX4_reference_24 : decode cX4_reference 24 = .ok (.aaload, 1) := by decide +kernel
theorem dX4_reference_25 : decode cX4_reference 25 = .ok (.invokevirtual 48, 3) := by decide +kernel
theorem dX4_reference_28 : decode cX4_reference 28 = .ok (.ifCond .ne 6, 3) := by decide +kernel
theorem dX4_reference_31 : decode cX4_reference 31 = .ok (.bipush (-2), 2) := by decide +kernel
theorem dX4_reference_33 : decode cX4_reference 33 = .ok (.ireturn, 1) := by decide +kernel
theorem dX4_reference_34 : decode cX4_reference 34 = .ok (.aload_n 0, 1) := by decide +kernel
theorem dX4_reference_35 : decode cX4_reference 35 = .ok (.getfield 18, 3) := by decide +kernel
theorem dX4_reference_38 : decode cX4_reference 38 = .ok (.iload_n 1, 1) := by decide +kernel
theorem dX4_reference_39 : decode cX4_reference 39 = .ok (.aaload, 1) := by decide +kernel
theorem dX4_reference_40 : decode cX4_reference 40 = .ok (.iload_n 2, 1) := by decide +kernel
theorem dX4_reference_41 : decode cX4_reference 41 = .ok (.invokevirtual 63, 3) := by decide +kernel
theorem dX4_reference_44 : decode cX4_reference 44 = .ok (.istore_n 3, 1) := by decide +kernel
theorem dX4_reference_45 : decode cX4_reference 45 = .ok (.iload_n 3, 1) := by decide +kernel
theorem dX4_reference_46 : decode cX4_reference 46 = .ok (.iconst (-1), 1) := by decide +kernel
theorem dX4_reference_47 : decode cX4_reference 47 = .ok (.if_icmp .ne 8, 3) := by decide +kernel
theorem dX4_reference_50 : decode cX4_reference 50 = .ok (.bipush (-4), 2) := by decide +kernel
theorem dX4_reference_52 : decode cX4_reference 52 = .ok (.goto 4, 3) := by decide +kernel
theorem dX4_reference_55 : decode cX4_reference 55 = .ok (.iload_n 3, 1) := by decide +kernel
theorem dX4_reference_56 : decode cX4_reference 56 = .ok (.ireturn, 1) := by decide +kernel
theorem dX4_holds_0 : decode cX4_holds 0 = .ok (.iload_n 1, 1) := by decide +kernel
theorem dX4_holds_1 : decode cX4_holds 1 = .ok (.invokestatic 44, 3) := by decide +kernel
theorem dX4_holds_4 : decode cX4_holds 4 = .ok (.ifCond .ne 5, 3) := by decide +kernel
theorem dX4_holds_7 : decode cX4_holds 7 = .ok (.iconst (-1), 1) := by decide +kernel
theorem dX4_holds_8 : decode cX4_holds 8 = .ok (.ireturn, 1) := by decide +kernel
theorem dX4_holds_9 : decode cX4_holds 9 = .ok (.aload_n 0, 1) := by decide +kernel
theorem dX4_holds_10 : decode cX4_holds 10 = .ok (.getfield 18, 3) := by decide +kernel
theorem dX4_holds_13 : decode cX4_holds 13 = .ok (.iload_n 1, 1) := by decide +kernel
theorem dX4_holds_14 : decode cX4_holds 14 = .ok (.aaload, 1) := by decide +kernel
theorem dX4_holds_15 : decode cX4_holds 15 = .ok (.invokevirtual 48, 3) := by decide +kernel
theorem dX4_holds_18 : decode cX4_holds 18 = .ok (.ifCond .ne 6, 3) := by decide +kernel
theorem dX4_holds_21 : decode cX4_holds 21 = .ok (.bipush (-2), 2) := by decide +kernel
theorem dX4_holds_23 : decode cX4_holds 23 = .ok (.ireturn, 1) := by decide +kernel
theorem dX4_holds_24 : decode cX4_holds 24 = .ok (.aload_n 0, 1) := by decide +kernel
theorem dX4_holds_25 : decode cX4_holds 25 = .ok (.getfield 18, 3) := by decide +kernel
theorem dX4_holds_28 : decode cX4_holds 28 = .ok (.iload_n 1, 1) := by decide +kernel
theorem dX4_holds_29 : decode cX4_holds 29 = .ok (.aaload, 1) := by decide +kernel
theorem dX4_holds_30 : decode cX4_holds 30 = .ok (.invokevirtual 92, 3) := by decide +kernel
theorem dX4_holds_33 : decode cX4_holds 33 = .ok (.iload_n 2, 1) := by decide +kernel
theorem dX4_holds_34 : decode cX4_holds 34 = .ok (.invokestatic 149, 3) := by decide +kernel
theorem dX4_holds_37 : decode cX4_holds 37 = .ok (.ifCond .eq 7, 3) := by decide +kernel
theorem dX4_holds_40 : decode cX4_holds 40 = .ok (.iconst 1, 1) := by decide +kernel
theorem dX4_holds_41 : decode cX4_holds 41 = .ok (.goto 4, 3) := by decide +kernel
theorem dX4_holds_44 : decode cX4_holds 44 = .ok (.iconst 0, 1) := by decide +kernel
theorem dX4_holds_45 : decode cX4_holds 45 = .ok (.ireturn, 1) := by decide +kernel
theorem dX4_count_0 : decode cX4_count 0 = .ok (.iload_n 1, 1) := by decide +kernel
theorem dX4_count_1 : decode cX4_count 1 = .ok (.invokestatic 44, 3) := by decide +kernel
theorem dX4_count_4 : decode cX4_count 4 = .ok (.ifCond .ne 5, 3) := by decide +kernel
theorem dX4_count_7 : decode cX4_count 7 = .ok (.iconst (-1), 1) := by decide +kernel
theorem dX4_count_8 : decode cX4_count 8 = .ok (.ireturn, 1) := by decide +kernel
theorem dX4_count_9 : decode cX4_count 9 = .ok (.aload_n 0, 1) := by decide +kernel
theorem dX4_count_10 : decode cX4_count 10 = .ok (.getfield 18, 3) := by decide +kernel
theorem dX4_count_13 : decode cX4_count 13 = .ok (.iload_n 1, 1) := by decide +kernel
theorem dX4_count_14 : decode cX4_count 14 = .ok (.aaload, 1) := by decide +kernel
theorem dX4_count_15 : decode cX4_count 15 = .ok (.invokevirtual 48, 3) := by decide +kernel
theorem dX4_count_18 : decode cX4_count 18 = .ok (.ifCond .ne 6, 3) := by decide +kernel
theorem dX4_count_21 : decode cX4_count 21 = .ok (.bipush (-2), 2) := by decide +kernel
theorem dX4_count_23 : decode cX4_count 23 = .ok (.ireturn, 1) := by decide +kernel
theorem dX4_count_24 : decode cX4_count 24 = .ok (.aload_n 0, 1) := by decide +kernel
theorem dX4_count_25 : decode cX4_count 25 = .ok (.getfield 18, 3) := by decide +kernel
theorem dX4_count_28 : decode cX4_count 28 = .ok (.iload_n 1, 1) := by decide +kernel
theorem dX4_count_29 : decode cX4_count 29 = .ok (.aaload, 1) := by decide +kernel
theorem dX4_count_30 : decode cX4_count 30 = .ok (.invokevirtual 92, 3) := by decide +kernel
theorem dX4_count_33 : decode cX4_count 33 = .ok (.invokestatic 153, 3) := by decide +kernel
theorem dX4_count_36 : decode cX4_count 36 = .ok (.ireturn, 1) := by decide +kernel
theorem dX4_talk_0 : decode cX4_talk 0 = .ok (.iload_n 1, 1) := by decide +kernel
theorem dX4_talk_1 : decode cX4_talk 1 = .ok (.tableswitch 51 0 2 #[27, 35, 43], 27) := by decide +kernel
theorem dX4_talk_28 : decode cX4_talk 28 = .ok (.aload_n 0, 1) := by decide +kernel
theorem dX4_talk_29 : decode cX4_talk 29 = .ok (.getfield 26, 3) := by decide +kernel
theorem dX4_talk_32 : decode cX4_talk 32 = .ok (.invokevirtual 158, 3) := by decide +kernel
theorem dX4_talk_35 : decode cX4_talk 35 = .ok (.ireturn, 1) := by decide +kernel
theorem dX4_talk_36 : decode cX4_talk 36 = .ok (.aload_n 0, 1) := by decide +kernel
theorem dX4_talk_37 : decode cX4_talk 37 = .ok (.getfield 26, 3) := by decide +kernel
theorem dX4_talk_40 : decode cX4_talk 40 = .ok (.invokevirtual 161, 3) := by decide +kernel
theorem dX4_talk_43 : decode cX4_talk 43 = .ok (.ireturn, 1) := by decide +kernel
theorem dX4_talk_44 : decode cX4_talk 44 = .ok (.aload_n 0, 1) := by decide +kernel
theorem dX4_talk_45 : decode cX4_talk 45 = .ok (.getfield 26, 3) := by decide +kernel
theorem dX4_talk_48 : decode cX4_talk 48 = .ok (.invokevirtual 164, 3) := by decide +kernel
theorem dX4_talk_51 : decode cX4_talk 51 = .ok (.ireturn, 1) := by decide +kernel
theorem dX4_talk_52 : decode cX4_talk 52 = .ok (.iconst (-1), 1) := by decide +kernel
theorem dX4_talk_53 : decode cX4_talk 53 = .ok (.ireturn, 1) := by decide +kernel
theorem dX4_packed_0 : decode cX4_packed 0 = .ok (.aload_n 0, 1) := by decide +kernel
theorem dX4_packed_1 : decode cX4_packed 1 = .ok (.getfield 33, 3) := by decide +kernel
theorem dX4_packed_4 : decode cX4_packed 4 = .ok (.invokevirtual 124, 3) := by decide +kernel
theorem dX4_packed_7 : decode cX4_packed 7 = .ok (.ireturn, 1) := by decide +kernel
theorem dX4_packAt_0 : decode cX4_packAt 0 = .ok (.aload_n 0, 1) := by decide +kernel
theorem dX4_packAt_1 : decode cX4_packAt 1 = .ok (.getfield 33, 3) := by decide +kernel
theorem dX4_packAt_4 : decode cX4_packAt 4 = .ok (.iload_n 1, 1) := by decide +kernel
theorem dX4_packAt_5 : decode cX4_packAt 5 = .ok (.invokevirtual 167, 3) := by decide +kernel
theorem dX4_packAt_8 : decode cX4_packAt 8 = .ok (.ireturn, 1) := by decide +kernel
theorem dX4_base_0 : decode cX4_base 0 = .ok (.aload_n 0, 1) := by decide +kernel
theorem dX4_base_1 : decode cX4_base 1 = .ok (.getfield 33, 3) := by decide +kernel
theorem dX4_base_4 : decode cX4_base 4 = .ok (.iload_n 1, 1) := by decide +kernel
theorem dX4_base_5 : decode cX4_base 5 = .ok (.invokevirtual 170, 3) := by decide +kernel
theorem dX4_base_8 : decode cX4_base 8 = .ok (.ireturn, 1) := by decide +kernel
theorem dX4_weight_0 : decode cX4_weight 0 = .ok (.aload_n 0, 1) := by decide +kernel
theorem dX4_weight_1 : decode cX4_weight 1 = .ok (.getfield 33, 3) := by decide +kernel
theorem dX4_weight_4 : decode cX4_weight 4 = .ok (.invokevirtual 173, 3) := by decide +kernel
theorem dX4_weight_7 : decode cX4_weight 7 = .ok (.ireturn, 1) := by decide +kernel
theorem dX4_verdict_0 : decode cX4_verdict 0 = .ok (.iload_n 1, 1) := by decide +kernel
theorem dX4_verdict_1 : decode cX4_verdict 1 = .ok (.invokestatic 60, 3) := by decide +kernel
theorem dX4_verdict_4 : decode cX4_verdict 4 = .ok (.ifCond .eq 12, 3) := by decide +kernel
theorem dX4_verdict_7 : decode cX4_verdict 7 = .ok (.aload_n 0, 1) := by decide +kernel
theorem dX4_verdict_8 : decode cX4_verdict 8 = .ok (.getfield 37, 3) := by decide +kernel
theorem dX4_verdict_11 : decode cX4_verdict 11 = .ok (.iload_n 1, 1) := by decide +kernel
theorem dX4_verdict_12 : decode cX4_verdict 12 = .ok (.iaload, 1) := by decide +kernel
theorem dX4_verdict_13 : decode cX4_verdict 13 = .ok (.goto 4, 3) := by decide +kernel
theorem dX4_verdict_16 : decode cX4_verdict 16 = .ok (.iconst 0, 1) := by decide +kernel
theorem dX4_verdict_17 : decode cX4_verdict 17 = .ok (.ireturn, 1) := by decide +kernel
theorem dX5_isNode_0 : decode cX5_isNode 0 = .ok (.iload_n 0, 1) := by decide +kernel
theorem dX5_isNode_1 : decode cX5_isNode 1 = .ok (.ifCond .lt 12, 3) := by decide +kernel
theorem dX5_isNode_4 : decode cX5_isNode 4 = .ok (.iload_n 0, 1) := by decide +kernel
theorem dX5_isNode_5 : decode cX5_isNode 5 = .ok (.iconst 2, 1) := by decide +kernel
theorem dX5_isNode_6 : decode cX5_isNode 6 = .ok (.if_icmp .gt 7, 3) := by decide +kernel
theorem dX5_isNode_9 : decode cX5_isNode 9 = .ok (.iconst 1, 1) := by decide +kernel
theorem dX5_isNode_10 : decode cX5_isNode 10 = .ok (.goto 4, 3) := by decide +kernel
theorem dX5_isNode_13 : decode cX5_isNode 13 = .ok (.iconst 0, 1) := by decide +kernel
theorem dX5_isNode_14 : decode cX5_isNode 14 = .ok (.ireturn, 1) := by decide +kernel
theorem dX5_many_0 : decode cX5_many 0 = .ok (.iconst 0, 1) := by decide +kernel
theorem dX5_many_1 : decode cX5_many 1 = .ok (.istore_n 2, 1) := by decide +kernel
theorem dX5_many_2 : decode cX5_many 2 = .ok (.iconst 0, 1) := by decide +kernel
theorem dX5_many_3 : decode cX5_many 3 = .ok (.istore_n 3, 1) := by decide +kernel
theorem dX5_many_4 : decode cX5_many 4 = .ok (.iload_n 3, 1) := by decide +kernel
theorem dX5_many_5 : decode cX5_many 5 = .ok (.bipush 60, 2) := by decide +kernel
theorem dX5_many_7 : decode cX5_many 7 = .ok (.if_icmp .ge 18, 3) := by decide +kernel
theorem dX5_many_10 : decode cX5_many 10 = .ok (.iload_n 2, 1) := by decide +kernel
theorem dX5_many_11 : decode cX5_many 11 = .ok (.lload_n 0, 1) := by decide +kernel
theorem dX5_many_12 : decode cX5_many 12 = .ok (.iload_n 3, 1) := by decide +kernel
theorem dX5_many_13 : decode cX5_many 13 = .ok (.lshr, 1) := by decide +kernel
theorem dX5_many_14 : decode cX5_many 14 = .ok (.lconst 1, 1) := by decide +kernel
theorem dX5_many_15 : decode cX5_many 15 = .ok (.land, 1) := by decide +kernel
